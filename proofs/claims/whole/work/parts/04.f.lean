/-! LeastSet: what it means -/
def hyB (lc : Nat → Bool) (Y : Nat) (z : Int) : Bool := decide (0 ≤ z) && decide (z < Y) && lc z.toNat
def bgB (lc : Nat → Bool) (y : Nat) : Bool := lc y && (decide (y = 0) || !lc (y - 1))
def bgN (lc : Nat → Bool) : Nat → Nat
  | 0 => 0
  | n + 1 => bgN lc n + (if bgB lc n = true then 1 else 0)
theorem bgN_le (lc : Nat → Bool) (n : Nat) : bgN lc n ≤ n := by
  induction n with
  | zero => simp [bgN]
  | succ n ih => simp only [bgN]; split <;> omega
theorem bgN_mono (lc : Nat → Bool) {i n : Nat} (h : i ≤ n) : bgN lc i ≤ bgN lc n := by
  induction n with
  | zero => obtain rfl : i = 0 := by omega
            exact Nat.le_refl _
  | succ n ih =>
    by_cases hi : i = n + 1
    · subst hi; exact Nat.le_refl _
    · simp only [bgN]; have := ih (by omega); omega
def spOf (lc : Nat → Bool) (Y k F L : Nat) : Prop := F ≤ L ∧ L < Y ∧ bgB lc F = true ∧ bgN lc F = k ∧ (∀ j, F ≤ j → j ≤ L → lc j = true) ∧ ¬ (L + 1 < Y ∧ lc (L + 1) = true)
def spAll (lc : Nat → Bool) (Y n : Nat) (lf ll : Nat → Int) : Prop := ∀ k, k < n → ∃ F L : Nat, lf k = F ∧ ll k = L ∧ spOf lc Y k F L
def spOpen (lc : Nat → Bool) (Y i : Nat) : Prop := 0 < i ∧ i < Y ∧ lc (i - 1) = true ∧ lc i = true
def spInv (lc : Nat → Bool) (Y i n : Nat) (lf ll : Nat → Int) : Prop := n ≤ i ∧ spAll lc Y n lf ll ∧ (spOpen lc Y i → bgN lc i = n + 1 ∧ ∃ F : Nat, lf n = F ∧ F < i ∧ bgB lc F = true ∧ bgN lc F = n ∧ ∀ j, F ≤ j → j < i → lc j = true) ∧ (¬ spOpen lc Y i → bgN lc i = n)
/-- the years ahead of a year, by weight, then by number -/
def ahB (w : Nat → Int) (y j : Nat) : Bool := decide (w y < w j) || (decide (w j = w y) && decide (j < y))
def ahTo (w : Nat → Int) (y : Nat) (n : Nat) : Int := sumTo (fun j => if ahB w y j = true then w j else 0) n
def need (w : Nat → Int) (Y : Nat) (u v : Int) (y : Nat) : Bool := decide (0 < w y) && decide (ahTo w y Y * v < u * sumTo w Y)
def chTo (lc : Nat → Bool) (w : Nat → Int) (n : Nat) : Int := sumTo (fun j => if lc j = true then w j else 0) n
def cnB (lc : Nat → Bool) : Nat → Nat
  | 0 => 0
  | n + 1 => cnB lc n + (if lc n = true then 1 else 0)
theorem cnB_le (lc : Nat → Bool) (n : Nat) : cnB lc n ≤ n := by
  induction n with
  | zero => simp [cnB]
  | succ n ih => simp only [cnB]; split <;> omega
theorem cnB_all {lc : Nat → Bool} {n : Nat} (h : cnB lc n = n) {j : Nat} (hj : j < n) : lc j = true := by
  induction n with
  | zero => omega
  | succ n ih =>
    simp only [cnB] at h
    have h1 := cnB_le lc n
    by_cases hl : lc n = true
    · rw [if_pos hl] at h
      by_cases e : j = n
      · subst e; exact hl
      · exact ih (by omega) (by omega)
    · rw [if_neg hl] at h; omega
theorem cnB_none {lc : Nat → Bool} {n : Nat} (h : ∀ j, j < n → lc j = false) : cnB lc n = 0 := by
  induction n with
  | zero => rfl
  | succ n ih => simp only [cnB, ih (fun j hj => h j (by omega)), h n (by omega)]; rfl
theorem cnB_up {lc : Nat → Bool} {y n : Nat} (hf : lc y = false) : cnB (va_up lc y true) n = cnB lc n + (if y < n then 1 else 0) := by
  induction n with
  | zero => rfl
  | succ n ih =>
    simp only [cnB, ih]
    by_cases e : n = y
    · subst e; rw [va_up_self, hf]; simp
    · rw [va_up_ne _ _ e]
      by_cases h1 : y < n
      · rw [if_pos h1, if_pos (by omega : y < n + 1)]; omega
      · rw [if_neg h1, if_neg (by omega : ¬ y < n + 1)]; omega
theorem chTo_up {lc : Nat → Bool} {w : Nat → Int} {y n : Nat} (hf : lc y = false) : chTo (va_up lc y true) w n = chTo lc w n + (if y < n then w y else 0) := by
  unfold chTo
  induction n with
  | zero => rfl
  | succ n ih =>
    simp only [sumTo, ih]
    by_cases e : n = y
    · subst e; rw [va_up_self, hf]; simp
    · rw [va_up_ne _ _ e]
      by_cases h1 : y < n
      · rw [if_pos h1, if_pos (by omega : y < n + 1)]; omega
      · rw [if_neg h1, if_neg (by omega : ¬ y < n + 1)]; omega
theorem chTo_none {lc : Nat → Bool} {w : Nat → Int} {n : Nat} (h : ∀ j, j < n → lc j = false) : chTo lc w n = 0 := by
  unfold chTo
  induction n with
  | zero => rfl
  | succ n ih => simp only [sumTo, ih (fun j hj => h j (by omega)), h n (by omega)]; rfl
theorem sumTo_le {f g : Nat → Int} {n : Nat} (h : ∀ j, j < n → f j ≤ g j) : sumTo f n ≤ sumTo g n := by
  induction n with
  | zero => exact Int.le_refl _
  | succ n ih => simp only [sumTo]; have := ih (fun j hj => h j (by omega)); have := h n (by omega); omega
/-- what holds of the years picked so far -/
def gpInv (w : Nat → Int) (Y : Nat) (u v : Int) (lc : Nat → Bool) : Prop := (∀ y, y < Y → lc y = true → need w Y u v y = true) ∧ ∀ c y, c < Y → y < Y → lc c = true → lc y = false → 0 < w y → ahB w y c = true
theorem gp_ah {w : Nat → Int} {Y : Nat} {u v : Int} {lc : Nat → Bool} (hI : gpInv w Y u v lc) {y : Nat} (hy : y < Y) (hf : lc y = false) (hp : 0 < w y) (hg : ∀ j, j < Y → lc j = false → w j < w y ∨ (w j = w y ∧ y ≤ j)) : ahTo w y Y = chTo lc w Y := by
  unfold ahTo chTo
  refine sumTo_congr (fun j hj => ?_)
  cases hl : lc j with
  | true => rw [hI.2 j y hj hy hl hf hp]
  | false =>
    have := hg j hj hl
    have e : ahB w y j = false := by
      simp only [ahB, Bool.or_eq_false_iff, Bool.and_eq_false_iff, decide_eq_false_iff_not]
      omega
    rw [e]
theorem gp_step {w : Nat → Int} {Y : Nat} {u v : Int} {lc : Nat → Bool} (hI : gpInv w Y u v lc) {y : Nat} (hy : y < Y) (hf : lc y = false) (hp : 0 < w y) (hg : ∀ j, j < Y → lc j = false → w j < w y ∨ (w j = w y ∧ y ≤ j)) (hd : v * chTo lc w Y < u * sumTo w Y) : gpInv w Y u v (va_up lc y true) := by
  refine ⟨fun j hj hl => ?_, fun c j hc hj hlc hlj hpj => ?_⟩
  · by_cases e : j = y
    · subst e
      simp only [need, Bool.and_eq_true, decide_eq_true_eq]
      refine ⟨hp, ?_⟩
      rw [gp_ah hI hj hf hp hg, Int.mul_comm]
      exact hd
    · rw [va_up_ne _ _ e] at hl
      exact hI.1 j hj hl
  · have ejy : j ≠ y := fun e => by subst e; rw [va_up_self] at hlj; exact absurd hlj (by decide)
    rw [va_up_ne _ _ ejy] at hlj
    by_cases e : c = y
    · subst e
      have := hg j hj hlj
      simp only [ahB, Bool.or_eq_true, Bool.and_eq_true, decide_eq_true_eq]
      omega
    · rw [va_up_ne _ _ e] at hlc
      exact hI.2 c j hc hj hlc hlj hpj
/-- at the end the years picked are the needed ones -/
theorem gp_end {w : Nat → Int} {Y : Nat} {u v : Int} {lc : Nat → Bool} (hI : gpInv w Y u v lc) (hv : 0 ≤ v) (hw : ∀ j, j < Y → 0 ≤ w j) (he : (∀ j, j < Y → lc j = true) ∨ (∀ j, j < Y → lc j = false → w j ≤ 0) ∨ u * sumTo w Y ≤ v * chTo lc w Y) {y : Nat} (hy : y < Y) : lc y = need w Y u v y := by
  cases hl : lc y with
  | true => exact (hI.1 y hy hl).symm
  | false =>
    symm
    simp only [need, Bool.and_eq_false_iff, decide_eq_false_iff_not]
    rcases he with h | h | h
    · rw [h y hy] at hl; exact absurd hl (by decide)
    · left; have := h y hy hl; omega
    · by_cases hp : 0 < w y
      · right
        have h1 : chTo lc w Y ≤ ahTo w y Y := by
          refine sumTo_le (fun j hj => ?_)
          cases hlj : lc j with
          | true => rw [hI.2 j y hj hy hlj hl hp]; simp
          | false => have := hw j hj; simp; split <;> omega
        have h2 : v * chTo lc w Y ≤ ahTo w y Y * v := by
          rw [Int.mul_comm v]; exact Int.mul_le_mul_of_nonneg_right h1 hv
        omega
      · left; exact hp
