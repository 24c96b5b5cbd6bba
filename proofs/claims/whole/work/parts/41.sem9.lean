/-- runs on the tape -/
def runF (p : Nat → Bool) : Nat → Nat → Nat
  | 0, i => i
  | f + 1, i => if p i then runF p f (i + 1) else i
def runE (p : Nat → Bool) (t i : Nat) : Nat := runF p (t - i) i
theorem runE_on {p : Nat → Bool} {t k : Nat} (h : k < t) (hp : p k = true) : runE p t k = runE p t (k + 1) := by
  unfold runE
  rw [show t - k = (t - (k + 1)) + 1 by omega, runF, if_pos hp]
theorem runE_off {p : Nat → Bool} {t k : Nat} (hp : p k = false) : runE p t k = k := by
  unfold runE
  cases t - k with
  | zero => rfl
  | succ f => rw [runF, if_neg (by rw [hp]; decide)]
theorem runE_end {p : Nat → Bool} {t k : Nat} (h : t ≤ k) : runE p t k = k := by
  unfold runE
  rw [show t - k = 0 by omega]
  rfl
theorem runF_le (p : Nat → Bool) : ∀ (f i : Nat), i ≤ runF p f i ∧ runF p f i ≤ i + f
  | 0, i => ⟨Nat.le_refl _, Nat.le_refl _⟩
  | f + 1, i => by
    have h := runF_le p f (i + 1)
    rw [runF]
    split <;> omega
theorem runE_le (p : Nat → Bool) {t i : Nat} (h : i ≤ t) : i ≤ runE p t i ∧ runE p t i ≤ t := by
  have h1 := runF_le p (t - i) i
  unfold runE
  omega
abbrev blP (f : Nat → Int32) (k : Nat) : Bool := decide (f k = 32) || decide (f k = 10)
abbrev leP (f : Nat → Int32) (k : Nat) : Bool := decide (97 ≤ f k) && decide (f k ≤ 122)
abbrev fiP (f : Nat → Int32) (k : Nat) : Bool := decide (48 ≤ f k) && decide (f k ≤ 57)
theorem rg_in {lo hi v : Int32} (h1 : ¬ v < lo) (h2 : ¬ hi < v) : (decide (lo ≤ v) && decide (v ≤ hi)) = true := by
  rw [decide_eq_true (Int32.not_lt.mp h1), decide_eq_true (Int32.not_lt.mp h2)]
  rfl
theorem rg_lo {lo hi v : Int32} (h1 : v < lo) : (decide (lo ≤ v) && decide (v ≤ hi)) = false := by
  rw [decide_eq_false (Int32.not_le.mpr h1)]
  rfl
theorem rg_hi {lo hi v : Int32} (h1 : hi < v) : (decide (lo ≤ v) && decide (v ≤ hi)) = false := by
  rw [decide_eq_false (Int32.not_le.mpr h1), Bool.and_false]
def valP (f : Nat → Int32) (i : Nat) : Nat → Int32
  | 0 => 0
  | d + 1 => valP f i d * 10 + f (i + d) - 48
def tellB (f : Nat → Int32) (q i j : Nat) : Bool := decide (j = i + slen q) && allN (fun k => decide (f (i + k) = chB q k)) (slen q)
theorem tellB_no {f : Nat → Int32} {q i j k : Nat} (h : ¬ f k = chB q (k - i)) (h1 : i ≤ k) (h2 : k < j) (hj : j = i + slen q) : tellB f q i j = false := by
  unfold tellB
  rw [allN_false (i := k - i) (by rw [show i + (k - i) = k by omega]; exact decide_eq_false h) _ (by omega), Bool.and_false]
theorem tellB_yes {f : Nat → Int32} {q i j : Nat} (h : ∀ m, i ≤ m → m < j → f m = chB q (m - i)) (hj : j = i + slen q) : tellB f q i j = true := by
  unfold tellB
  rw [decide_eq_true hj, allN_true _ (fun k hk => decide_eq_true (by rw [h (i + k) (by omega) (by omega), show i + k - i = k by omega]))]
  rfl
theorem tellB_len {f : Nat → Int32} {q i j : Nat} (h : ¬ j = i + slen q) : tellB f q i j = false := by
  unfold tellB
  rw [decide_eq_false h, Bool.false_and]
def takB (x : Mem) (ρ n : Nat) (a b : Int32) : Bool := !allN (fun j => !(decide (x (ρ + 1 + 1 + j) 2 = a) && decide (x (ρ + 1 + 1 + j) 3 = b))) n
