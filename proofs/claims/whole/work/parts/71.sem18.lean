/-! THE REFERENCE: tokens -/
def bA (f : Nat → Int32) (t k : Nat) : Int32 := if k < t then f k else 0
def wth (u : Mem) : Int64 := mkL (u 0 17) (u 0 21)
theorem wth_put {u : Mem} {v : Int64} : wth (mst (mst u 0 17 (hiL v)) 0 21 (loL v)) = v := by
  unfold wth
  rw [mst_self, mst_eq, upd_ne (by decide), mst_self, mkL_eq]
theorem wth_off {u : Mem} {s : Nat} {v : Int32} (h1 : s ≠ 17) (h2 : s ≠ 21) : wth (mst u 0 s v) = wth u := by
  unfold wth
  rw [mst_eq, upd_ne (Ne.symm h1), upd_ne (Ne.symm h2)]
def hsL (f : Nat → Int32) (i : Nat) : Nat → Int64
  | 0 => 0
  | d + 1 => if d < 7 then 27 * hsL f i d + (f (i + d)).toInt64 - 96 else -1
def vsL (f : Nat → Int32) (i : Nat) : Nat → Int64
  | 0 => 0
  | d + 1 => if d < 3 then 10 * vsL f i d + (f (i + d)).toInt64 - 48 else 0
/-- all but what the reader of the reference keeps -/
def NF (x u : Mem) : Prop := (∀ a, a ≠ 0 → u a = x a) ∧ ∀ s, s ≠ 14 → s ≠ 15 → s ≠ 16 → s ≠ 17 → s ≠ 21 → u 0 s = x 0 s
theorem NF.rf {x : Mem} : NF x x := ⟨fun _ _ => rfl, fun _ _ _ _ _ _ => rfl⟩
theorem NF.st {x u : Mem} (h : NF x u) {s : Nat} {v : Int32} (hs : s = 14 ∨ s = 15 ∨ s = 16 ∨ s = 17 ∨ s = 21) : NF x (mst u 0 s v) :=
  ⟨fun a ha => by rw [mst_ne ha]; exact h.1 a ha, fun k h1 h2 h3 h4 h5 => by rw [mst_eq, upd_ne (by omega)]; exact h.2 k h1 h2 h3 h4 h5⟩
/-- a token, loaded by the reference -/
def NT (f : Nat → Int32) (t p : Nat) (u : Mem) : Prop :=
  u 0 14 = nI (tsN f t p) ∧ u 0 16 = tkI f t p ∧ (tkI f t p ≠ 0 → tkI f t p ≠ 4 → u 0 15 = nI (teN f t p)) ∧ (tkI f t p = 2 → wth u = (tvI f t p).toInt64) ∧ (tkI f t p = 1 → wth u = hsL f (tsN f t p) (leN f t p - tsN f t p))
theorem runF_in (p : Nat → Bool) : ∀ (n i k : Nat), i ≤ k → k < runF p n i → p k = true
  | 0, i, k, h1, h2 => by simp only [runF] at h2; omega
  | n + 1, i, k, h1, h2 => by
    rw [runF] at h2
    split at h2
    · rename_i hp
      by_cases e : k = i
      · rw [e]; exact hp
      · exact runF_in p n (i + 1) k (by omega) h2
    · omega
theorem runE_in {p : Nat → Bool} {t i k : Nat} (h1 : i ≤ k) (h2 : k < runE p t i) : p k = true := runF_in p _ i k h1 h2
theorem bm32 {z : Int} (h1 : -2147483648 ≤ z) (h2 : z < 2147483648) : z.bmod (2 ^ 32) = z := by
  rw [Int.bmod_def]
  split <;> omega
theorem bm64 {z : Int} (h1 : -9223372036854775808 ≤ z) (h2 : z < 9223372036854775808) : z.bmod (2 ^ 64) = z := by
  rw [Int.bmod_def]
  split <;> omega
theorem vs_val {f : Nat → Int32} {i : Nat} : ∀ d, d ≤ 3 → (∀ k, i ≤ k → k < i + d → fiP f k = true) → vsL f i d = (valP f i d).toInt64 ∧ 0 ≤ (valP f i d).toInt ∧ (valP f i d).toInt < 10 ^ d := by
  intro d
  induction d with
  | zero => intro _ _; exact ⟨rfl, Int.le_refl 0, (by show (0 : Int32).toInt < 10 ^ 0; decide)⟩
  | succ d ih =>
    intro hd hf
    obtain ⟨h1, h2, h3⟩ := ih (by omega) (fun k a b => hf k a (by omega))
    have h4 := hf (i + d) (by omega) (by omega)
    simp only [fiP, Bool.and_eq_true, decide_eq_true_eq] at h4
    have h5 := Int32.le_iff_toInt_le.mp h4.1
    have h6 := Int32.le_iff_toInt_le.mp h4.2
    rw [show (48 : Int32).toInt = 48 from rfl] at h5
    rw [show (57 : Int32).toInt = 57 from rfl] at h6
    have hp : (10 : Int) ^ d ≤ 100 := by
      have : d = 0 ∨ d = 1 ∨ d = 2 := by omega
      rcases this with rfl | rfl | rfl <;> decide
    have hp2 : (10 : Int) ^ (d + 1) = 10 ^ d * 10 := Int.pow_succ 10 d
    have e1 : (valP f i (d + 1)).toInt = (valP f i d).toInt * 10 + (f (i + d)).toInt - 48 := by
      rw [valP, Int32.toInt_sub, Int32.toInt_add, Int32.toInt_mul, show (10 : Int32).toInt = 10 from rfl, show (48 : Int32).toInt = 48 from rfl, bm32 (z := (valP f i d).toInt * 10) (by omega) (by omega), bm32 (z := (valP f i d).toInt * 10 + (f (i + d)).toInt) (by omega) (by omega), bm32 (by omega) (by omega)]
    have e2 : (vsL f i (d + 1)).toInt = (valP f i d).toInt * 10 + (f (i + d)).toInt - 48 := by
      rw [vsL, if_pos (by omega), h1, Int64.toInt_sub, Int64.toInt_add, Int64.toInt_mul, Int32.toInt_toInt64, Int32.toInt_toInt64, show (10 : Int64).toInt = 10 from rfl, show (48 : Int64).toInt = 48 from rfl, bm64 (z := 10 * (valP f i d).toInt) (by omega) (by omega), bm64 (z := 10 * (valP f i d).toInt + (f (i + d)).toInt) (by omega) (by omega), bm64 (by omega) (by omega)]
      omega
    refine ⟨?_, by rw [e1]; omega, by rw [e1, hp2]; omega⟩
    apply Int64.toInt_inj.mp
    rw [e2, Int32.toInt_toInt64, e1]
section NTS
variable {f : Nat → Int32} {t p : Nat} {u : Mem}
theorem nt0 (h : t ≤ tsN f t p) (h1 : u 0 14 = nI (tsN f t p)) (h2 : u 0 16 = 0) : NT f t p u := by
  have e : tkI f t p = 0 := if_pos h
  unfold NT
  rw [e]
  exact ⟨h1, h2, fun z => absurd rfl z, fun z => absurd z (by decide), fun z => absurd z (by decide)⟩
theorem le_in (h : tsN f t p < t) (hl : leP f (tsN f t p) = true) : tsN f t p < leN f t p := by
  unfold leN
  rw [runE_on h hl]
  exact (runE_le (leP f) (show tsN f t p + 1 ≤ t from h)).1
theorem le_no (hl : leP f (tsN f t p) = false) : leN f t p = tsN f t p := runE_off hl
theorem fi_in (h : tsN f t p < t) (hl : fiP f (tsN f t p) = true) : tsN f t p < fiN f t p := by
  unfold fiN
  rw [runE_on h hl]
  exact (runE_le (fiP f) (show tsN f t p + 1 ≤ t from h)).1
theorem fi_no (hl : fiP f (tsN f t p) = false) : fiN f t p = tsN f t p := runE_off hl
theorem nt1 (h : tsN f t p < t) (hl : leP f (tsN f t p) = true) (h1 : u 0 14 = nI (tsN f t p)) (h2 : u 0 16 = 1) (h3 : u 0 15 = nI (leN f t p)) (h4 : wth u = hsL f (tsN f t p) (leN f t p - tsN f t p)) : NT f t p u := by
  have h5 := le_in h hl
  have e : tkI f t p = 1 := by
    unfold tkI
    rw [if_neg (Nat.not_le.mpr h), if_pos h5]
  have e2 : teN f t p = leN f t p := by
    unfold teN
    rw [if_neg (Nat.not_le.mpr h), if_pos h5]
  unfold NT
  rw [e, e2]
  exact ⟨h1, h2, fun _ _ => h3, fun z => absurd z (by decide), fun _ => h4⟩
theorem nt2 (hp : p ≤ t) (h : tsN f t p < t) (hl : leP f (tsN f t p) = false) (hf : fiP f (tsN f t p) = true) (h1 : u 0 14 = nI (tsN f t p)) (h2 : u 0 16 = if nI (fiN f t p - tsN f t p) ≤ 3 then 2 else 4) (ht : t ≤ 400) (h3 : u 0 15 = nI (fiN f t p)) (h4 : wth u = vsL f (tsN f t p) (fiN f t p - tsN f t p)) : NT f t p u := by
  have h5 := fi_in h hf
  have h6 := (fiN_le (f := f) hp).2
  have h7 := le_no hl
  have e0 : nI (fiN f t p - tsN f t p) ≤ 3 ↔ fiN f t p - tsN f t p ≤ 3 := n_le (a := fiN f t p - tsN f t p) (b := 3) rfl rfl (by omega) (by decide)
  by_cases c : 3 < fiN f t p - tsN f t p
  · have e : tkI f t p = 4 := by
      unfold tkI
      rw [if_neg (Nat.not_le.mpr h), h7, if_neg (Nat.lt_irrefl _), if_pos c]
    rw [if_neg (fun z => absurd (e0.mp z) (by omega))] at h2
    unfold NT
    rw [e]
    exact ⟨h1, h2, fun _ z => absurd rfl z, fun z => absurd z (by decide), fun z => absurd z (by decide)⟩
  · have e : tkI f t p = 2 := by
      unfold tkI
      rw [if_neg (Nat.not_le.mpr h), h7, if_neg (Nat.lt_irrefl _), if_neg c, if_pos h5]
    have e2 : teN f t p = fiN f t p := by
      unfold teN
      rw [if_neg (Nat.not_le.mpr h), h7, if_neg (Nat.lt_irrefl _), if_neg c, if_pos h5]
    rw [if_pos (e0.mpr (by omega))] at h2
    unfold NT
    rw [e, e2]
    refine ⟨h1, h2, fun _ _ => h3, fun _ => ?_, fun z => absurd z (by decide)⟩
    rw [h4]
    exact (vs_val _ (by omega) (fun k a b => runE_in (p := fiP f) (i := tsN f t p) a (show k < fiN f t p by omega))).1
theorem nt3 (h : tsN f t p < t) (hl : leP f (tsN f t p) = false) (hf : fiP f (tsN f t p) = false) (h1 : u 0 14 = nI (tsN f t p)) (h2 : u 0 16 = if f (tsN f t p) = 59 then 3 else 4) (h3 : u 0 15 = nI (tsN f t p + 1)) : NT f t p u := by
  have e : tkI f t p = if f (tsN f t p) = 59 then 3 else 4 := by
    unfold tkI
    rw [if_neg (Nat.not_le.mpr h), le_no hl, if_neg (Nat.lt_irrefl _), fi_no hf, if_neg (by omega), if_neg (Nat.lt_irrefl _)]
  have e2 : teN f t p = tsN f t p + 1 := by
    unfold teN
    rw [if_neg (Nat.not_le.mpr h), le_no hl, if_neg (Nat.lt_irrefl _), fi_no hf, if_neg (by omega), if_neg (Nat.lt_irrefl _)]
  unfold NT
  rw [e, e2]
  refine ⟨h1, h2, fun _ _ => h3, fun z => ?_, fun z => ?_⟩ <;> split at z <;> exact absurd z (by decide)
end NTS
theorem bA_in {f : Nat → Int32} {t k : Nat} {lo hi : Int32} (h : (decide (lo ≤ bA f t k) && decide (bA f t k ≤ hi)) = true) (hlo : (0 : Int32) < lo) : k < t ∧ bA f t k = f k := by
  unfold bA at h ⊢
  by_cases c : k < t
  · exact ⟨c, if_pos c⟩
  · rw [if_neg c] at h
    simp only [Bool.and_eq_true, decide_eq_true_eq] at h
    exact absurd (Int32.lt_of_lt_of_le hlo h.1) Int32.lt_irrefl
theorem en_le {f g : Nat → Int32} {t e : Nat} (h : (decide (97 ≤ bA f t e) && decide (bA f t e ≤ 122)) = false) (hf : f = g) : runE (leP g) t e = e := by
  subst hf
  by_cases c : e < t
  · rw [show bA f t e = f e from if_pos c] at h
    exact runE_off h
  · exact runE_end (by omega)
theorem en_fi {f g : Nat → Int32} {t e : Nat} (h : (decide (48 ≤ bA f t e) && decide (bA f t e ≤ 57)) = false) (hf : f = g) : runE (fiP g) t e = e := by
  subst hf
  by_cases c : e < t
  · rw [show bA f t e = f e from if_pos c] at h
    exact runE_off h
  · exact runE_end (by omega)
