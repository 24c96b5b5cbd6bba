/-- the tape: a word's bytes, the highest first -/
def byW (w : Int64) (k : Nat) : Int32 := (w >>> ((8 * nI k : Int32).toInt64 &&& 63)).toInt32.toInt8.toInt32.toInt8.toInt32
def apT (w : Int64) : Nat → Nat → Mem → Mem
  | 0, _, x => x
  | k + 1, t, x => apT w k (t + 1) (mst (mst x 4 t (byW w k)) 3 1 (nI (t + 1)))
theorem apT_len (w : Int64) : ∀ (k t : Nat) (x : Mem), x 3 1 = nI t → (apT w k t x) 3 1 = nI (t + k)
  | 0, t, x, h => h
  | k + 1, t, x, h => by
    rw [apT, apT_len w k (t + 1) _ (by rw [mst_self]), show t + 1 + k = t + (k + 1) by omega]
theorem apT_off (w : Int64) : ∀ (k t : Nat) (x : Mem) (a : Nat), a ≠ 3 → a ≠ 4 → (apT w k t x) a = x a
  | 0, t, x, a, _, _ => rfl
  | k + 1, t, x, a, h2, h3 => by rw [apT, apT_off w k (t + 1) _ a h2 h3, mst_ne h2, mst_ne h3]
theorem apT_slot (w : Int64) : ∀ (k t : Nat) (x : Mem) (s : Nat), s ≠ 1 → (apT w k t x) 3 s = x 3 s
  | 0, t, x, s, _ => rfl
  | k + 1, t, x, s, h => by rw [apT, apT_slot w k (t + 1) _ s h, mst_eq, upd_ne h, mst_ne (by decide)]
theorem apT_byte (w : Int64) : ∀ (k t : Nat) (x : Mem) (s : Nat), (apT w k t x) 4 s = if t ≤ s ∧ s < t + k then byW w (k - 1 - (s - t)) else x 4 s
  | 0, t, x, s => by rw [if_neg (by omega)]; rfl
  | k + 1, t, x, s => by
    rw [apT, apT_byte w k (t + 1) _ s, mst_ne (by decide)]
    by_cases h : s = t
    · subst h
      rw [if_neg (by omega), if_pos (by omega), mst_self, show k + 1 - 1 - (s - s) = k by omega]
    · by_cases h2 : t + 1 ≤ s ∧ s < t + 1 + k
      · rw [if_pos h2, if_pos (by omega), show k - 1 - (s - (t + 1)) = k + 1 - 1 - (s - t) by omega]
      · rw [if_neg h2, if_neg (by omega), mst_eq, upd_ne h]
theorem nI_prd (k : Nat) : nI (k + 1) - 1 = nI k := by
  rw [← nI_add k 1]
  exact Int32.add_sub_cancel _ _
theorem pred_neg {i : Int32} {k : Nat} (h : i = nI k - 1) (hk : k < 2 ^ 31) (hi : i < 0) : k = 0 := by
  cases k with
  | zero => rfl
  | succ k => rw [nI_prd] at h; rw [h] at hi; exact absurd hi (nI_pos (by omega))
theorem pred_pos {i : Int32} {k : Nat} (h : i = nI k - 1) (hi : ¬ i < 0) : ∃ j, k = j + 1 ∧ i = nI j := by
  cases k with
  | zero => rw [h] at hi; exact absurd (by decide) hi
  | succ k => exact ⟨k, rfl, by rw [h, nI_prd]⟩
theorem add_m1 (a : Int32) : a + Int32.ofInt (-1) = a - 1 := by
  rw [Int32.sub_eq_add_neg]
  rfl
