/-! THE REFERENCE: asks, the tape -/
def pushR (x : Mem) (k : Nat) (b : Int32) : Mem := mst (mst x 9 k b) 0 12 (nI (k + 1))
def pushRL (x : Mem) (k : Nat) : List Int32 → Mem
  | [] => x
  | b :: bs => pushRL (pushR x k b) (k + 1) bs
theorem pushRL_app (x : Mem) (k : Nat) : ∀ (a b : List Int32), pushRL x k (a ++ b) = pushRL (pushRL x k a) (k + a.length) b
  | [], b => rfl
  | c :: a, b => by
    show pushRL (pushR x k c) (k + 1) (a ++ b) = pushRL (pushRL (pushR x k c) (k + 1) a) (k + (a.length + 1)) b
    rw [pushRL_app (pushR x k c) (k + 1) a b, show k + 1 + a.length = k + (a.length + 1) by omega]
theorem pushRL_len (k : Nat) : ∀ (l : List Int32) (x : Mem), x 0 12 = nI k → (pushRL x k l) 0 12 = nI (k + l.length) := by
  intro l
  induction l generalizing k with
  | nil => intro x h; exact h
  | cons b bs ih =>
    intro x h
    have := ih (k + 1) (pushR x k b) (by unfold pushR; rw [mst_self])
    rw [show k + 1 + bs.length = k + (b :: bs).length by simp; omega] at this
    exact this
theorem pushRL_off (k : Nat) : ∀ (l : List Int32) (x : Mem) (a : Nat), a ≠ 0 → a ≠ 9 → (pushRL x k l) a = x a := by
  intro l
  induction l generalizing k with
  | nil => intro x a h1 h2; rfl
  | cons b bs ih =>
    intro x a h1 h2
    rw [show pushRL x k (b :: bs) = pushRL (pushR x k b) (k + 1) bs from rfl, ih (k + 1) _ a h1 h2]
    unfold pushR
    rw [mst_ne h1, mst_ne h2]
theorem pushRL_slot (k : Nat) : ∀ (l : List Int32) (x : Mem) (s : Nat), s ≠ 12 → (pushRL x k l) 0 s = x 0 s := by
  intro l
  induction l generalizing k with
  | nil => intro x s h; rfl
  | cons b bs ih =>
    intro x s h
    rw [show pushRL x k (b :: bs) = pushRL (pushR x k b) (k + 1) bs from rfl, ih (k + 1) _ s h]
    unfold pushR
    rw [mst_eq, upd_ne h, mst_ne (by decide)]
/-- what an ask sees of a mill -/
def mR (nw : Nat → Int32) (ml : Nat) : Nat → Int32 := fun s => if s = 0 then nI ml else if s = 4 then sF nw ml 0 else if s = 6 then sF nw ml 2 else sF nw ml 4
def byY (w : Int64) (k : Nat) : Int32 := ((w >>> ((8 * nI k : Int32).toInt64 &&& 63)) &&& 255).toInt32
def apY (w : Int64) : Nat → Nat → Mem → Mem
  | 0, _, x => x
  | k + 1, t, x => apY w k (t + 1) (mst (mst x 4 t (byY w k)) 0 4 (nI (t + 1)))
theorem apY_len (w : Int64) : ∀ (k t : Nat) (x : Mem), x 0 4 = nI t → (apY w k t x) 0 4 = nI (t + k)
  | 0, t, x, h => h
  | k + 1, t, x, h => by
    rw [apY, apY_len w k (t + 1) _ (by rw [mst_self]), show t + 1 + k = t + (k + 1) by omega]
theorem apY_off (w : Int64) : ∀ (k t : Nat) (x : Mem) (a : Nat), a ≠ 0 → a ≠ 4 → (apY w k t x) a = x a
  | 0, t, x, a, _, _ => rfl
  | k + 1, t, x, a, h2, h3 => by rw [apY, apY_off w k (t + 1) _ a h2 h3, mst_ne h2, mst_ne h3]
theorem apY_slot (w : Int64) : ∀ (k t : Nat) (x : Mem) (s : Nat), s ≠ 4 → (apY w k t x) 0 s = x 0 s
  | 0, t, x, s, _ => rfl
  | k + 1, t, x, s, h => by rw [apY, apY_slot w k (t + 1) _ s h, mst_eq, upd_ne h, mst_ne (by decide)]
theorem apY_byte (w : Int64) : ∀ (k t : Nat) (x : Mem) (s : Nat), (apY w k t x) 4 s = if t ≤ s ∧ s < t + k then byY w (k - 1 - (s - t)) else x 4 s
  | 0, t, x, s => by rw [if_neg (by omega)]; rfl
  | k + 1, t, x, s => by
    rw [apY, apY_byte w k (t + 1) _ s, mst_ne (by decide)]
    by_cases h : s = t
    · subst h
      rw [if_neg (by omega), if_pos (by omega), mst_self, show k + 1 - 1 - (s - s) = k by omega]
    · by_cases h2 : t + 1 ≤ s ∧ s < t + 1 + k
      · rw [if_pos h2, if_pos (by omega), show k - 1 - (s - (t + 1)) = k + 1 - 1 - (s - t) by omega]
      · rw [if_neg h2, if_neg (by omega), mst_eq, upd_ne h]
theorem mR_8 (nw : Nat → Int32) (ml : Nat) : mR nw ml 8 = sF nw ml 4 := rfl
theorem sz_1 (m : Nat → Int32) {k : Nat} (h : k = 1 ∨ k = 2) : sizeV m k = m 8 + markV m k := by
  rcases h with rfl | rfl <;> rfl
theorem sz_3 (m : Nat → Int32) : sizeV m 3 = -(m 8 + markV m 3) := Int32.zero_sub _
theorem sz_5 (m : Nat → Int32) : sizeV m 5 = 2 * (m 8 + markV m 5) := rfl
theorem sT_1 {k : Nat} (h : k = 1 ∨ k = 2) : sizeT k = 11 :: 10 :: markT k := by
  rcases h with rfl | rfl <;> rfl
theorem sT_3 : sizeT 3 = 12 :: 11 :: 10 :: markT 3 := rfl
theorem sT_5 : sizeT 5 = 14 :: 11 :: 10 :: markT 5 := rfl
