theorem ltb {a b : Int32} : (if a < b then false else true) = decide (b ≤ a) := by
  by_cases h : a < b
  · rw [if_pos h, decide_eq_false (Int32.not_le.mpr h)]
  · rw [if_neg h, decide_eq_true (Int32.not_lt.mp h)]
theorem leb {a b : Int32} : (if a ≤ b then false else true) = decide (b < a) := by
  by_cases h : a ≤ b
  · rw [if_pos h, decide_eq_false (Int32.not_lt.mpr h)]
  · rw [if_neg h, decide_eq_true (Int32.not_le.mp h)]
def sGain (nw : Nat → Int32) (n m q : Nat) (w : Int32) (s : Nat) : Int32 := jmax (sGr nw n m q w s hNo - sGr nw n m q w 0 hNo) 0
def sLoss (nw : Nat → Int32) (n m q : Nat) (w : Int32) (s : Nat) : Int32 := jmax (sGr nw n m q w 0 hNo - sGr nw n m q w s hNo) 0
def sRest (nw : Nat → Int32) (n q : Nat) (w : Int32) : Nat → Int32
  | 0 => sMade nw n q w (sBest nw n q w) - sMade nw n q w 0
  | i + 1 => sRest nw n q w i - sLoss nw n i q w (sBest nw n q w)
theorem shla {a : Int32} (h : a = nI (tn a)) (h8 : tn a < 8) : (1 : Int32) <<< (a &&& 31) = nI (2 ^ tn a) := by
  have := shl1 (tn a) h8
  rwa [← h] at this
def sUp (nw : Nat → Int32) (m : Int32) : Int32 := if sF nw (tn m) 0 < 9 then m else hNo
theorem hh_up {n : Nat} {nw : Nat → Int32} {m : Int32} (hn : n ≤ 8) (hfl : ∀ j, j < n → sF nw j 0 ≤ 9) : ∀ j, j < n → (if nI j = m then jmin (sF nw j 0 + 1) 9 else sF nw j 0) = sFl nw j (sUp nw m) := by
  intro j hj
  have hno : nI j ≠ hNo := fun h => by
    have h1 : j = 0 ∨ j = 1 ∨ j = 2 ∨ j = 3 ∨ j = 4 ∨ j = 5 ∨ j = 6 ∨ j = 7 := by omega
    rcases h1 with rfl | rfl | rfl | rfl | rfl | rfl | rfl | rfl <;> exact absurd h (by decide)
  unfold sFl sUp
  by_cases hm : nI j = m
  · subst hm
    rw [if_pos rfl, tn_nI (by omega)]
    by_cases h9 : sF nw j 0 < 9
    · rw [if_pos h9, if_pos rfl]
      unfold jmin
      rw [if_neg]
      intro h
      have h1 := Int32.lt_iff_toInt_lt.mp h9
      have h2 := Int32.lt_iff_toInt_lt.mp h
      have h3 : (9 : Int32).toInt = 9 := rfl
      have h4 : (1 : Int32).toInt = 1 := rfl
      have h5 := Int32.minValue_le_toInt (sF nw j 0)
      rw [Int32.toInt_add, h4, h3, Int.bmod_def] at h2
      rw [h3] at h1
      have h6 : Int32.minValue.toInt = -2147483648 := rfl
      split at h2 <;> omega
    · have h8 : sF nw j 0 = 9 := Int32.le_antisymm (hfl j hj) (Int32.not_lt.mp h9)
      rw [if_neg h9, if_neg hno, h8]
      rfl
  · rw [if_neg hm]
    by_cases h9 : sF nw (tn m) 0 < 9
    · rw [if_pos h9, if_neg hm, Int32.add_zero]
    · rw [if_neg h9, if_neg hno, Int32.add_zero]
