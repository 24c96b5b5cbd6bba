/-! THE REFERENCE: plain facts -/
theorem i2l_lt {a b : Int32} : a.toInt64 < b.toInt64 ↔ a < b := by
  rw [Int64.lt_iff_toInt_lt, Int32.lt_iff_toInt_lt, Int32.toInt_toInt64, Int32.toInt_toInt64]
theorem in_eq {v lo hi : Int32} : bI (if v.toInt64 < lo.toInt64 then false else if hi.toInt64 < v.toInt64 then false else true) = bI (decide (lo ≤ v) && decide (v ≤ hi)) := by
  by_cases h1 : v < lo
  · rw [if_pos (i2l_lt.mpr h1), decide_eq_false (Int32.not_le.mpr h1)]
    rfl
  · rw [if_neg (fun z => h1 (i2l_lt.mp z)), decide_eq_true (Int32.not_lt.mp h1)]
    by_cases h2 : hi < v
    · rw [if_pos (i2l_lt.mpr h2), decide_eq_false (Int32.not_le.mpr h2)]
      rfl
    · rw [if_neg (fun z => h2 (i2l_lt.mp z)), decide_eq_true (Int32.not_lt.mp h2)]
      rfl
theorem has_eq : ∀ s, s < 256 → ∀ k, k < 8 → bI (if (nI s >>> (nI k &&& 31)) &&& 1 = 1 then true else false) = bI (s.testBit k) := by decide +kernel
theorem lt0_eq (a : Int32) : bI (if 0 ≤ a then false else true) = bI (decide (a < 0)) := by
  by_cases h : 0 ≤ a
  · rw [if_pos h, decide_eq_false (Int32.not_lt.mpr h)]
  · rw [if_neg h, decide_eq_true (Int32.not_le.mp h)]
theorem and_ite (A B : Bool) : bI (if A = false then false else if B = false then false else true) = bI (A && B) := by cases A <;> cases B <;> rfl
theorem nI_xor (a b : Nat) : nI a ^^^ nI b = nI (a ^^^ b) := by
  refine i32_ext fun i hi => ?_
  rw [Int32.toBitVec_xor, BitVec.getLsbD_xor, nI_bit a i hi, nI_bit b i hi, nI_bit _ i hi, Nat.testBit_xor]
theorem and_mask (v : Int32) (e : Nat) (he : e ≤ 16) : v &&& nI (2 ^ e - 1) = nI (v.toBitVec.toNat % 2 ^ e) := by
  refine i32_ext fun i hi => ?_
  rw [Int32.toBitVec_and, BitVec.getLsbD_and, nI_bit _ i hi, nI_bit _ i hi, Nat.testBit_mod_two_pow, Nat.testBit_two_pow_sub_one, BitVec.testBit_toNat, Bool.and_comm]
theorem xor_half {k e : Nat} (h : k < 2 ^ (e + 1)) : k ^^^ 2 ^ e = if k < 2 ^ e then k + 2 ^ e else k - 2 ^ e := by
  apply Nat.eq_of_testBit_eq
  intro j
  rw [Nat.testBit_xor, Nat.testBit_two_pow]
  by_cases hk : k < 2 ^ e
  · rw [if_pos hk, Nat.add_comm]
    by_cases hj : e = j
    · subst hj
      rw [Nat.testBit_two_pow_add_eq]
      simp
    · rcases Nat.lt_or_ge j e with h1 | h1
      · rw [Nat.testBit_two_pow_add_gt h1]
        simp [hj]
      · rw [Nat.testBit_lt_two_pow (Nat.lt_of_lt_of_le hk (Nat.pow_le_pow_right (by decide) h1)), Nat.testBit_lt_two_pow (Nat.lt_of_lt_of_le (show 2 ^ e + k < 2 ^ (e + 1) by rw [Nat.pow_succ]; omega) (Nat.pow_le_pow_right (by decide) (show e + 1 ≤ j by omega)))]
        simp [hj]
  · rw [if_neg hk]
    obtain ⟨d, rfl⟩ : ∃ d, k = 2 ^ e + d := ⟨k - 2 ^ e, by omega⟩
    have hd : d < 2 ^ e := by rw [Nat.pow_succ] at h; omega
    rw [Nat.add_sub_cancel_left]
    by_cases hj : e = j
    · subst hj
      rw [Nat.testBit_two_pow_add_eq]
      simp
    · rcases Nat.lt_or_ge j e with h1 | h1
      · rw [Nat.testBit_two_pow_add_gt h1]
        simp [hj]
      · rw [Nat.testBit_lt_two_pow (Nat.lt_of_lt_of_le hd (Nat.pow_le_pow_right (by decide) h1)), Nat.testBit_lt_two_pow (Nat.lt_of_lt_of_le (show 2 ^ e + d < 2 ^ (e + 1) by rw [Nat.pow_succ]; omega) (Nat.pow_le_pow_right (by decide) (show e + 1 ≤ j by omega)))]
        simp [hj]
theorem toInt_mod (v : Int32) (e : Nat) (he : e ≤ 16) : ((v.toBitVec.toNat % 2 ^ e : Nat) : Int) = v.toInt % (2 ^ e : Nat) := by
  have h : v.toInt = (v.toBitVec.toNat : Int) ∨ v.toInt = (v.toBitVec.toNat : Int) - 4294967296 := by
    have h1 : v.toInt = v.toBitVec.toInt := rfl
    rw [h1, BitVec.toInt_eq_toNat_cond]
    split
    · exact Or.inl rfl
    · exact Or.inr rfl
  have hd : (4294967296 : Int) = (2 ^ e : Nat) * (2 ^ (32 - e) : Nat) := by
    rw [← Int.natCast_mul, ← Nat.pow_add, show e + (32 - e) = 32 by omega]
    rfl
  rw [Int.natCast_emod]
  rcases h with h | h
  · rw [h]
  · rw [h, hd, Int.sub_mul_emod_self_left]
theorem nar8 (v : Int32) : ((v &&& 255) ^^^ 128) - 128 = v.toInt8.toInt32 := by
  have h1 : v &&& 255 = nI (v.toBitVec.toNat % 2 ^ 8) := and_mask v 8 (by decide)
  have hk : v.toBitVec.toNat % 2 ^ 8 < 2 ^ 8 := Nat.mod_lt _ (by decide)
  have h2 := toInt_mod v 8 (by decide)
  rw [h1, show (128 : Int32) = nI (2 ^ 7) from rfl, nI_xor, xor_half hk]
  generalize v.toBitVec.toNat % 2 ^ 8 = k at hk h2 ⊢
  apply Int32.toInt_inj.mp
  rw [Int8.toInt_toInt32, Int32.toInt_toInt8, Int.bmod_def]
  split
  · rw [pk_sub (by omega), nI_toInt (by omega)]
    split <;> omega
  · rw [Int32.toInt_sub, nI_toInt (by omega), nI_toInt (by omega), Int.bmod_def]
    split <;> split <;> omega
theorem nar16 (v : Int32) : ((v &&& 65535) ^^^ 32768) - 32768 = v.toInt16.toInt32 := by
  have h1 : v &&& 65535 = nI (v.toBitVec.toNat % 2 ^ 16) := and_mask v 16 (by decide)
  have hk : v.toBitVec.toNat % 2 ^ 16 < 2 ^ 16 := Nat.mod_lt _ (by decide)
  have h2 := toInt_mod v 16 (by decide)
  rw [h1, show (32768 : Int32) = nI (2 ^ 15) from rfl, nI_xor, xor_half hk]
  generalize v.toBitVec.toNat % 2 ^ 16 = k at hk h2 ⊢
  apply Int32.toInt_inj.mp
  rw [Int16.toInt_toInt32, Int32.toInt_toInt16, Int.bmod_def]
  split
  · rw [pk_sub (by omega), nI_toInt (by omega)]
    split <;> omega
  · rw [Int32.toInt_sub, nI_toInt (by omega), nI_toInt (by omega), Int.bmod_def]
    split <;> split <;> omega
theorem nar_eq (la v : Int32) : (if la = 0 then ((v &&& 255) ^^^ 128) - 128 else if la = 1 then ((v &&& 65535) ^^^ 32768) - 32768 else v) = narI la v := by
  rw [nar8, nar16]
  rfl
theorem le_m1 {v : Int32} {n : Nat} (hn : n < 2 ^ 31) : decide (v ≤ nI n - 1) = decide (v < nI n) := by
  apply decide_eq_decide.mpr
  have e : (nI n - 1).toInt = (n : Int) - 1 := by
    rw [Int32.toInt_sub, nI_toInt hn, show (1 : Int32).toInt = 1 from rfl, Int.bmod_def]
    split <;> omega
  rw [Int32.le_iff_toInt_le, Int32.lt_iff_toInt_lt, e, nI_toInt hn]
  omega
theorem wi_eq {i k : Int32} {sz : Nat} (h : sz ≤ 40) : bI (if i < 0 then false else if k < 0 then false else if (nI sz).toInt64 < i.toInt64 + k.toInt64 then false else true) = bI (decide (0 ≤ i) && (decide (0 ≤ k) && decide (k ≤ nI sz - i))) := by
  by_cases h1 : i < 0
  · rw [if_pos h1, decide_eq_false (Int32.not_le.mpr h1)]
    rfl
  · rw [if_neg h1, decide_eq_true (Int32.not_lt.mp h1)]
    by_cases h2 : k < 0
    · rw [if_pos h2, decide_eq_false (Int32.not_le.mpr h2)]
      rfl
    · rw [if_neg h2, decide_eq_true (Int32.not_lt.mp h2)]
      obtain ⟨a, ha, rfl⟩ := nI_of h1
      obtain ⟨b, hb, rfl⟩ := nI_of h2
      have e1 : (nI sz).toInt64 < (nI a).toInt64 + (nI b).toInt64 ↔ sz < a + b := by
        rw [Int64.lt_iff_toInt_lt, Int64.toInt_add, Int32.toInt_toInt64, Int32.toInt_toInt64, Int32.toInt_toInt64, nI_toInt (by omega), nI_toInt ha, nI_toInt hb, Int.bmod_def]
        split <;> omega
      have e2 : nI b ≤ nI sz - nI a ↔ ¬ sz < a + b := by
        rw [Int32.le_iff_toInt_le, Int32.toInt_sub, nI_toInt (show sz < 2 ^ 31 by omega), nI_toInt ha, nI_toInt hb, Int.bmod_def]
        split <;> omega
      by_cases h3 : sz < a + b
      · rw [if_pos (e1.mpr h3), decide_eq_false (fun z => e2.mp z h3)]
        rfl
      · rw [if_neg (fun z => h3 (e1.mp z)), decide_eq_true (e2.mpr h3)]
        rfl
/-- sizes of rows that are there -/
def YOK (x : Mem) : Prop := ∀ r, r < 8 → ¬ x 1 r < 0 → ∃ sz, sz ≤ 40 ∧ x 2 r = nI sz
theorem YOK.get {x : Mem} {r : Nat} (h : YOK x) (hr : r < 8) (hm : decide (x 1 r < 0) = false) : ∃ sz, sz ≤ 40 ∧ x 2 r = nI sz := h r hr (of_decide_eq_false hm)
theorem hasM9 {v c : Int32} {n : Nat} (hn : n ≤ 40) (h : (decide (0 ≤ v) && decide (v < c)) = true) (hc : c = nI n := by assumption) : v = nI (tn v) ∧ tn v < n := by
  simp only [Bool.and_eq_true, decide_eq_true_eq] at h
  obtain ⟨a, ha, rfl⟩ := nI_of (Int32.not_lt.mpr h.1)
  rw [tn_nI ha]
  refine ⟨rfl, ?_⟩
  have h2 := h.2
  rw [hc] at h2
  exact (n_lt (a := a) (b := n) rfl rfl ha (by omega)).mp h2
theorem wiN {i k c : Int32} {sz : Nat} (hc : c = nI sz) (hs : sz ≤ 40) (h : (decide (0 ≤ i) && (decide (0 ≤ k) && decide (k ≤ c - i))) = true) : i = nI (tn i) ∧ k = nI (tn k) ∧ tn i + tn k ≤ sz := by
  simp only [Bool.and_eq_true, decide_eq_true_eq] at h
  obtain ⟨a, ha, rfl⟩ := nI_of (Int32.not_lt.mpr h.1)
  obtain ⟨b, hb, rfl⟩ := nI_of (Int32.not_lt.mpr h.2.1)
  rw [tn_nI ha, tn_nI hb]
  refine ⟨rfl, rfl, ?_⟩
  have h3 := Int32.le_iff_toInt_le.mp h.2.2
  rw [hc, nI_toInt hb, Int32.toInt_sub, nI_toInt ha, nI_toInt (show sz < 2 ^ 31 by omega), Int.bmod_def] at h3
  split at h3 <;> omega
