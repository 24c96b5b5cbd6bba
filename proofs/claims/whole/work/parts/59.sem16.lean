/-! THE REFERENCE: hours, sets -/
theorem wea_ref {nw : Nat → Int32} {n m q : Nat} {w : Int32} : (if sTakes nw m q 0 = false then 0 else sLeft nw n m q w 0 hNo / 10) = sWear nw n m q w := by
  unfold sWear
  cases sTakes nw m q 0 <;> rfl
theorem hourP_up {nw f : Nat → Int32} {n q g : Nat} {w G We : Int32} (h : f = hourP nw n q w g) (hG : G = sGr nw n g q w 0 hNo) (hW : We = sWear nw n g q w) :
    upd (upd (upd f (5 + 10 * g + 3) (f (5 + 10 * g + 3) - G)) (5 + 10 * g + 4) (f (5 + 10 * g + 4) + G)) (5 + 10 * g + 5) (f (5 + 10 * g + 5) + We) = hourP nw n q w (g + 1) := by
  subst h; subst hG; subst hW
  have hl : ∀ k, 5 + 10 * g ≤ k → hourP nw n q w g k = nw k := fun k hk => if_neg (by omega)
  funext k
  by_cases h5 : k = 5 + 10 * g + 5
  · subst h5
    rw [upd_eq, hl _ (by omega)]
    unfold hourP
    rw [if_pos (by omega), if_neg (by omega), if_neg (by omega), if_pos (by omega), show (5 + 10 * g + 5 - 5) / 10 = g by omega]
  · rw [upd_ne h5]
    by_cases h4 : k = 5 + 10 * g + 4
    · subst h4
      rw [upd_eq, hl _ (by omega)]
      unfold hourP
      rw [if_pos (by omega), if_neg (by omega), if_pos (by omega), show (5 + 10 * g + 4 - 5) / 10 = g by omega]
    · rw [upd_ne h4]
      by_cases h3 : k = 5 + 10 * g + 3
      · subst h3
        rw [upd_eq, hl _ (by omega)]
        unfold hourP
        rw [if_pos (by omega), if_pos (by omega), show (5 + 10 * g + 3 - 5) / 10 = g by omega]
      · rw [upd_ne h3]
        unfold hourP
        by_cases hk : 5 ≤ k ∧ k < 5 + 10 * g
        · rw [if_pos hk, if_pos (show 5 ≤ k ∧ k < 5 + 10 * (g + 1) by omega)]
        · rw [if_neg hk]
          by_cases hk2 : 5 ≤ k ∧ k < 5 + 10 * (g + 1)
          · rw [if_pos hk2, if_neg (by omega), if_neg (by omega), if_neg (by omega)]
          · rw [if_neg hk2]
theorem hourP_0 {nw : Nat → Int32} {n q : Nat} {w : Int32} : nw = hourP nw n q w 0 := funext fun k => (if_neg (by omega)).symm
theorem hourNw_up {nw f : Nat → Int32} {n q : Nat} {w : Int32} (h : f = hourP nw n q w n) : upd f 1 (f 1 + 1) = hourNw nw n q w := by
  subst h
  funext k
  unfold hourNw
  by_cases hk : k = 1
  · subst hk
    rw [upd_eq, if_pos rfl, hourP_lo (by decide)]
  · rw [upd_ne hk, if_neg hk]
theorem hourNw_0 {nw : Nat → Int32} {n q : Nat} {w : Int32} : hourNw nw n q w 0 = nw 0 := by
  unfold hourNw
  rw [if_neg (by decide), hourP_lo (by decide)]
theorem hrsNw_0 {nw : Nat → Int32} {n : Nat} {it : Nat → Int32} {i : Nat} : ∀ k, hrsNw nw n it i k 0 = nw 0
  | 0 => rfl
  | k + 1 => by rw [hrsNw, hourNw_0, hrsNw_0 k]
theorem wnd_no {v : Int32} (h : v < 0) : isWnd v = false := by
  unfold isWnd qOf
  rw [if_neg (Int32.not_le.mpr h)]
  rfl
theorem wnd_q {v : Int32} (h : ¬ v < 0) : qOf v = v / 1000 := if_pos (Int32.not_lt.mp h)
theorem wnd_eq {v : Int32} (h : ¬ v < 0) : isWnd v = ((decide (0 ≤ v / 1000) && decide (v / 1000 ≤ 3)) && (decide (0 ≤ v - v / 1000 * 1000) && decide (v - v / 1000 * 1000 ≤ 100))) := by
  unfold isWnd sOf
  rw [wnd_q h]
theorem wnd_pos {v : Int32} (h : isWnd v = true) : ¬ v < 0 := fun z => by rw [wnd_no z] at h; exact absurd h (by decide)
theorem mask_or2 (p : Nat → Bool) {n : Nat} (h : n < 8) : nI (maskN p n) ||| (if p n = false then (0 : Int32) else 1 <<< (nI n &&& 31)) = nI (maskN p (n + 1)) := by
  rw [← mask_or p (p n) h rfl]
  cases p n
  · rw [if_pos rfl]
    have : bI false <<< (nI n &&& 31) = 0 := by rw [shlb false h]; rfl
    rw [this]
  · rw [if_neg (by decide)]
    rfl
theorem bit_low : ∀ k, k < 256 → 0 < k → nI k &&& (nI k - 1) = nI (k &&& (k - 1)) ∧ k &&& (k - 1) < k ∧ cntN k.testBit 8 = cntN (k &&& (k - 1)).testBit 8 + 1 := by decide +kernel
theorem more_ref {ms F : Int32} {cs cb : Nat} (h1 : cs ≤ 8) (h2 : cb ≤ 8) : (if ms < F then true else if F = ms then (if nI cb ≤ nI cs then false else true) else false) = decide (ms < F ∨ (F = ms ∧ cs < cb)) := by
  have e : nI cb ≤ nI cs ↔ cb ≤ cs := n_le rfl rfl (by omega) (by omega)
  by_cases a : ms < F
  · simp [a]
  · by_cases b : F = ms
    · by_cases d : cb ≤ cs
      · have : ¬ cs < cb := by omega
        simp [a, b, e, d, this]
      · have : cs < cb := by omega
        simp [a, b, e, d, this]
    · simp [a, b]
theorem best_ref1 {ms F : Int32} {s bs : Nat} {c : Prop} [Decidable c] : (if decide c = false then nI bs else nI s) = nI (if c then (s, F) else (bs, ms)).1 := by
  by_cases h : c <;> simp [h]
theorem best_ref2 {ms F : Int32} {s bs : Nat} {c : Prop} [Decidable c] : (if decide c = false then ms else F) = (if c then (s, F) else (bs, ms)).2 := by
  by_cases h : c <;> simp [h]
/-- what the others than m grind -/
def sOth (nw : Nat → Int32) (n ml q : Nat) (w : Int32) (s : Nat) (h : Int32) (i : Nat) : Int32 := sumN (fun k => if nI k = nI ml then 0 else sGr nw n k q w s h) i
theorem allN_st {P : Nat → Bool} {i : Nat} {c : Prop} [Decidable c] (hp : P i = decide c) (h : true = allN P i) : (if c then true else false) = allN P (i + 1) := by
  rw [allN, ← h, hp]
  by_cases e : c <;> simp [e]
theorem allN_no {P : Nat → Bool} {i : Nat} (h : false = allN P i) : ∀ n, i ≤ n → allN P n = false := by
  intro n hn
  induction n with
  | zero =>
    rw [Nat.le_zero.mp hn] at h
    exact h.symm
  | succ n ih =>
    by_cases e : i = n + 1
    · rw [← e]; exact h.symm
    · rw [allN, ih (by omega)]
      rfl
/-- a night, as the reference asks it -/
def nightG (nw : Nat → Int32) (n q : Nat) (w nh : Int32) (it : Nat → Int32) (s : Nat) : Bool := allN (fun j => !s.testBit j || decide (sF nw j 7 = 0)) n && allN (fun j => decide (jmin (nh * sFree nw n j q w s hNo) (sF nw j 3) = it j)) n
def nightA (F : Nat → Bool) (i : Int32) (s : Nat) : Int32 := match nightR F i s with
  | some z => nI z
  | none => -1000000
section NA
variable {F : Nat → Bool} {i at' : Int32} {s : Nat}
theorem nA_skip (hF : F s = false) : nightA F i (s + 1) = nightA F i s := by
  unfold nightA
  rw [nightR]
  cases nightR F i s with
  | some z => rfl
  | none => simp [hF]
theorem nR_lt (hs : s ≤ 256) : ∀ k, k ≤ s → nightR F i k ≠ none → ∃ c, i = nI c ∧ c < cntN F k := by
  intro k
  induction k with
  | zero => intro _ h; exact absurd rfl h
  | succ k ih =>
    intro hk h
    rw [nightR] at h
    cases hr : nightR F i k with
    | some z =>
      obtain ⟨c, h1, h2⟩ := ih (by omega) (by rw [hr]; simp)
      exact ⟨c, h1, by rw [cntN]; omega⟩
    | none =>
      rw [hr] at h
      by_cases q : F k = true ∧ nI (cntN F k) = i
      · exact ⟨cntN F k, q.2.symm, by rw [cntN, if_pos q.1]; omega⟩
      · exact absurd (if_neg q) h
theorem nA_on (hs : s < 256) (hF : F s = true) : nightA F i (s + 1) = if nI (cntN F s) = i then nI s else nightA F i s := by
  unfold nightA
  rw [nightR]
  cases hr : nightR F i s with
  | some z =>
    obtain ⟨c, h1, h2⟩ := nR_lt (F := F) (i := i) (s := s) (by omega) s (Nat.le_refl s) (by rw [hr]; simp)
    have h3 := cntN_le F s
    have h4 : ¬ nI (cntN F s) = i := fun q => by
      rw [h1] at q
      have := (n_eq (a := cntN F s) (b := c) rfl rfl (by omega) (by omega)).mp q
      omega
    simp [h4]
  | none =>
    simp only [hF, true_and]
    by_cases q : nI (cntN F s) = i
    · simp [q]
    · simp [q]
theorem nA_end {N : Nat} (hN : N ≤ 256) (hi : ¬ i < -1) : (if 0 ≤ i then nightA F i N else nI (cntN F N)) = nightV F i N := by
  unfold nightA nightV
  by_cases h : 0 ≤ i
  · rw [if_pos h]
    cases nightR F i N with
    | some z => rfl
    | none =>
      have h2 : ¬ i = -1 := fun q => by rw [q] at h; exact absurd h (by decide)
      simp [h2]
  · rw [if_neg h]
    have h2 : i = -1 := by
      have h3 := Int32.lt_iff_toInt_lt.mp (Int32.not_le.mp h)
      have h4 := Int32.le_iff_toInt_le.mp (Int32.not_lt.mp hi)
      apply Int32.toInt_inj.mp
      rw [show (0 : Int32).toInt = 0 from rfl] at h3
      rw [show (-1 : Int32).toInt = -1 from rfl] at h4 ⊢
      omega
    cases hr : nightR F i N with
    | some z =>
      obtain ⟨c, h5, h6⟩ := nR_lt (F := F) (i := i) (s := N) hN N (Nat.le_refl N) (by rw [hr]; simp)
      have h7 := cntN_le F N
      rw [h5] at h
      exact absurd (nI_le (a := 0) (b := c) (by omega) (by omega)) h
    | none =>
      simp [h2]
end NA
theorem hrsB_in {it : Nat → Int32} {i n k : Nat} (z : hrsB it i n = true) (h1 : i ≤ k) (h2 : k < i + n) : isWnd (it k) = true := by
  have h3 : isWnd (it (i + (k - i))) = true := allN_get z (by omega)
  rw [show i + (k - i) = k by omega] at h3
  exact h3
theorem up_ref {nw : Nat → Int32} {m : Int32} : (if 9 ≤ sF nw (tn m) 0 then -1000000 else m) = sUp nw m := by
  unfold sUp
  by_cases h : sF nw (tn m) 0 < 9
  · rw [if_pos h, if_neg (Int32.not_le.mpr h)]
  · rw [if_neg h, if_pos (Int32.not_lt.mp h)]
    rfl
theorem owe_ref {p q : Bool} {a b : Int32} : (if p = false then false else if b ≤ a then false else if q = false then false else true) = ((p && decide (a < b)) && q) := by
  cases p
  · rfl
  · by_cases h : b ≤ a
    · rw [if_neg (by decide), if_pos h, decide_eq_false (Int32.not_lt.mpr h)]
      rfl
    · rw [if_neg (by decide), if_neg h, decide_eq_true (Int32.not_le.mp h)]
      cases q <;> rfl
theorem allN_st3 {P : Nat → Bool} {i : Nat} {b p : Bool} {c : Prop} [Decidable c] (hp : P i = (!p || decide c)) (h : b = allN P i) : (if b = false then false else if p = false then true else if c then true else false) = allN P (i + 1) := by
  rw [allN, ← h, hp]
  by_cases e : c <;> cases b <;> cases p <;> simp [e]
section NGS
variable {nw it : Nat → Int32} {n q s : Nat} {w nh : Int32} {i ft a9 v : Int32} {F : Nat → Bool}
theorem nG_f1 (h : allN (fun j => !s.testBit j || decide (sF nw j 7 = 0)) n = false) : nightG nw n q w nh it s = false := by
  unfold nightG
  rw [h, Bool.false_and]
theorem nG_f2 (h : allN (fun j => decide (jmin (nh * sFree nw n j q w s hNo) (sF nw j 3) = it j)) n = false) : nightG nw n q w nh it s = false := by
  unfold nightG
  rw [h, Bool.and_false]
theorem nG_f3 (h1 : allN (fun j => !s.testBit j || decide (sF nw j 7 = 0)) n = true) (h : allN (fun j => decide (jmin (nh * sFree nw n j q w s hNo) (sF nw j 3) = it j)) n = true) : nightG nw n q w nh it s = true := by
  unfold nightG
  rw [h1, h]
  rfl
theorem nG_skip (hF : F s = false) (hf : ft = nI (cntN F s)) (ha : a9 = nightA F i s) : ft = nI (cntN F (s + 1)) ∧ a9 = nightA F i (s + 1) := by
  refine ⟨?_, ?_⟩
  · rw [cntN, hF]
    simpa using hf
  · rw [nA_skip hF]
    exact ha
theorem nG_on (hs : s < 256) (hF : F s = true) (hf : ft = nI (cntN F s)) (ha : a9 = nightA F i s) (hv : v = if ft = i then nI s else a9) : ft + Int32.ofInt 1 = nI (cntN F (s + 1)) ∧ v = nightA F i (s + 1) := by
  refine ⟨?_, ?_⟩
  · rw [cntN, hF, if_pos rfl]
    exact n_add hf rfl
  · rw [nA_on hs hF, hv, hf, ha]
end NGS
theorem nA_end2 {F : Nat → Bool} {i : Int32} {N : Nat} (hN : N ≤ 256) (hi : ¬ i < -1) : (if 0 ≤ i then nightA F i N else nI (cntN F N)) = nightV F i N := nA_end hN hi
/-- draws that are never below 0 -/
theorem lcg_pos {z : Int64} (h : 0 ≤ z.toInt) (h2 : z.toInt < 2147483647) : 0 ≤ (lcg z).toInt ∧ (lcg z).toInt < 2147483647 := by
  have e1 : (z * 16807).toInt = z.toInt * 16807 := by
    rw [Int64.toInt_mul, show (16807 : Int64).toInt = 16807 from rfl, Int.bmod_def]
    split <;> omega
  have e2 : (z * 16807 / 2147483647).toInt = z.toInt * 16807 / 2147483647 := by
    rw [Int64.toInt_div, e1, show (2147483647 : Int64).toInt = 2147483647 from rfl, Int.tdiv_eq_ediv_of_nonneg (by omega), Int.bmod_def]
    split <;> omega
  have e3 : (z * 16807 / 2147483647 * 2147483647).toInt = z.toInt * 16807 / 2147483647 * 2147483647 := by
    rw [Int64.toInt_mul, e2, show (2147483647 : Int64).toInt = 2147483647 from rfl, Int.bmod_def]
    split <;> omega
  have e4 : (lcg z).toInt = z.toInt * 16807 - z.toInt * 16807 / 2147483647 * 2147483647 := by
    unfold lcg
    rw [Int64.toInt_sub, e1, e3, Int.bmod_def]
    split <;> omega
  rw [e4]
  omega
theorem yZ_pos {seed : Int32} (h : (decide (1 ≤ seed) && decide (seed ≤ 999999)) = true) : ∀ k, 0 ≤ (yZ seed k).toInt ∧ (yZ seed k).toInt < 2147483647
  | 0 => by
    simp only [Bool.and_eq_true, decide_eq_true_eq] at h
    have h1 := Int32.le_iff_toInt_le.mp h.1
    have h2 := Int32.le_iff_toInt_le.mp h.2
    rw [show (1 : Int32).toInt = 1 from rfl] at h1
    rw [show (999999 : Int32).toInt = 999999 from rfl] at h2
    show 0 ≤ (seed.toInt64).toInt ∧ (seed.toInt64).toInt < 2147483647
    rw [Int32.toInt_toInt64]
    omega
  | k + 1 => by
    have h1 := yZ_pos h k
    have h2 := lcg_pos h1.1 h1.2
    exact lcg_pos h2.1 h2.2
theorem mod4_q {z : Int64} (h : 0 ≤ z.toInt) : (z - z / 4 * 4).toInt32 = (z &&& 3).toInt32 := by
  have hz := Int64.toInt_lt z
  have e1 : (z / 4).toInt = z.toInt / 4 := by
    rw [Int64.toInt_div, show (4 : Int64).toInt = 4 from rfl, Int.tdiv_eq_ediv_of_nonneg h, Int.bmod_def]
    split <;> omega
  have e2 : (z / 4 * 4).toInt = z.toInt / 4 * 4 := by
    rw [Int64.toInt_mul, e1, show (4 : Int64).toInt = 4 from rfl, Int.bmod_def]
    split <;> omega
  have e3 : (z - z / 4 * 4).toInt = z.toInt % 4 := by
    rw [Int64.toInt_sub, e2, Int.bmod_def]
    split <;> omega
  have e4 : (z &&& 3).toInt = z.toInt % 4 := by
    have h1 : z.toInt = (z.toBitVec.toNat : Int) := by
      have := BitVec.toInt_eq_toNat_cond z.toBitVec
      have h2 : z.toInt = z.toBitVec.toInt := rfl
      rw [h2] at h ⊢
      rw [this] at h ⊢
      split at h
      · rename_i hc; rw [if_pos hc]
      · have := z.toBitVec.isLt; omega
    have h3 : (z &&& 3).toBitVec = z.toBitVec &&& 3#64 := rfl
    have h4 : (z.toBitVec &&& 3#64).toNat = z.toBitVec.toNat % 4 := by
      rw [BitVec.toNat_and]
      exact Nat.and_two_pow_sub_one_eq_mod _ 2
    have h5 : (z &&& 3).toInt = (z &&& 3).toBitVec.toInt := rfl
    rw [h5, h3, BitVec.toInt_eq_toNat_of_lt (by rw [h4]; omega), h4, h1]
    omega
  congr 1
  exact Int64.toInt_inj.mp (e3.trans e4.symm)
theorem y_q (seed : Int32) (h : (decide (1 ≤ seed) && decide (seed ≤ 999999)) = true) (k : Nat) : (lcg (yZ seed k) - lcg (yZ seed k) / 4 * 4).toInt32 = nI (yQ (yZ seed k)) := by
  have h1 := yZ_pos h k
  rw [mod4_q (lcg_pos h1.1 h1.2).1]
  exact (yq_lt _).1
theorem sumN_one {f : Nat → Int32} {a : Nat} : ∀ {n : Nat}, n ≤ 8 → a < n → sumN (fun j => if nI a = nI j then f j else 0) n = f a := by
  intro n
  induction n with
  | zero => intro _ h; omega
  | succ n ih =>
    intro h8 h
    rw [sumN]
    by_cases e : a = n
    · subst e
      rw [if_pos rfl]
      have : sumN (fun j => if nI a = nI j then f j else 0) a = 0 := by
        have hz : ∀ k, k ≤ a → sumN (fun j => if nI a = nI j then f j else 0) k = 0 := by
          intro k
          induction k with
          | zero => intro _; rfl
          | succ k ihk =>
            intro hk
            rw [sumN, ihk (by omega), if_neg (fun z => absurd ((n_eq (a := a) (b := k) rfl rfl (by omega) (by omega)).mp z) (by omega))]
            rfl
        exact hz a (Nat.le_refl a)
      rw [this, Int32.zero_add]
    · rw [ih (by omega) (by omega), if_neg (fun z => e ((n_eq (a := a) (b := n) rfl rfl (by omega) (by omega)).mp z)), Int32.add_zero]
theorem y_g {nw : Nat → Int32} {n q : Nat} {w m : Int32} (hn : n ≤ 8) (h : m = -1 ∨ ∃ j, j < n ∧ m = nI j) : yG nw n q w m = sumN (fun j => if m = -1 then sFree nw n j q w 0 hNo else if m = nI j then sFree nw n j q w 0 hNo else 0) n := by
  unfold yG
  rcases h with h | ⟨j, hj, h⟩
  · subst h
    rw [if_pos rfl]
    exact sumN_congr n fun k _ => (if_pos rfl).symm
  · have h1 : ¬ m = -1 := fun z => by
      rw [h] at z
      have : ∀ j, j < 8 → ¬ nI j = -1 := by decide
      exact this j (by omega) z
    rw [if_neg h1]
    have h2 : sumN (fun k => if m = -1 then sFree nw n k q w 0 hNo else if m = nI k then sFree nw n k q w 0 hNo else 0) n = sumN (fun k => if nI j = nI k then sFree nw n k q w 0 hNo else 0) n := sumN_congr n fun k _ => by rw [if_neg h1, h]
    rw [h2, sumN_one hn hj, h, tn_nI (by omega)]
