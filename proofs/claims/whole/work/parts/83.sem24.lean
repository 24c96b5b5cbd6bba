/-! RANGES: what a ridge's numbers keep to -/
def RG (n : Nat) (nw : Nat → Int32) : Prop := (0 ≤ nw 2 ∧ nw 2 ≤ 90) ∧ ∀ j, j < n → (∃ k, 1 ≤ k ∧ k < 6 ∧ sK nw j = nI k) ∧ sF nw j 0 ≤ 9 ∧ (0 ≤ sF nw j 1 ∧ sF nw j 1 ≤ 9) ∧ 0 ≤ sF nw j 3 ∧ sF nw j 3 ≤ 99999
theorem bt2 {a b c : Int32} (h : (decide (a ≤ b) && decide (b ≤ c)) = true) : a ≤ b ∧ b ≤ c := by
  simp only [Bool.and_eq_true, decide_eq_true_eq] at h
  exact h
section RGS
variable {f : Nat → Int32} {t c n : Nat} {s : Nat × Int32} {d g nw : Nat → Int32}
theorem stS_0 (h : (stS f t s).2 = 0) : s.2 = 0 := (stB_0 h).2
theorem mlS_rg (h : (mlS f t s c d).2 = 0) : s.2 = 0 ∧ c < 8 ∧ srtN f t (ml1 f t s c).1 ≠ 0 ∧ (1 ≤ tvI f t (ml5 f t s c d).1 ∧ tvI f t (ml5 f t s c d).1 ≤ 9) ∧ (1 ≤ tvI f t (ml6 f t s c d).1 ∧ tvI f t (ml6 f t s c d).1 ≤ 9) ∧ (0 ≤ tvI f t (ml8 f t s c d).1 ∧ tvI f t (ml8 f t s c d).1 ≤ 999) := by
  obtain ⟨h8, -, r8⟩ := stN_0 (stS_0 h)
  obtain ⟨h7, -, -⟩ := stN_0 h8
  obtain ⟨h6, -, r6⟩ := stN_0 h7
  obtain ⟨h5, -, r5⟩ := stN_0 h6
  obtain ⟨h4, -, -⟩ := stN_0 h5
  obtain ⟨h3, -⟩ := my_0 h4
  obtain ⟨h2, -, -⟩ := stN_0 h3
  obtain ⟨hs, h1⟩ := stB_0 h2
  exact ⟨ml1_0 h1, Nat.lt_of_not_le fun z => ml1_full (f := f) (t := t) (s := s) z h1, of_decide_eq_true hs, bt2 r5, bt2 r6, bt2 r8⟩
theorem mlW_rg (h : (mlS f t s c d).2 = 0) (hd : RG c d) : RG (c + 1) (mlW f t s c d) := by
  obtain ⟨-, hc, hs, r0, r1, r3⟩ := mlS_rg h
  unfold mlW
  refine ⟨by rw [mlRow_lo (by decide) (by decide) hc]; exact hd.1, fun j hj => ?_⟩
  by_cases e : j = c
  · subst e
    rw [mlRow_Fc (by decide) hc, mlRow_Fc (by decide) hc, mlRow_Fc (by decide) hc, mlRow_Kc]
    exact ⟨⟨_, Nat.pos_of_ne_zero hs, srt_lt _ _ _, rfl⟩, r0.2, ⟨Int32.le_trans (by decide) r1.1, r1.2⟩, r3.1, Int32.le_trans r3.2 (by decide)⟩
  · have hj2 : j < c := by omega
    rw [mlRow_F hj2 (by decide) hc, mlRow_F hj2 (by decide) hc, mlRow_F hj2 (by decide) hc, mlRow_K hj2 hc]
    exact hd.2 j hj2
theorem mlRun_rg : ∀ (k : Nat) (r : RS), (r.1.2 = 0 → RG r.2.1 r.2.2) → (mlRun f t k r).1.2 = 0 → RG (mlRun f t k r).2.1 (mlRun f t k r).2.2
  | 0, r, h, h2 => h h2
  | k + 1, r, h, h2 => by
    by_cases c : r.1.2 = 0 ∧ tkI f t r.1.1 ≠ 0
    · rw [mlRun_go c.1 c.2] at h2 ⊢
      exact mlRun_rg k (mlNx f t r) (fun z => mlW_rg z (h c.1)) h2
    · have e : mlRun f t (k + 1) r = r := if_neg c
      rw [e] at h2 ⊢
      exact h h2
theorem law_rg (h : (lw5 f t s).2 = 0) : RG 0 (lawR f t s) := by
  obtain ⟨h3, -, -⟩ := stN_0 (stS_0 h)
  obtain ⟨h2, -, -⟩ := stN_0 h3
  obtain ⟨-, -, r⟩ := stN_0 h2
  exact ⟨bt2 r, fun j hj => absurd hj (Nat.not_lt_zero j)⟩
theorem rdF_rg (h : (rdF f t).1.2 = 0) : RG (rdF f t).2.1 (rdF f t).2.2 :=
  mlRun_rg 8 (mlNx f t (rd0 f t)) (fun z => mlW_rg z (law_rg (mlS_rg z).1)) h
theorem RG.ag (h : RG n d) (ha : AG n g d) : RG n g := by
  refine ⟨by rw [ha.1 2 (by decide) (by decide)]; exact h.1, fun j hj => ?_⟩
  rw [(ha.2 j hj).2, (ha.2 j hj).1 0 (by decide), (ha.2 j hj).1 1 (by decide), (ha.2 j hj).1 3 (by decide)]
  exact h.2 j hj
theorem AG.rf : AG n d d := ⟨fun _ _ _ => rfl, fun _ _ => ⟨fun _ _ => rfl, rfl⟩⟩
theorem AG.of93 (hn : n ≤ 8) (h : ∀ k, k < 93 → g k = d k) : AG n g d := AG.rf.c93 hn h
theorem RR.agd {u : Mem} {ρ : Nat} (h : RR n u ρ d) (ha : AG n g d) (h0 : g 0 = nI n) : RR n u ρ g := by
  obtain ⟨a1, a2, a3, a4, a5, a6, a7, a8⟩ := h
  refine ⟨a1, a2, h0, by rw [ha.1 1 (by decide) (by decide)]; exact a4, by rw [ha.1 2 (by decide) (by decide)]; exact a5, by rw [ha.1 3 (by decide) (by decide)]; exact a6, by rw [ha.1 4 (by decide) (by decide)]; exact a7, fun j hj => ?_⟩
  rw [(ha.2 j hj).2, (ha.2 j hj).1 0 (by decide), (ha.2 j hj).1 1 (by decide), (ha.2 j hj).1 2 (by decide), (ha.2 j hj).1 3 (by decide), (ha.2 j hj).1 4 (by decide), (ha.2 j hj).1 5 (by decide), (ha.2 j hj).1 6 (by decide), (ha.2 j hj).1 8 (by decide), (ha.2 j hj).1 9 (by decide)]
  have e7 := (ha.2 j hj).1 7 (by decide)
  rw [e7]
  exact a8 j hj
end RGS
/-! wind left, and what is ground, in numbers -/
theorem i32_mul {a b : Int32} (h1 : -2147483648 ≤ a.toInt * b.toInt) (h2 : a.toInt * b.toInt < 2147483648) : (a * b).toInt = a.toInt * b.toInt := by
  rw [Int32.toInt_mul]
  exact bm32 h1 h2
theorem i32_div {a b : Int32} (ha : 0 ≤ a.toInt) (hb : 0 < b.toInt) : (a / b).toInt = a.toInt / b.toInt := by
  have h1 := Int32.toInt_lt a
  have h2 : a.toInt / b.toInt ≤ a.toInt := Int.ediv_le_self _ ha
  have h3 : 0 ≤ a.toInt / b.toInt := Int.ediv_nonneg ha (Int.le_of_lt hb)
  rw [Int32.toInt_div, Int.tdiv_eq_ediv_of_nonneg ha]
  exact bm32 (by omega) (by omega)
theorem lIt_in {t w : Int32} (ht : 0 ≤ t.toInt ∧ t.toInt ≤ 90) (hw : 0 ≤ w.toInt ∧ w.toInt ≤ 100) : ∀ k, (0 ≤ (lIt t w k).toInt ∧ (lIt t w k).toInt ≤ 100) ∧ (lIt t w (k + 1)).toInt ≤ (lIt t w k).toInt ∧ 0 ≤ (lIt t w (k + 1)).toInt := by
  have step : ∀ l : Int32, 0 ≤ l.toInt → l.toInt ≤ 100 → (l - t * l / 100).toInt ≤ l.toInt ∧ 0 ≤ (l - t * l / 100).toInt := by
    intro l h0 h1
    have hp : 0 ≤ t.toInt * l.toInt := Int.mul_nonneg ht.1 h0
    have hp2 : t.toInt * l.toInt ≤ 90 * l.toInt := Int.mul_le_mul_of_nonneg_right ht.2 h0
    have e1 : (t * l).toInt = t.toInt * l.toInt := i32_mul (by omega) (by omega)
    have e2 : (t * l / 100).toInt = t.toInt * l.toInt / 100 := by
      rw [i32_div (by rw [e1]; exact hp) (by decide), e1]
      rfl
    have e3 : (l - t * l / 100).toInt = l.toInt - t.toInt * l.toInt / 100 := by
      rw [Int32.toInt_sub, e2]
      exact bm32 (by omega) (by omega)
    rw [e3]
    omega
  intro k
  induction k with
  | zero =>
    have h := step w hw.1 hw.2
    exact ⟨hw, h.1, h.2⟩
  | succ k ih =>
    have h := step (lIt t w (k + 1)) ih.2.2 (by omega)
    exact ⟨⟨ih.2.2, by omega⟩, h.1, h.2⟩
theorem lIt_mono {t w : Int32} (ht : 0 ≤ t.toInt ∧ t.toInt ≤ 90) (hw : 0 ≤ w.toInt ∧ w.toInt ≤ 100) {a b : Nat} (h : a ≤ b) : (lIt t w b).toInt ≤ (lIt t w a).toInt := by
  obtain ⟨d, rfl⟩ : ∃ d, b = a + d := ⟨b - a, by omega⟩
  clear h
  induction d with
  | zero => exact Int.le_refl _
  | succ d ih => exact Int.le_trans (lIt_in ht hw (a + d)).2.1 ih
theorem cntN_mono {p q : Nat → Bool} : ∀ n, (∀ j, j < n → p j = true → q j = true) → cntN p n ≤ cntN q n
  | 0, _ => Nat.le_refl 0
  | n + 1, h => by
    have ih := cntN_mono n (fun j hj => h j (by omega))
    have h1 := h n (by omega)
    rw [cntN, cntN]
    cases hp : p n with
    | false => cases hq : q n <;> simp <;> omega
    | true => rw [h1 hp]; simp; omega
section GRS
variable {nw : Nat → Int32} {n m q s : Nat} {w h : Int32}
theorem ti2 {a b c : Int32} (h : a ≤ b ∧ b ≤ c) : a.toInt ≤ b.toInt ∧ b.toInt ≤ c.toInt := ⟨Int32.le_iff_toInt_le.mp h.1, Int32.le_iff_toInt_le.mp h.2⟩
theorem free_in (hR : RG n nw) (hm : m < n) (hw : 0 ≤ w ∧ w ≤ 100) : 0 ≤ (sFree nw n m q w s h).toInt := by
  have ht := ti2 hR.1
  have hw2 := ti2 hw
  have hs := ti2 (hR.2 m hm).2.2.1
  unfold sFree
  split
  · split
    · have e : (5 * sF nw m 1).toInt = 5 * (sF nw m 1).toInt := i32_mul (a := 5) (by show _ ≤ (5 : Int) * _; have := hs.1; have h0 : (0 : Int32).toInt = 0 := rfl; omega) (by show (5 : Int) * _ < _; have := hs.2; have h0 : (9 : Int32).toInt = 9 := rfl; omega)
      rw [e]
      have h0 : (0 : Int32).toInt = 0 := rfl
      omega
    · unfold sLeft
      have hl := (lIt_in (t := nw 2) (w := w) ht hw2 (cntN (fun o => sBehind nw m o q h && sTakes nw o q s) n)).1
      generalize lIt (nw 2) w (cntN (fun o => sBehind nw m o q h && sTakes nw o q s) n) = l at hl ⊢
      have hp : 0 ≤ l.toInt * (sF nw m 1).toInt := Int.mul_nonneg hl.1 hs.1
      have hp2 : l.toInt * (sF nw m 1).toInt ≤ l.toInt * 9 := Int.mul_le_mul_of_nonneg_left hs.2 hl.1
      have e1 : (l * sF nw m 1).toInt = l.toInt * (sF nw m 1).toInt := i32_mul (by omega) (by omega)
      split
      · rw [i32_div (by rw [e1]; exact hp) (by decide), e1]
        exact Int.ediv_nonneg hp (by decide)
      · rw [i32_div (by rw [e1]; exact hp) (by decide), e1]
        exact Int.ediv_nonneg hp (by decide)
  · exact Int.le_refl 0
theorem free_mono (hR : RG n nw) (hm : m < n) (hw : 0 ≤ w ∧ w ≤ 100) (hs9 : s.testBit m = false) : (sFree nw n m q w 0 h).toInt ≤ (sFree nw n m q w s h).toInt := by
  have ht := ti2 hR.1
  have hw2 := ti2 hw
  have hs := ti2 (hR.2 m hm).2.2.1
  have eT : sTurns nw m q s = sTurns nw m q 0 := by rw [sTurns_s, hs9]; simp
  unfold sFree
  rw [eT]
  split
  · split
    · exact Int.le_refl _
    · unfold sLeft
      have hc : cntN (fun o => sBehind nw m o q h && sTakes nw o q s) n ≤ cntN (fun o => sBehind nw m o q h && sTakes nw o q 0) n := cntN_mono n (fun j _ hj => by
        rw [sTakes_s nw j q s] at hj
        simp only [Bool.and_eq_true] at hj ⊢
        exact ⟨hj.1, hj.2.1⟩)
      have hmn := lIt_mono (t := nw 2) (w := w) ht hw2 hc
      have hla := (lIt_in (t := nw 2) (w := w) ht hw2 (cntN (fun o => sBehind nw m o q h && sTakes nw o q 0) n)).1
      have hlb := (lIt_in (t := nw 2) (w := w) ht hw2 (cntN (fun o => sBehind nw m o q h && sTakes nw o q s) n)).1
      generalize lIt (nw 2) w (cntN (fun o => sBehind nw m o q h && sTakes nw o q 0) n) = la at hla hmn ⊢
      generalize lIt (nw 2) w (cntN (fun o => sBehind nw m o q h && sTakes nw o q s) n) = lb at hlb hmn ⊢
      have hpa : 0 ≤ la.toInt * (sF nw m 1).toInt := Int.mul_nonneg hla.1 hs.1
      have hpb : 0 ≤ lb.toInt * (sF nw m 1).toInt := Int.mul_nonneg hlb.1 hs.1
      have hpa2 : la.toInt * (sF nw m 1).toInt ≤ la.toInt * 9 := Int.mul_le_mul_of_nonneg_left hs.2 hla.1
      have hpb2 : lb.toInt * (sF nw m 1).toInt ≤ lb.toInt * 9 := Int.mul_le_mul_of_nonneg_left hs.2 hlb.1
      have hab : la.toInt * (sF nw m 1).toInt ≤ lb.toInt * (sF nw m 1).toInt := Int.mul_le_mul_of_nonneg_right hmn hs.1
      have ea : (la * sF nw m 1).toInt = la.toInt * (sF nw m 1).toInt := i32_mul (by omega) (by omega)
      have eb : (lb * sF nw m 1).toInt = lb.toInt * (sF nw m 1).toInt := i32_mul (by omega) (by omega)
      split
      · rw [i32_div (by rw [ea]; exact hpa) (by decide), i32_div (by rw [eb]; exact hpb) (by decide), ea, eb]
        exact Int.ediv_le_ediv (by decide) hab
      · rw [i32_div (by rw [ea]; exact hpa) (by decide), i32_div (by rw [eb]; exact hpb) (by decide), ea, eb]
        exact Int.ediv_le_ediv (by decide) hab
  · exact Int.le_refl _
theorem gr_in (hR : RG n nw) (hm : m < n) (hw : 0 ≤ w ∧ w ≤ 100) : 0 ≤ (sGr nw n m q w s h).toInt ∧ (sGr nw n m q w s h).toInt ≤ (sF nw m 3).toInt := by
  have hc := ti2 (hR.2 m hm).2.2.2
  have hf := free_in (q := q) (s := s) (h := h) hR hm hw
  unfold sGr
  split
  · exact ⟨hc.1, Int.le_refl _⟩
  · rename_i c
    exact ⟨hf, Int32.le_iff_toInt_le.mp (Int32.not_lt.mp c)⟩
theorem gr_mono (hR : RG n nw) (hm : m < n) (hw : 0 ≤ w ∧ w ≤ 100) (hs9 : s.testBit m = false) : (sGr nw n m q w 0 h).toInt ≤ (sGr nw n m q w s h).toInt := by
  have hf := free_mono (q := q) (h := h) hR hm hw hs9
  unfold sGr
  split
  · rename_i c
    rw [if_pos (Int32.lt_iff_toInt_lt.mpr (Int.lt_of_lt_of_le (Int32.lt_iff_toInt_lt.mp c) hf))]
    exact Int.le_refl _
  · rename_i c
    split
    · exact Int32.le_iff_toInt_le.mp (Int32.not_lt.mp c)
    · exact hf
theorem gr_own (hR : RG n nw) (hm : m < n) (hm8 : m < 8) : sGr nw n m q w (2 ^ m) h = 0 := by
  have hc := (hR.2 m hm).2.2.2.1
  have hT : sTurns nw m q (2 ^ m) = false := by
    rw [sTurns_s, Nat.testBit_two_pow_self]
    simp
  have hF : sFree nw n m q w (2 ^ m) h = 0 := by
    unfold sFree
    rw [hT]
    rfl
  unfold sGr
  rw [hF, if_neg (Int32.not_lt.mpr hc)]
theorem jmax_0 {a b : Int32} (h1 : 0 ≤ a.toInt) (h2 : a.toInt ≤ b.toInt) : jmax (b - a) 0 = b - a := by
  have h3 := Int32.toInt_lt b
  have e : (b - a).toInt = b.toInt - a.toInt := by
    rw [Int32.toInt_sub]
    exact bm32 (by omega) (by omega)
  unfold jmax
  rw [if_neg]
  intro z
  have := Int32.lt_iff_toInt_lt.mp z
  rw [e, show (0 : Int32).toInt = 0 from rfl] at this
  omega
theorem gain_eq (hR : RG n nw) (hm : m < n) (hw : 0 ≤ w ∧ w ≤ 100) (hs9 : s.testBit m = false) : sGain nw n m q w s = sGr nw n m q w s hNo - sGr nw n m q w 0 hNo :=
  jmax_0 (gr_in hR hm hw).1 (gr_mono hR hm hw hs9)
theorem loss_own (hR : RG n nw) (hm : m < n) (hm8 : m < 8) (hw : 0 ≤ w ∧ w ≤ 100) : sLoss nw n m q w (2 ^ m) = sGr nw n m q w 0 hNo := by
  unfold sLoss
  rw [gr_own hR hm hm8]
  have h := (gr_in (q := q) (s := 0) (h := hNo) hR hm hw).1
  rw [jmax_0 (a := 0) (Int.le_refl _) h, Int32.sub_zero]
/-- one apart, of a sum -/
theorem sum_oth {F : Nat → Int32} {m : Nat} : ∀ {n : Nat}, n ≤ 8 → m < n → sumN F n - F m = sumN (fun k => if nI k = nI m then 0 else F k) n := by
  intro n
  have hz : ∀ k, k ≤ 8 → m < 8 → k ≤ m → sumN (fun k => if nI k = nI m then 0 else F k) k = sumN F k := by
    intro k h1 h2 h3
    exact sumN_congr k fun j hj => if_neg (fun z => absurd ((n_eq (a := j) (b := m) rfl rfl (by omega) (by omega)).mp z) (by omega))
  induction n with
  | zero => intro _ h; omega
  | succ n ih =>
    intro h8 h
    rw [sumN, sumN]
    by_cases e : m = n
    · subst e
      rw [if_pos rfl, hz m (by omega) (by omega) (Nat.le_refl _), Int32.add_sub_cancel, Int32.add_zero]
    · rw [if_neg (fun z => e ((n_eq (a := n) (b := m) rfl rfl (by omega) (by omega)).mp z).symm), ← ih (by omega) (by omega)]
      rw [Int32.sub_eq_add_neg, Int32.sub_eq_add_neg, Int32.add_assoc, Int32.add_assoc, Int32.add_comm (F n)]
theorem hour_rg (hR : RG n nw) (hn : n ≤ 8) (hw : 0 ≤ w ∧ w ≤ 100) : RG n (hourNw nw n q w) := by
  have hN : ∀ k, k ≠ 1 → hourNw nw n q w k = hourP nw n q w n k := fun k hk => if_neg hk
  refine ⟨by rw [hN 2 (by decide), hourP_lo (by decide)]; exact hR.1, fun j hj => ?_⟩
  obtain ⟨h1, h2, h3, h4⟩ := hR.2 j hj
  have eK : sK (hourNw nw n q w) j = sK nw j := by
    show hourNw nw n q w (85 + j) = nw (85 + j)
    rw [hN _ (by omega)]
    exact if_neg (by omega)
  have e0 : ∀ f, f ≠ 3 → f ≠ 4 → f ≠ 5 → f < 10 → sF (hourNw nw n q w) j f = sF nw j f := fun f f3 f4 f5 f10 => by
    show hourNw nw n q w (5 + 10 * j + f) = nw (5 + 10 * j + f)
    rw [hN _ (by omega)]
    unfold hourP
    by_cases c : 5 ≤ 5 + 10 * j + f ∧ 5 + 10 * j + f < 5 + 10 * n
    · rw [if_pos c, if_neg (by omega), if_neg (by omega), if_neg (by omega)]
    · rw [if_neg c]
  have e3 : sF (hourNw nw n q w) j 3 = sF nw j 3 - sGr nw n j q w 0 hNo := by
    show hourNw nw n q w (5 + 10 * j + 3) = nw (5 + 10 * j + 3) - _
    rw [hN _ (by omega)]
    unfold hourP
    rw [if_pos (by omega), if_pos (by omega), show (5 + 10 * j + 3 - 5) / 10 = j by omega]
  rw [eK, e0 0 (by decide) (by decide) (by decide) (by decide), e0 1 (by decide) (by decide) (by decide) (by decide), e3]
  refine ⟨h1, h2, h3, ?_⟩
  have hg := gr_in (q := q) (s := 0) (h := hNo) hR hj hw
  have hc := ti2 h4
  have e : (sF nw j 3 - sGr nw n j q w 0 hNo).toInt = (sF nw j 3).toInt - (sGr nw n j q w 0 hNo).toInt := by
    rw [Int32.toInt_sub]
    have := Int32.toInt_lt (sF nw j 3)
    exact bm32 (by omega) (by omega)
  have z0 : (0 : Int32).toInt = 0 := rfl
  constructor
  · apply Int32.le_iff_toInt_le.mpr
    rw [e]
    omega
  · apply Int32.le_iff_toInt_le.mpr
    rw [e]
    omega
theorem hrs_rg {it : Nat → Int32} {i : Nat} (hR : RG n nw) (hn : n ≤ 8) : ∀ k, hrsB it i k = true → RG n (hrsNw nw n it i k)
  | 0, _ => hR
  | k + 1, h => by
    have h2 : hrsB it i k = true := by
      unfold hrsB at h ⊢
      exact allN_true k (fun j hj => allN_get h (by omega))
    have h3 := hrsB_in (it := it) (i := i) (n := k + 1) (k := i + k) h (Nat.le_add_right _ _) (by omega)
    refine hour_rg (hrs_rg hR hn k h2) hn ?_
    unfold isWnd at h3
    simp only [Bool.and_eq_true, decide_eq_true_eq] at h3
    exact h3.2
end GRS
