/-! arguments that have been looked at -/
abbrev tn (v : Int32) : Nat := v.toNatClampNeg
theorem tn_nI {k : Nat} (h : k < 2 ^ 31) : tn (nI k) = k := nI_clamp h
theorem within_nI {v K : Int32} {k : Nat} (hK : K = nI k) (hk : k < 2 ^ 31) (h : (decide (0 ≤ v) && decide (v ≤ K)) = true) : v = nI (tn v) ∧ tn v ≤ k := by
  simp only [Bool.and_eq_true, decide_eq_true_eq] at h
  obtain ⟨j, hj, e⟩ := nI_of (Int32.not_lt.mpr h.1)
  subst e
  rw [hK] at h
  rw [tn_nI hj]
  exact ⟨rfl, (nI_leI hj hk).mp h.2⟩
theorem rowN {v : Int32} (h : (decide (0 ≤ v) && decide (v ≤ 7)) = true) : v = nI (tn v) ∧ tn v < 8 := by
  obtain ⟨h1, h2⟩ := within_nI (k := 7) rfl (by decide) h
  exact ⟨h1, by omega⟩
theorem windQ {q w : Int32} (h : ((decide (0 ≤ q) && decide (q ≤ 3)) && (decide (0 ≤ w) && decide (w ≤ 100))) = true) : q = nI (tn q) ∧ tn q < 4 := by
  obtain ⟨h1, h2⟩ := within_nI (k := 3) rfl (by decide) (Bool.and_eq_true_iff.mp h).1
  exact ⟨h1, by omega⟩
theorem windW {q w : Int32} (h : ((decide (0 ≤ q) && decide (q ≤ 3)) && (decide (0 ≤ w) && decide (w ≤ 100))) = true) : w = nI (tn w) ∧ tn w ≤ 100 := within_nI (k := 100) rfl (by decide) (Bool.and_eq_true_iff.mp h).2
theorem hasM {v c : Int32} {n : Nat} (hc : c = nI n) (hn : n ≤ 8) (h : (decide (0 ≤ v) && decide (v < c)) = true) : v = nI (tn v) ∧ tn v < n := by
  simp only [Bool.and_eq_true, decide_eq_true_eq] at h
  obtain ⟨j, hj, e⟩ := nI_of (Int32.not_lt.mpr h.1)
  subst e
  rw [hc] at h
  rw [tn_nI hj]
  exact ⟨rfl, (nI_ltI hj (by omega)).mp h.2⟩
theorem hh_no {n : Nat} {nw : Nat → Int32} (hn : n ≤ 8) : ∀ j, j < n → (if nI j = -1 then jmin (sF nw j 0 + 1) 9 else sF nw j 0) = sFl nw j hNo := by
  intro j hj
  have h1 : ∀ j, j < 8 → ¬ nI j = -1 := by decide
  have h2 : ∀ j, j < 8 → ¬ nI j = hNo := by decide
  unfold sFl
  rw [if_neg (h1 j (by omega)), if_neg (h2 j (by omega)), Int32.add_zero]
/-- an hour: the row behind it -/
def sWear (nw : Nat → Int32) (n m q : Nat) (w : Int32) : Int32 := if sTakes nw m q 0 then sLeft nw n m q w 0 hNo / 10 else 0
def hourP (nw : Nat → Int32) (n q : Nat) (w : Int32) (i : Nat) : Nat → Int32 := fun k =>
  if 5 ≤ k ∧ k < 5 + 10 * i then (if (k - 5) % 10 = 3 then nw k - sGr nw n ((k - 5) / 10) q w 0 hNo else if (k - 5) % 10 = 4 then nw k + sGr nw n ((k - 5) / 10) q w 0 hNo else if (k - 5) % 10 = 5 then nw k + sWear nw n ((k - 5) / 10) q w else nw k) else nw k
def hourNw (nw : Nat → Int32) (n q : Nat) (w : Int32) : Nat → Int32 := fun k => if k = 1 then nw 1 + 1 else hourP nw n q w n k
theorem hourP_sF {nw : Nat → Int32} {n q : Nat} {w : Int32} {i j f : Nat} (hf : f < 10) : sF (hourP nw n q w i) j f = if j < i then (if f = 3 then sF nw j 3 - sGr nw n j q w 0 hNo else if f = 4 then sF nw j 4 + sGr nw n j q w 0 hNo else if f = 5 then sF nw j 5 + sWear nw n j q w else sF nw j f) else sF nw j f := by
  have e1 : (5 + 10 * j + f - 5) % 10 = f := by omega
  have e2 : (5 + 10 * j + f - 5) / 10 = j := by omega
  unfold sF hourP
  rw [e1, e2]
  by_cases h : j < i
  · rw [if_pos (by omega), if_pos h]
    split
    · next h3 => subst h3; rfl
    · split
      · next h3 => subst h3; rfl
      · split
        · next h3 => subst h3; rfl
        · rfl
  · rw [if_neg (by omega), if_neg h]
theorem hourP_lo {nw : Nat → Int32} {n q : Nat} {w : Int32} {i k : Nat} (hk : k < 5) : hourP nw n q w i k = nw k := if_neg (by omega)
theorem hourP_sK {nw : Nat → Int32} {n q : Nat} {w : Int32} {i j : Nat} (hi : i ≤ 8) : sK (hourP nw n q w i) j = sK nw j := if_neg (by omega)
theorem hourP_at {nw : Nat → Int32} {n q : Nat} {w : Int32} {i j f : Nat} (hf : f < 10) (h : j < i → f ≠ 3 ∧ f ≠ 4 ∧ f ≠ 5) : sF (hourP nw n q w i) j f = sF nw j f := by
  rw [hourP_sF hf]
  by_cases hj : j < i
  · rw [if_pos hj, if_neg (h hj).1, if_neg (h hj).2.1, if_neg (h hj).2.2]
  · rw [if_neg hj]
/-- who turns, takes, stands behind: it does not rest on corn, flour, wear -/
def sameG (n : Nat) (a b : Nat → Int32) : Prop := a 2 = b 2 ∧ ∀ j, j < n → sK a j = sK b j ∧ sF a j 0 = sF b j 0 ∧ sF a j 6 = sF b j 6 ∧ sF a j 7 = sF b j 7 ∧ sF a j 8 = sF b j 8 ∧ sF a j 9 = sF b j 9
theorem sameG.turns {n : Nat} {a b : Nat → Int32} (h : sameG n a b) {j q s : Nat} (hj : j < n) : sTurns a j q s = sTurns b j q s := by
  obtain ⟨h1, h2, h3, h4, h5, h6⟩ := h.2 j hj
  unfold sTurns
  rw [h1, h3, h4]
theorem sameG.takes {n : Nat} {a b : Nat → Int32} (h : sameG n a b) {j q s : Nat} (hj : j < n) : sTakes a j q s = sTakes b j q s := by
  unfold sTakes
  rw [h.turns hj, (h.2 j hj).1]
theorem sameG.behind {n : Nat} {a b : Nat → Int32} (h : sameG n a b) {i j q : Nat} {z : Int32} (hi : i < n) (hj : j < n) : sBehind a i j q z = sBehind b i j q z := by
  obtain ⟨h1, h2, h3, h4, h5, h6⟩ := h.2 j hj
  obtain ⟨g1, g2, g3, g4, g5, g6⟩ := h.2 i hi
  unfold sBehind sFl
  rw [h2, h5, h6, g2, g5, g6]
theorem sameG.left {n : Nat} {a b : Nat → Int32} (h : sameG n a b) {m q s : Nat} {w z : Int32} (hm : m < n) : sLeft a n m q w s z = sLeft b n m q w s z := by
  unfold sLeft
  rw [h.1, cntN_congr n (fun o ho => by rw [h.behind hm ho, h.takes ho])]
theorem sameG.free {n : Nat} {a b : Nat → Int32} (h : sameG n a b) {m q s : Nat} {w z : Int32} (hm : m < n) (h1 : sF a m 1 = sF b m 1) : sFree a n m q w s z = sFree b n m q w s z := by
  unfold sFree
  rw [h.turns hm, h.left hm, (h.2 m hm).1, h1]
theorem sameG.gr {n : Nat} {a b : Nat → Int32} (h : sameG n a b) {m q s : Nat} {w z : Int32} (hm : m < n) (h1 : sF a m 1 = sF b m 1) (h3 : sF a m 3 = sF b m 3) : sGr a n m q w s z = sGr b n m q w s z := by
  unfold sGr
  rw [h.free hm h1, h3]
theorem sameG.sv {n : Nat} {a b : Nat → Int32} (h : sameG n a b) {x : Mem} {q : Nat} {z : Int32} (hs : SV n b x q z) : SV n a x q z := by
  refine ⟨?_, ?_, fun i hi => ?_⟩
  · rw [hs.1, maskN_congr n (fun j hj => h.turns hj)]
  · rw [hs.2.1, maskN_congr n (fun j hj => h.takes hj)]
  · rw [hs.2.2 i hi, maskN_congr n (fun j hj => h.behind hi hj)]
theorem sameG.bl {n : Nat} {a b : Nat → Int32} (h : sameG n a b) {x : Mem} {q : Nat} {w : Int32} (hs : BL b x q w) : BL a x q w := fun k hk => by rw [hs k hk, h.1]
theorem hourP_same {nw : Nat → Int32} {n q : Nat} {w : Int32} {i : Nat} (hi : i ≤ 8) : sameG n (hourP nw n q w i) nw :=
  ⟨hourP_lo (by decide), fun j hj => ⟨hourP_sK hi, hourP_at (by decide) (fun _ => by decide), hourP_at (by decide) (fun _ => by decide), hourP_at (by decide) (fun _ => by decide), hourP_at (by decide) (fun _ => by decide), hourP_at (by decide) (fun _ => by decide)⟩⟩
/-- all cells but the ridge's and a quarter's -/
def offP (q : Nat) (x u : Mem) : Prop := ∀ a, ¬ (5 ≤ a ∧ a < 15) → ¬ (65 + 13 * q ≤ a ∧ a < 65 + 13 * q + 13) → u a = x a
theorem hour_step {n i q : Nat} {nw : Nat → Int32} {w : Int32} {u : Mem} {g we : Int32} (h : RR n u 5 (hourP nw n q w i)) (hi : i < n) (hg : g = sGr nw n i q w 0 hNo) (hw : we = sWear nw n i q w) :
    RR n (mst (mst (mst u (5 + 1 + 1 + i) 7 (u (5 + 1 + 1 + i) 7 - g)) (5 + 1 + 1 + i) 8 (u (5 + 1 + 1 + i) 8 + g)) (5 + 1 + 1 + i) 9 (u (5 + 1 + 1 + i) 9 + we)) 5 (hourP nw n q w (i + 1)) := by
  have hn8 := h.1
  obtain ⟨h1, h2, h3, h4, h5, h6, h7, h8⟩ := h
  subst hg; subst hw
  have hne : ∀ k, 5 ≠ 5 + 1 + 1 + k := fun k => by omega
  refine ⟨h1, by rw [mst_ne (hne i), mst_ne (hne i), mst_ne (hne i)]; exact h2, by rw [hourP_lo (by decide)]; rw [hourP_lo (by decide)] at h3; exact h3, by rw [mst_ne (hne i), mst_ne (hne i), mst_ne (hne i), hourP_lo (by decide)]; rw [hourP_lo (by decide)] at h4; exact h4, by rw [mst_ne (hne i), mst_ne (hne i), mst_ne (hne i), hourP_lo (by decide)]; rw [hourP_lo (by decide)] at h5; exact h5, by rw [mst_ne (hne i), mst_ne (hne i), mst_ne (hne i), hourP_lo (by decide)]; rw [hourP_lo (by decide)] at h6; exact h6, by rw [mst_ne (hne i), mst_ne (hne i), mst_ne (hne i), hourP_lo (by decide)]; rw [hourP_lo (by decide)] at h7; exact h7, fun j hj => ?_⟩
  obtain ⟨a0, a1, a2, a3, a4, a5, a6, a7, a8, a9, a10, a11⟩ := h8 j hj
  rw [hourP_sK (by omega)] at a1 ⊢
  rw [hourP_at (by decide) (fun _ => by decide)] at a2 a3 a4 a5 a6 a10 a11
  rw [hourP_at (f := 8) (by decide) (fun _ => by decide), hourP_at (f := 9) (by decide) (fun _ => by decide), hourP_at (f := 0) (by decide) (fun _ => by decide), hourP_at (f := 1) (by decide) (fun _ => by decide), hourP_at (f := 2) (by decide) (fun _ => by decide), hourP_at (f := 6) (by decide) (fun _ => by decide), hourP_at (f := 7) (by decide) (fun _ => by decide), hourP_sF (f := 3) (by decide), hourP_sF (f := 4) (by decide), hourP_sF (f := 5) (by decide)]
  rw [hourP_sF (f := 3) (by decide)] at a7
  rw [hourP_sF (f := 4) (by decide)] at a8
  rw [hourP_sF (f := 5) (by decide)] at a9
  by_cases hji : j = i
  · subst hji
    rw [if_neg (by omega)] at a7 a8 a9
    rw [if_pos (by omega), if_pos rfl, if_pos (by omega), if_neg (by decide), if_pos rfl, if_pos (by omega), if_neg (by decide), if_neg (by decide), if_pos rfl]
    simp only [mst_eq, upd, show ∀ a b : Nat, (a = b) = (a = b) from fun _ _ => rfl]
    exact ⟨a0, a1, a2, a3, a4, a5, a6, by rw [← a7]; rfl, by rw [← a8]; rfl, by rw [← a9]; rfl, a10, a11⟩
  · have hne2 : 5 + 1 + 1 + j ≠ 5 + 1 + 1 + i := by omega
    rw [mst_ne hne2, mst_ne hne2, mst_ne hne2]
    have ec : (j < i + 1) = (j < i) := propext ⟨fun z => by omega, fun z => by omega⟩
    simp only [ec]
    exact ⟨a0, a1, a2, a3, a4, a5, a6, a7, a8, a9, a10, a11⟩
theorem RR_hour0 {n q : Nat} {nw : Nat → Int32} {w : Int32} {u : Mem} (h : RR n u 5 nw) : RR n u 5 (hourP nw n q w 0) := by
  have e : hourP nw n q w 0 = nw := funext fun k => if_neg (by omega)
  rw [e]; exact h
theorem hour_end {n q : Nat} {nw : Nat → Int32} {w : Int32} {u : Mem} (h : RR n u 5 (hourP nw n q w n)) : RR n (mst u 5 2 (u 5 2 + 1)) 5 (hourNw nw n q w) := by
  obtain ⟨h1, h2, h3, h4, h5, h6, h7, h8⟩ := h
  have hN : ∀ k, k ≠ 1 → hourNw nw n q w k = hourP nw n q w n k := fun k hk => if_neg hk
  have hF : ∀ j f, sF (hourNw nw n q w) j f = sF (hourP nw n q w n) j f := fun j f => hN _ (by omega)
  have hK : ∀ j, sK (hourNw nw n q w) j = sK (hourP nw n q w n) j := fun j => hN _ (by omega)
  refine ⟨h1, by rw [mst_eq, upd_ne (by decide)]; exact h2, by rw [hN 0 (by decide)]; exact h3, ?_, by rw [mst_eq, upd_ne (by decide), hN 2 (by decide)]; exact h5, by rw [mst_eq, upd_ne (by decide), hN 3 (by decide)]; exact h6, by rw [mst_eq, upd_ne (by decide), hN 4 (by decide)]; exact h7, fun j hj => ?_⟩
  · rw [mst_eq, upd_eq, h4, hourP_lo (by decide)]
    rfl
  · rw [mst_ne (by omega)]
    simp only [hF, hK]
    exact h8 j hj
