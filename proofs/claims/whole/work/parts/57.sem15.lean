/-! THE REFERENCE: mills, winds -/
theorem ite_min {a b : Int32} : (if b ≤ a then b else a) = if b < a then b else a := by
  by_cases h : b < a
  · rw [if_pos h, if_pos (Int32.le_of_lt h)]
  · rw [if_neg h]
    by_cases h2 : b ≤ a
    · rw [if_pos h2]; exact Int32.le_antisymm h2 (Int32.not_lt.mp h)
    · rw [if_neg h2]
theorem jmin_ref {a c : Int32} : (if a ≤ c then a else c) = jmin a c := by
  unfold jmin
  by_cases h : c < a
  · rw [if_pos h, if_neg (fun z => Int32.lt_irrefl (Int32.lt_of_lt_of_le h z))]
  · rw [if_neg h, if_pos (Int32.not_lt.mp h)]
theorem jmax_ref {d : Int32} : (if 0 ≤ d then d else 0) = jmax d 0 := by
  unfold jmax
  by_cases h : d < 0
  · rw [if_pos h, if_neg (Int32.not_le.mpr h)]
  · rw [if_neg h, if_pos (Int32.not_lt.mp h)]
theorem isK_all : ∀ a, a < 6 → 1 ≤ a → ∀ b, b < 6 → bI (if nI b = nI a then true else if nI b = 0 then true else if nI b = 1 then (if nI a = 4 then (if nI b = 2 then (if nI a = 3 then true else false) else false) else true) else if nI b = 2 then (if nI a = 3 then true else false) else false) = bI (isKf 6 a b) := by decide +kernel
theorem sh_0 {q : Nat} {a b : Int32} (ha : a = 0) (hb : b = 0) : shB q a b = false := by
  subst ha; subst hb
  unfold shB
  split
  · decide
  · split
    · decide
    · split <;> decide
theorem sh_ref {q : Nat} (hq : q < 4) {dx dy a b : Int32} (ha : a = if nI q = 0 then -dy else if nI q = 1 then dx else if nI q = 2 then dy else -dx) (hb : b = if nI q - nI q / 2 * 2 = 0 then dx else dy) : shB q dx dy = ahB a b := by
  have h : q = 0 ∨ q = 1 ∨ q = 2 ∨ q = 3 := by omega
  rcases h with rfl | rfl | rfl | rfl
  · rw [ha, hb, if_pos (by decide), if_pos (by decide)]; rfl
  · rw [ha, hb, if_neg (by decide), if_pos (by decide), if_neg (by decide)]; rfl
  · rw [ha, hb, if_neg (by decide), if_neg (by decide), if_pos (by decide), if_pos (by decide)]; rfl
  · rw [ha, hb, if_neg (by decide), if_neg (by decide), if_neg (by decide), if_neg (by decide)]; rfl
theorem beh_ref {nw : Nat → Int32} {ml o q : Nat} {h a b : Int32} {p1 p2 : Bool} (hm : ml < 8) (ho : o < 8) (hq : q < 4)
    (ha : a = if nI q = 0 then -(sF nw o 9 - sF nw ml 9) else if nI q = 1 then sF nw o 8 - sF nw ml 8 else if nI q = 2 then sF nw o 9 - sF nw ml 9 else -(sF nw o 8 - sF nw ml 8)) (hb : b = if nI q - nI q / 2 * 2 = 0 then sF nw o 8 - sF nw ml 8 else sF nw o 9 - sF nw ml 9)
    (h1 : p1 = if nI ml = h then true else false) (h2 : p2 = if nI o = h then true else false) :
    (if nI ml = nI o then false else if (decide (1 ≤ a) && decide (a ≤ 6)) = false then false else if (decide (-1 ≤ b) && decide (b ≤ 1)) = false then false else if sF nw o 0 + bI p2 < sF nw ml 0 + bI p1 then false else true) = sBehind nw ml o q h := by
  have e1 : sF nw ml 0 + bI p1 = sFl nw ml h := by
    unfold sFl
    rw [h1]
    split <;> rfl
  have e2 : sF nw o 0 + bI p2 = sFl nw o h := by
    unfold sFl
    rw [h2]
    split <;> rfl
  rw [e1, e2]
  unfold sBehind
  by_cases hmo : ml = o
  · subst hmo
    rw [if_pos rfl, sh_0 (Int32.sub_self _) (Int32.sub_self _), Bool.and_false]
  · rw [if_neg (fun z => hmo ((n_eq rfl rfl (by omega) (by omega)).mp z)), sh_ref hq ha hb]
    unfold ahB
    cases decide (1 ≤ a) && decide (a ≤ 6)
    · simp
    · cases decide (-1 ≤ b) && decide (b ≤ 1)
      · simp
      · rw [ltb]
        simp
theorem tur_ref {nw : Nat → Int32} {ml q s : Nat} {aw : Bool} (ha : aw = if nw (85 + ml) = 1 then (if sF nw ml 6 = nI q then false else true) else false) :
    (if sF nw ml 7 = 0 then (if s.testBit ml = true then false else if nw (85 + ml) = 5 then false else if aw = true then false else true) else false) = sTurns nw ml q s := by
  unfold sTurns sK
  rw [ha]
  by_cases h1 : sF nw ml 7 = 0
  · rw [if_pos h1, decide_eq_true h1]
    cases s.testBit ml
    · rw [if_neg (by decide)]
      by_cases h2 : nw (85 + ml) = 5
      · simp [h2]
      · by_cases h3 : nw (85 + ml) = 1
        · by_cases h4 : sF nw ml 6 = nI q
          · simp [h3, h4]
          · simp [h3, h4]
        · simp [h2, h3]
    · simp
  · simp [h1]
theorem tak_ref {nw : Nat → Int32} {ml q s : Nat} : (if sTurns nw ml q s = false then false else if nw (85 + ml) = 4 then false else true) = sTakes nw ml q s := by
  unfold sTakes sK
  cases sTurns nw ml q s
  · rfl
  · by_cases h : nw (85 + ml) = 4 <;> simp [h]
theorem lft_step {t w : Int32} {c : Nat} {p q : Bool} : lIt t w c - (if p = false then 0 else if q = false then 0 else t * lIt t w c / 100) = lIt t w (c + if (p && q) = true then 1 else 0) := by
  cases p
  · exact Int32.sub_zero _
  · cases q
    · exact Int32.sub_zero _
    · rfl
theorem fre_no {nw : Nat → Int32} {n ml q s : Nat} {w h : Int32} (ht : sTurns nw ml q s = false) : sFree nw n ml q w s h = 0 := by
  unfold sFree
  rw [if_neg (by rw [ht]; decide)]
theorem fre_yes {nw : Nat → Int32} {n ml q s : Nat} {w h v : Int32} (ht : sTurns nw ml q s = true) (hv : v = if nw (85 + ml) = 4 then 5 * sF nw ml 1 else if nw (85 + ml) = 3 then sLeft nw n ml q w s h * sF nw ml 1 / 20 else sLeft nw n ml q w s h * sF nw ml 1 / 10) : v = sFree nw n ml q w s h := by
  unfold sFree sK
  rw [if_pos ht, hv]
  split
  · rfl
  · split <;> rfl
theorem kdN1 {x : Int32} (h : ∃ k, 1 ≤ k ∧ k < 6 ∧ x = nI k) : x = nI (tn x) ∧ 1 ≤ tn x ∧ tn x < 6 := by
  obtain ⟨k, h1, hk, rfl⟩ := h
  rw [tn_nI (by omega)]
  exact ⟨rfl, h1, hk⟩
