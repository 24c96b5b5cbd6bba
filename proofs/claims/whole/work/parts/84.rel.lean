/-! THE RELATION between the class's memory and the reference's -/
def RwR (x y : Mem) (r : Nat) : Prop := (x (29 + 2 * r) 2 = -1 ∧ y 1 r < 0) ∨ ((0 ≤ y 1 r ∧ x (29 + 2 * r) 1 = y 1 r) ∧ (∃ sz, sz ≤ 40 ∧ x (29 + 2 * r) 2 = nI sz ∧ y 2 r = nI sz) ∧ ∀ j, j < 40 → x (29 + 2 * r + 1) j = y 3 (40 * r + j))
def RelW (x y : Mem) : Prop := ∀ r, r < 8 → RwR x y r
def RelT (x y : Mem) : Prop := ∃ t, t ≤ 400 ∧ x 3 1 = nI t ∧ y 0 4 = nI t ∧ TE (x 4) (y 4) t
def RelC (x y : Mem) : Prop := ∃ k, k ≤ 16 ∧ x 27 1 = nI k ∧ y 0 12 = nI k ∧ ∀ i, i < k → x 28 i = y 9 i
def RelN (x y : Mem) : Prop := ∃ n, RR n x 5 (y 5) ∧ RG n (y 5)
def RelI (x y : Mem) : Prop := ∀ k, k < 2 → ∃ n, RR n x (45 + 10 * k) (y (6 + k)) ∧ RG n (y (6 + k))
def Rel (x y : Mem) : Prop := RelW x y ∧ RelT x y ∧ x 0 7 = y 0 6 ∧ x 0 8 = y 0 3 ∧ RelC x y ∧ RelN x y ∧ RelI x y
section RELS
variable {x y u v : Mem} {r : Nat}
theorem RwR.keep (h : RwR x y r) (h1 : u (29 + 2 * r) = x (29 + 2 * r)) (h2 : u (29 + 2 * r + 1) = x (29 + 2 * r + 1)) (h3 : v 1 r = y 1 r) (h4 : v 2 r = y 2 r) (h5 : ∀ j, j < 40 → v 3 (40 * r + j) = y 3 (40 * r + j)) : RwR u v r := by
  unfold RwR at h ⊢
  rw [h1, h2, h3, h4]
  rcases h with h | ⟨ha, hb, hc⟩
  · exact Or.inl h
  · exact Or.inr ⟨ha, hb, fun j hj => (hc j hj).trans (h5 j hj).symm⟩
theorem RelW.keep (h : RelW x y) (hu : ∀ a, 29 ≤ a → a < 45 → u a = x a) (h1 : v 1 = y 1) (h2 : v 2 = y 2) (h3 : v 3 = y 3) : RelW u v := fun r hr =>
  (h r hr).keep (hu _ (by omega) (by omega)) (hu _ (by omega) (by omega)) (by rw [h1]) (by rw [h2]) (fun j _ => by rw [h3])
theorem RelT.keep (h : RelT x y) (h2 : u 3 = x 3) (h3 : u 4 = x 4) (h4 : v 0 4 = y 0 4) (h5 : v 4 = y 4) : RelT u v := by
  obtain ⟨t, a, b, c, d⟩ := h
  exact ⟨t, a, by rw [h2]; exact b, by rw [h4]; exact c, by rw [h3, h5]; exact d⟩
theorem RelC.keep (h : RelC x y) (h2 : u 27 = x 27) (h3 : u 28 = x 28) (h4 : v 0 12 = y 0 12) (h5 : v 9 = y 9) : RelC u v := by
  obtain ⟨t, a, b, c, d⟩ := h
  exact ⟨t, a, by rw [h2]; exact b, by rw [h4]; exact c, by rw [h3, h5]; exact d⟩
theorem RelN.keep (h : RelN x y) (hu : ∀ a, 5 ≤ a → a < 15 → u a = x a) (h5 : v 5 = y 5) : RelN u v := by
  obtain ⟨n, a, b⟩ := h
  exact ⟨n, by rw [h5]; exact a.cells (fun c c1 c2 => hu c c1 (by omega)), by rw [h5]; exact b⟩
theorem RelI.keep (h : RelI x y) (hu : ∀ a, 45 ≤ a → a < 65 → u a = x a) (h6 : v 6 = y 6) (h7 : v 7 = y 7) : RelI u v := fun k hk => by
  obtain ⟨n, a, b⟩ := h k hk
  have e : v (6 + k) = y (6 + k) := by
    have hk2 : k = 0 ∨ k = 1 := by omega
    rcases hk2 with rfl | rfl
    · exact h6
    · exact h7
  exact ⟨n, by rw [e]; exact a.cells (fun c c1 c2 => hu c (by omega) (by omega)), by rw [e]; exact b⟩
/-- only quarters, and what the reference keeps for itself, have changed -/
theorem Rel.keep (h : Rel x y) (hu : ∀ a, a < 65 → u a = x a) (hv : ∀ a, 1 ≤ a → a < 10 → a ≠ 8 → v a = y a) (h3 : v 0 3 = y 0 3) (h4 : v 0 4 = y 0 4) (h6 : v 0 6 = y 0 6) (h12 : v 0 12 = y 0 12) : Rel u v := by
  obtain ⟨a1, a2, a3, a4, a5, a6, a7⟩ := h
  exact ⟨a1.keep (fun a _ b => hu a (by omega)) (hv 1 (by decide) (by decide) (by decide)) (hv 2 (by decide) (by decide) (by decide)) (hv 3 (by decide) (by decide) (by decide)), a2.keep (hu 3 (by decide)) (hu 4 (by decide)) h4 (hv 4 (by decide) (by decide) (by decide)), by rw [hu 0 (by decide), h6]; exact a3, by rw [hu 0 (by decide), h3]; exact a4, a5.keep (hu 27 (by decide)) (hu 28 (by decide)) h12 (hv 9 (by decide) (by decide) (by decide)), a6.keep (fun a _ b => hu a (by omega)) (hv 5 (by decide) (by decide) (by decide)), a7.keep (fun a _ b => hu a (by omega)) (hv 6 (by decide) (by decide) (by decide)) (hv 7 (by decide) (by decide) (by decide))⟩
theorem Rel.qu (h : Rel x y) {q : Nat} (ho : offQ q x u) : Rel u y := h.keep (fun a ha => ho a (by omega)) (fun _ _ _ _ => rfl) rfl rfl rfl rfl
theorem Rel.oY (h : Rel x y) (ho : offY x u) : Rel u y := h.keep (fun a ha => ho a (by omega)) (fun _ _ _ _ => rfl) rfl rfl rfl rfl
theorem Rel.st (h : Rel x y) {k : Int32} : Rel (mst x 0 8 k) (mst y 0 3 k) := by
  obtain ⟨a1, a2, a3, a4, a5, a6, a7⟩ := h
  refine ⟨a1.keep (fun a b _ => mst_ne (by omega)) (mst_ne (by decide)) (mst_ne (by decide)) (mst_ne (by decide)), a2.keep (mst_ne (by decide)) (mst_ne (by decide)) (by rw [mst_eq, upd_ne (by decide)]) (mst_ne (by decide)), ?_, by rw [mst_self, mst_self], a5.keep (mst_ne (by decide)) (mst_ne (by decide)) (by rw [mst_eq, upd_ne (by decide)]) (mst_ne (by decide)), a6.keep (fun a b _ => mst_ne (by omega)) (mst_ne (by decide)), a7.keep (fun a b _ => mst_ne (by omega)) (mst_ne (by decide)) (mst_ne (by decide))⟩
  rw [mst_eq, upd_ne (by decide), mst_eq, upd_ne (by decide)]
  exact a3
theorem RwR.mis (h : RwR x y r) : decide (x (29 + 2 * r) 2 = -1) = decide (y 1 r < 0) := by
  rcases h with ⟨h1, h2⟩ | ⟨⟨h1, -⟩, ⟨sz, s1, s2, s3⟩, -⟩
  · rw [decide_eq_true h1, decide_eq_true h2]
  · rw [decide_eq_false (Int32.not_lt.mpr h1), s2]
    refine decide_eq_false (fun z => ?_)
    have : ∀ k, k < 41 → ¬ nI k = -1 := by decide +kernel
    exact this sz (by omega) z
theorem RwR.is (h : RwR x y r) (hm : decide (y 1 r < 0) = false) : (0 ≤ y 1 r ∧ x (29 + 2 * r) 1 = y 1 r) ∧ (∃ sz, sz ≤ 40 ∧ x (29 + 2 * r) 2 = nI sz ∧ y 2 r = nI sz) ∧ ∀ j, j < 40 → x (29 + 2 * r + 1) j = y 3 (40 * r + j) := by
  rcases h with ⟨-, h2⟩ | h
  · exact absurd h2 (of_decide_eq_false hm)
  · exact h
theorem RwR.siz (h : RwR x y r) (hm : decide (y 1 r < 0) = false) : x (29 + 2 * r) 2 = y 2 r := by
  obtain ⟨-, ⟨sz, -, s2, s3⟩, -⟩ := h.is hm
  rw [s2, s3]
theorem RelW.rok (h : RelW x y) : ROK x := fun r hr => by
  rcases h r hr with ⟨h1, -⟩ | ⟨-, ⟨sz, s1, s2, -⟩, -⟩
  · exact Or.inl h1
  · exact Or.inr ⟨sz, s1, s2⟩
theorem RelW.yok (h : RelW x y) : YOK y := fun r hr hm => by
  rcases h r hr with ⟨-, h2⟩ | ⟨-, ⟨sz, s1, -, s3⟩, -⟩
  · exact absurd h2 hm
  · exact ⟨sz, s1, s3⟩
theorem RR.ge (h : RR r x 5 (y 5)) : x 5 1 = nI r ∧ y 5 0 = nI r ∧ r ≤ 8 := ⟨h.2.1, h.2.2.1, h.1⟩
theorem cov1 {i : Int32} {sz : Nat} (hs : sz ≤ 40) : (decide (0 ≤ i) && (decide ((0 : Int32) ≤ 1) && decide (1 ≤ nI sz - i))) = (decide (0 ≤ i) && decide (i < nI sz)) := by
  by_cases h : 0 ≤ i
  · have h0 := Int32.le_iff_toInt_le.mp h
    have h1 := Int32.toInt_lt i
    have h2 : (nI sz).toInt = sz := nI_toInt (by omega)
    have e : (nI sz - i).toInt = sz - i.toInt := by
      rw [Int32.toInt_sub, h2]
      rw [show (0 : Int32).toInt = 0 from rfl] at h0
      exact bm32 (by omega) (by omega)
    rw [decide_eq_true h]
    have : (1 ≤ nI sz - i) ↔ i < nI sz := by
      rw [Int32.le_iff_toInt_le, Int32.lt_iff_toInt_lt, e, h2, show (1 : Int32).toInt = 1 from rfl]
      omega
    rw [decide_eq_decide.mpr this, show decide ((0 : Int32) ≤ 1) = true from by decide, Bool.true_and, Bool.true_and]
  · rw [decide_eq_false h, Bool.false_and, Bool.false_and]
theorem cov0 {a b : Int32} (hb : 0 ≤ a) : (decide ((0 : Int32) ≤ 0) && (decide (0 ≤ a) && decide (a ≤ b - 0))) = decide (a ≤ b) := by
  rw [decide_eq_true hb, Int32.sub_zero, show decide ((0 : Int32) ≤ 0) = true from by decide, Bool.true_and, Bool.true_and]
theorem wnd2 {q w : Int32} (h : ((decide (0 ≤ q) && decide (q ≤ 3)) && (decide (0 ≤ w) && decide (w ≤ 100))) = true) : tn q < 4 ∧ 0 ≤ w ∧ w ≤ 100 := by
  simp only [Bool.and_eq_true] at h
  have h1 := within_nI (k := 3) rfl (by decide) (v := q) (K := 3) (by simp only [Bool.and_eq_true]; exact h.1)
  have h2 := bt2 (a := 0) (b := w) (c := 100) (by simp only [Bool.and_eq_true]; exact h.2)
  exact ⟨by omega, h2⟩
/-- one int of a mill is set, alike -/
def cF (k : Nat) : Nat := if k = 0 then 4 else if k = 1 then 5 else if k = 2 then 6 else if k = 3 then 7 else if k = 4 then 8 else if k = 5 then 9 else if k = 6 then 10 else if k = 7 then 11 else if k = 8 then 2 else 3
theorem RR.setF {n m k : Nat} {nw : Nat → Int32} {a b : Int32} (h : RR n x 5 nw) (hm : m < n) (hk : k < 10) (hab : if k = 7 then bI (decide (a ≠ 0)) = b else a = b) : RR n (mst x (5 + 1 + 1 + m) (cF k) a) 5 (upd nw (5 + 10 * m + k) b) := by
  obtain ⟨h1, h2, h3, h4, h5, h6, h7, h8⟩ := h
  have o5 : (mst x (5 + 1 + 1 + m) (cF k) a) 5 = x 5 := mst_ne (by omega)
  have lo : ∀ i, i < 5 → upd nw (5 + 10 * m + k) b i = nw i := fun i hi => upd_ne (by omega)
  refine ⟨h1, by rw [o5]; exact h2, by rw [lo 0 (by decide)]; exact h3, by rw [o5, lo 1 (by decide)]; exact h4, by rw [o5, lo 2 (by decide)]; exact h5, by rw [o5, lo 3 (by decide)]; exact h6, by rw [o5, lo 4 (by decide)]; exact h7, fun j hj => ?_⟩
  have eK : sK (upd nw (5 + 10 * m + k) b) j = sK nw j := upd_ne (by omega)
  rw [eK]
  by_cases hjm : j = m
  · subst hjm
    have eF : ∀ i, i < 10 → i ≠ k → sF (upd nw (5 + 10 * j + k) b) j i = sF nw j i := fun i hi hik => upd_ne (by omega)
    have eK2 : sF (upd nw (5 + 10 * j + k) b) j k = b := upd_eq _ _ _
    have oX : ∀ i, i ≠ cF k → (mst x (5 + 1 + 1 + j) (cF k) a) (5 + 1 + 1 + j) i = x (5 + 1 + 1 + j) i := fun i hi => by rw [mst_eq, upd_ne hi]
    have oS : (mst x (5 + 1 + 1 + j) (cF k) a) (5 + 1 + 1 + j) (cF k) = a := mst_self _ _ _ _
    obtain ⟨a0, a1, a2, a3, a4, a5, a6, a7, a8, a9, a10, a11⟩ := h8 j hj
    have hk2 : k = 0 ∨ k = 1 ∨ k = 2 ∨ k = 3 ∨ k = 4 ∨ k = 5 ∨ k = 6 ∨ k = 7 ∨ k = 8 ∨ k = 9 := by omega
    rcases hk2 with rfl | rfl | rfl | rfl | rfl | rfl | rfl | rfl | rfl | rfl
    all_goals
      refine ⟨(oX 0 (by decide)).trans a0, (oX 1 (by decide)).trans a1, ?_, ?_, ?_, ?_, ?_, ?_, ?_, ?_, ?_, ?_⟩
      · first | exact (oS.trans hab).trans eK2.symm | exact ((oX 2 (by decide)).trans a2).trans (eF 8 (by decide) (by decide)).symm
      · first | exact (oS.trans hab).trans eK2.symm | exact ((oX 3 (by decide)).trans a3).trans (eF 9 (by decide) (by decide)).symm
      · first | exact (oS.trans hab).trans eK2.symm | exact ((oX 4 (by decide)).trans a4).trans (eF 0 (by decide) (by decide)).symm
      · first | exact (oS.trans hab).trans eK2.symm | exact ((oX 5 (by decide)).trans a5).trans (eF 1 (by decide) (by decide)).symm
      · first | exact (oS.trans hab).trans eK2.symm | exact ((oX 6 (by decide)).trans a6).trans (eF 2 (by decide) (by decide)).symm
      · first | exact (oS.trans hab).trans eK2.symm | exact ((oX 7 (by decide)).trans a7).trans (eF 3 (by decide) (by decide)).symm
      · first | exact (oS.trans hab).trans eK2.symm | exact ((oX 8 (by decide)).trans a8).trans (eF 4 (by decide) (by decide)).symm
      · first | exact (oS.trans hab).trans eK2.symm | exact ((oX 9 (by decide)).trans a9).trans (eF 5 (by decide) (by decide)).symm
      · first | exact (oS.trans hab).trans eK2.symm | exact ((oX 10 (by decide)).trans a10).trans (eF 6 (by decide) (by decide)).symm
      · first | exact ((congrArg (fun z : Int32 => bI (decide (z ≠ 0))) oS).trans hab).trans eK2.symm | exact ((congrArg (fun z : Int32 => bI (decide (z ≠ 0))) (oX 11 (by decide))).trans a11).trans (eF 7 (by decide) (by decide)).symm
  · have eF : ∀ i, i < 10 → sF (upd nw (5 + 10 * m + k) b) j i = sF nw j i := fun i hi => upd_ne (by omega)
    rw [mst_ne (show 5 + 1 + 1 + j ≠ 5 + 1 + 1 + m by omega), eF 0 (by decide), eF 1 (by decide), eF 2 (by decide), eF 3 (by decide), eF 4 (by decide), eF 5 (by decide), eF 6 (by decide), eF 7 (by decide), eF 8 (by decide), eF 9 (by decide)]
    exact h8 j hj
theorem RG.setF {n m k : Nat} {nw : Nat → Int32} {b : Int32} (h : RG n nw) (hn : n ≤ 8) (hk : k < 10) (h0 : m < n → k = 0 → b ≤ 9) (h1 : k ≠ 1) (h3 : m < n → k = 3 → 0 ≤ b ∧ b ≤ 99999) (hm : m < 8) : RG n (upd nw (5 + 10 * m + k) b) := by
  refine ⟨by rw [upd_ne (by omega)]; exact h.1, fun j hj => ?_⟩
  have eK : sK (upd nw (5 + 10 * m + k) b) j = sK nw j := upd_ne (by omega)
  have eF : ∀ i, i < 10 → ¬ (j = m ∧ i = k) → sF (upd nw (5 + 10 * m + k) b) j i = sF nw j i := fun i hi hik => upd_ne (by omega)
  have eS : ∀ i, j = m → i = k → sF (upd nw (5 + 10 * m + k) b) j i = b := fun i e1 e2 => by
    subst e1; subst e2
    exact upd_eq _ _ _
  obtain ⟨g1, g2, g3, g4⟩ := h.2 j hj
  rw [eK, eF 1 (by decide) (by omega)]
  refine ⟨g1, ?_, g3, ?_⟩
  · by_cases e : j = m ∧ 0 = k
    · rw [eS 0 e.1 e.2]
      exact h0 (by omega) e.2.symm
    · rw [eF 0 (by decide) e]
      exact g2
  · by_cases e : j = m ∧ 3 = k
    · rw [eS 3 e.1 e.2]
      exact h3 (by omega) e.2.symm
    · rw [eF 3 (by decide) e]
      exact g4
theorem Rel.setF {n m k : Nat} {a b : Int32} (hL : Rel x y) (hR : RR n x 5 (y 5)) (hG : RG n (y 5)) (hm : m < n) (hk : k < 10) (hab : if k = 7 then bI (decide (a ≠ 0)) = b else a = b) (h0 : k = 0 → b ≤ 9) (h1 : k ≠ 1) (h3 : k = 3 → 0 ≤ b ∧ b ≤ 99999) : Rel (mst x (5 + 1 + 1 + m) (cF k) a) (mst y 5 (5 + 10 * m + k) b) := by
  have hn := hR.1
  obtain ⟨a1, a2, a3, a4, a5, a6, a7⟩ := hL
  refine ⟨a1.keep (fun a b _ => mst_ne (by omega)) (mst_ne (by decide)) (mst_ne (by decide)) (mst_ne (by decide)), a2.keep (mst_ne (by omega)) (mst_ne (by omega)) (by rw [mst_ne (by decide)]) (mst_ne (by decide)), ?_, ?_, a5.keep (mst_ne (by omega)) (mst_ne (by omega)) (by rw [mst_ne (by decide)]) (mst_ne (by decide)), ⟨n, ?_, ?_⟩, a7.keep (fun a b _ => mst_ne (by omega)) (mst_ne (by decide)) (mst_ne (by decide))⟩
  · rw [mst_ne (by omega), mst_ne (by decide)]; exact a3
  · rw [mst_ne (by omega), mst_ne (by decide)]; exact a4
  · rw [mst_eq]; exact hR.setF hm hk hab
  · rw [mst_eq]; exact hG.setF hn hk (fun _ => h0) h1 (fun _ => h3) (by omega)
end RELS
