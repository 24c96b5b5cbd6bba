/-- the reader, at a token: its fault, and where it was -/
def RD (f : Nat → Int32) (t p : Nat) (w : Int32) (u : Mem) : Prop := u 3 1 = nI t ∧ u 4 = f ∧ LD f t p u ∧ u 2 5 = w ∧ (w ≠ 0 → u 2 6 = nI (tsN f t p))
def rfW (w k : Int32) : Int32 := if w = 0 then k else w
def tkW (w : Int32) (b : Bool) : Int32 := if b then w else rfW w 1
def tkP (f : Nat → Int32) (t p : Nat) (w : Int32) (b : Bool) : Nat := if tkW w b = 0 then teN f t p else p
def nmB (f : Nat → Int32) (t p q : Nat) : Bool := decide (tkI f t p = 1) && tellB f q (tsN f t p) (teN f t p)
def nbW (f : Nat → Int32) (t p : Nat) (w lo hi : Int32) : Int32 := if tkI f t p = 2 ∧ (decide (lo ≤ tvI f t p) && decide (tvI f t p ≤ hi)) = false then rfW w 2 else w
theorem RD.off {f : Nat → Int32} {t p : Nat} {w : Int32} {x u : Mem} (h : RD f t p w x) (h2 : u 2 = x 2) (h3 : u 3 = x 3) (h4 : u 4 = x 4) : RD f t p w u := by
  unfold RD LD at h ⊢
  rw [h2, h3, h4]
  exact h
section RDS
variable {f : Nat → Int32} {t p : Nat} {w k lo hi : Int32} {x u : Mem} {b : Bool} {q : Nat}
theorem rf_a (h : RD f t p w x) (hc : ¬ x 2 5 = 0) : RD f t p (rfW w k) x := by
  have hw : ¬ w = 0 := fun z => hc (h.2.2.2.1.trans z)
  unfold rfW
  rw [if_neg hw]
  exact h
theorem rf_b (h : RD f t p w x) (hc : x 2 5 = 0) {v : Int32} (hv : v = x 2 2) : RD f t p (rfW w k) (mst (mst x 2 5 k) 2 6 v) := by
  have hw : w = 0 := h.2.2.2.1.symm.trans hc
  obtain ⟨h1, h2, ⟨a1, a2, a3, a4⟩, h4, h5⟩ := h
  unfold rfW
  rw [if_pos hw]
  have e : ∀ s, s ≠ 5 → s ≠ 6 → (mst (mst x 2 5 k) 2 6 v) 2 s = x 2 s := fun s s1 s2 => by rw [mst_eq, upd_ne s2, mst_eq, upd_ne s1]
  have eo : ∀ a, a ≠ 2 → (mst (mst x 2 5 k) 2 6 v) a = x a := fun a ha => by rw [mst_ne ha, mst_ne ha]
  refine ⟨by rw [eo 3 (by decide)]; exact h1, by rw [eo 4 (by decide)]; exact h2, ⟨by rw [e 1 (by decide) (by decide)]; exact a1, by rw [e 2 (by decide) (by decide)]; exact a2, by rw [e 3 (by decide) (by decide)]; exact a3, fun z => by rw [e 4 (by decide) (by decide)]; exact a4 z⟩, by rw [mst_eq, upd_ne (by decide), mst_self], fun _ => by rw [mst_self, hv]; exact a2⟩
theorem rfW_ne (hk : k ≠ 0) : rfW w k ≠ 0 := by
  unfold rfW
  split
  · exact hk
  · assumption
theorem tk_a (h : RD f t p w x) (hb : b = true) (hc : ¬ x 2 5 = 0) : RD f t (tkP f t p w b) (tkW w b) x := by
  have hw : ¬ w = 0 := fun z => hc (h.2.2.2.1.trans z)
  subst hb
  unfold tkP tkW
  rw [if_pos rfl, if_neg hw]
  exact h
theorem tk_b (h : RD f t p w x) (hb : b = true) (hc : x 2 5 = 0) (g : (∀ a, a ≠ 2 → u a = x a) ∧ LD (x 4) t (teN f t p) u ∧ u 2 5 = x 2 5 ∧ u 2 6 = x 2 6) : RD f t (tkP f t p w b) (tkW w b) u := by
  have hw : w = 0 := h.2.2.2.1.symm.trans hc
  subst hb
  unfold tkP tkW
  rw [if_pos rfl, if_pos hw]
  refine ⟨by rw [g.1 3 (by decide)]; exact h.1, by rw [g.1 4 (by decide)]; exact h.2.1, by have := g.2.1; rwa [h.2.1] at this, by rw [g.2.2.1]; exact h.2.2.2.1, fun z => absurd hw z⟩
theorem tk_c (h : RD f t p (rfW w 1) u) (hb : b = false) : RD f t (tkP f t p w b) (tkW w b) u := by
  subst hb
  unfold tkP tkW
  rw [if_neg (show ¬ false = true by decide), if_neg (rfW_ne (by decide))]
  exact h
theorem tk_d (h : RD f t p (rfW w 1) u) (hc : u 2 5 = 0) : False := rfW_ne (w := w) (k := 1) (by decide) (h.2.2.2.1.symm.trans hc)
theorem teN_nm (hp : p ≤ t) (h : tkI f t p = 1) : tsN f t p ≤ teN f t p := by
  have h1 := leN_le (f := f) hp
  unfold tkI at h
  unfold teN
  by_cases c1 : t ≤ tsN f t p
  · rw [if_pos c1] at h; exact absurd h (by decide)
  · rw [if_neg c1] at h ⊢
    by_cases c2 : tsN f t p < leN f t p
    · rw [if_pos c2]; exact h1.1
    · rw [if_neg c2] at h
      split at h
      · exact absurd h (by decide)
      · split at h
        · exact absurd h (by decide)
        · split at h <;> exact absurd h (by decide)
theorem nm_no (h : ¬ tkI f t p = 1) : nmB f t p q = false := by
  unfold nmB
  rw [decide_eq_false h]
  rfl
theorem nm_b {v : Bool} (h : tkI f t p = 1) (g : tellB f q (tsN f t p) (teN f t p) = v) : nmB f t p q = v := by
  unfold nmB
  rw [decide_eq_true h, g]
  rfl
theorem nb_1 (h : RD f t p w x) (hc : ¬ x 2 1 = 2) : RD f t p (nbW f t p w lo hi) x := by
  unfold nbW
  rw [if_neg (fun z => hc (h.2.2.1.1.trans z.1))]
  exact h
theorem nb_2 (h : RD f t p w x) (hc : (decide (lo ≤ x 2 4) && decide (x 2 4 ≤ hi)) = true) : RD f t p (nbW f t p w lo hi) x := by
  unfold nbW
  rw [if_neg (fun z => by rw [← h.2.2.1.2.2.2 z.1] at z; rw [hc] at z; exact absurd z.2 (by decide))]
  exact h
theorem nb_3 (h : RD f t p w x) (h2 : x 2 1 = 2) (hc : (decide (lo ≤ x 2 4) && decide (x 2 4 ≤ hi)) = false) (g : RD f t p (rfW w 2) u) : RD f t p (nbW f t p w lo hi) u := by
  have hk : tkI f t p = 2 := h.2.2.1.1.symm.trans h2
  unfold nbW
  rw [if_pos ⟨hk, by rw [← h.2.2.1.2.2.2 hk]; exact hc⟩]
  exact g
end RDS
theorem ite_dec {c : Prop} [Decidable c] : (if c then true else false) = decide c := by
  by_cases h : c <;> simp [h]
theorem ite_ndec {c : Prop} [Decidable c] : (if c then false else true) = !decide c := by
  by_cases h : c <;> simp [h]
