def srtP (P : Nat → Bool) : Nat → Nat
  | 0 => 0
  | j + 1 => if P (j + 1) then j + 1 else srtP P j
def srtN (f : Nat → Int32) (t p : Nat) : Nat := srtP (fun j => nmB f t p (j + 1)) 5
theorem srtP_le (P : Nat → Bool) : ∀ k, srtP P k ≤ k
  | 0 => Nat.le_refl 0
  | k + 1 => by
    rw [srtP]
    split
    · exact Nat.le_refl _
    · have := srtP_le P k
      omega
theorem srt_y {P : Nat → Bool} {k : Nat} (h : P k = true) (hk : 1 ≤ k) : k = srtP P (k + 1 - 1) := by
  obtain ⟨j, rfl⟩ : ∃ j, k = j + 1 := ⟨k - 1, by omega⟩
  rw [Nat.add_sub_cancel, srtP, if_pos h]
theorem srt_n {P : Nat → Bool} {k kd : Nat} (h : P k = false) (hk : 1 ≤ k) (hd : kd = srtP P (k - 1)) : kd = srtP P (k + 1 - 1) := by
  obtain ⟨j, rfl⟩ : ∃ j, k = j + 1 := ⟨k - 1, by omega⟩
  rw [Nat.add_sub_cancel] at hd ⊢
  rw [srtP, if_neg (by rw [h]; decide)]
  exact hd
theorem nz_dec : ∀ k, k < 6 → (if nI k = 0 then false else true) = decide (k ≠ 0) := by decide +kernel
/-- the reader's steps, upon its place and its fault -/
def stB (f : Nat → Int32) (t : Nat) (s : Nat × Int32) (b : Bool) : Nat × Int32 := (tkP f t s.1 s.2 b, tkW s.2 b)
def stN (f : Nat → Int32) (t : Nat) (s : Nat × Int32) (lo hi : Int32) : Nat × Int32 := stB f t (s.1, nbW f t s.1 s.2 lo hi) (decide (tkI f t s.1 = 2))
def stM (f : Nat → Int32) (t : Nat) (s : Nat × Int32) (q : Nat) : Nat × Int32 := stB f t s (nmB f t s.1 q)
def stS (f : Nat → Int32) (t : Nat) (s : Nat × Int32) : Nat × Int32 := stB f t s (decide (tkI f t s.1 = 3))
theorem stB_le {f : Nat → Int32} {t : Nat} {s : Nat × Int32} {b : Bool} (h : s.1 ≤ t) : (stB f t s b).1 ≤ t := by
  unfold stB tkP
  dsimp only
  split
  · exact teN_le h
  · exact h
theorem stN_le {f : Nat → Int32} {t : Nat} {s : Nat × Int32} {lo hi : Int32} (h : s.1 ≤ t) : (stN f t s lo hi).1 ≤ t := by
  unfold stN
  exact stB_le (s := (s.1, nbW f t s.1 s.2 lo hi)) h
theorem tkW_0 {w : Int32} {b : Bool} (h : tkW w b = 0) : b = true ∧ w = 0 := by
  unfold tkW at h
  cases b with
  | true => exact ⟨rfl, h⟩
  | false => exact absurd h (rfW_ne (by decide))
theorem nbW_0 {f : Nat → Int32} {t p : Nat} {w lo hi : Int32} (h : nbW f t p w lo hi = 0) : w = 0 ∧ (tkI f t p = 2 → (decide (lo ≤ tvI f t p) && decide (tvI f t p ≤ hi)) = true) := by
  unfold nbW at h
  by_cases c : tkI f t p = 2 ∧ (decide (lo ≤ tvI f t p) && decide (tvI f t p ≤ hi)) = false
  · rw [if_pos c] at h
    exact absurd h (rfW_ne (by decide))
  · rw [if_neg c] at h
    refine ⟨h, fun z => ?_⟩
    cases hv : (decide (lo ≤ tvI f t p) && decide (tvI f t p ≤ hi)) with
    | true => rfl
    | false => exact absurd ⟨z, hv⟩ c
theorem stN_0 {f : Nat → Int32} {t : Nat} {s : Nat × Int32} {lo hi : Int32} (h : (stN f t s lo hi).2 = 0) : s.2 = 0 ∧ tkI f t s.1 = 2 ∧ (decide (lo ≤ tvI f t s.1) && decide (tvI f t s.1 ≤ hi)) = true := by
  have h0 : tkW (nbW f t s.1 s.2 lo hi) (decide (tkI f t s.1 = 2)) = 0 := by unfold stN stB at h; exact h
  obtain ⟨h1, h2⟩ := tkW_0 h0
  have h3 := of_decide_eq_true h1
  obtain ⟨h4, h5⟩ := nbW_0 h2
  exact ⟨h4, h3, h5 h3⟩
/-- a law that is read -/
def lw1 (f : Nat → Int32) (t : Nat) (s : Nat × Int32) : Nat × Int32 := stM f t s 0
def lw2 (f : Nat → Int32) (t : Nat) (s : Nat × Int32) : Nat × Int32 := stN f t (lw1 f t s) 0 90
def lw3 (f : Nat → Int32) (t : Nat) (s : Nat × Int32) : Nat × Int32 := stN f t (lw2 f t s) 0 50
def lw4 (f : Nat → Int32) (t : Nat) (s : Nat × Int32) : Nat × Int32 := stN f t (lw3 f t s) 0 99
def lw5 (f : Nat → Int32) (t : Nat) (s : Nat × Int32) : Nat × Int32 := stS f t (lw4 f t s)
theorem RD.w15 {f : Nat → Int32} {t p : Nat} {w : Int32} {x : Mem} {k : Nat} {v : Int32} {a : Nat} (h : RD f t p w x) (ha : 5 ≤ a) : RD f t p w (mst x a k v) := h.off (mst_ne (by omega)) (mst_ne (by omega)) (mst_ne (by omega))
