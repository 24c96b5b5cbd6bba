/-- the tokens of a tape f of t bytes, at a place p: where one starts, of what sort it is, where it ends, what it tells -/
def tsN (f : Nat → Int32) (t p : Nat) : Nat := runE (blP f) t p
def leN (f : Nat → Int32) (t p : Nat) : Nat := runE (leP f) t (tsN f t p)
def fiN (f : Nat → Int32) (t p : Nat) : Nat := runE (fiP f) t (tsN f t p)
def tkI (f : Nat → Int32) (t p : Nat) : Int32 := if t ≤ tsN f t p then 0 else if tsN f t p < leN f t p then 1 else if 3 < fiN f t p - tsN f t p then 4 else if tsN f t p < fiN f t p then 2 else if f (tsN f t p) = 59 then 3 else 4
def teN (f : Nat → Int32) (t p : Nat) : Nat := if t ≤ tsN f t p then p else if tsN f t p < leN f t p then leN f t p else if 3 < fiN f t p - tsN f t p then p else if tsN f t p < fiN f t p then fiN f t p else tsN f t p + 1
def tvI (f : Nat → Int32) (t p : Nat) : Int32 := valP f (tsN f t p) (fiN f t p - tsN f t p)
theorem tsN_le {f : Nat → Int32} {t p : Nat} (h : p ≤ t) : p ≤ tsN f t p ∧ tsN f t p ≤ t := runE_le _ h
theorem leN_le {f : Nat → Int32} {t p : Nat} (h : p ≤ t) : tsN f t p ≤ leN f t p ∧ leN f t p ≤ t := runE_le _ (tsN_le h).2
theorem fiN_le {f : Nat → Int32} {t p : Nat} (h : p ≤ t) : tsN f t p ≤ fiN f t p ∧ fiN f t p ≤ t := runE_le _ (tsN_le h).2
theorem teN_le {f : Nat → Int32} {t p : Nat} (h : p ≤ t) : teN f t p ≤ t := by
  have h1 := tsN_le (f := f) h
  have h2 := leN_le (f := f) h
  have h3 := fiN_le (f := f) h
  unfold teN
  repeat' split
  all_goals omega
/-- a token that is loaded -/
def LD (f : Nat → Int32) (t p : Nat) (u : Mem) : Prop := u 2 1 = tkI f t p ∧ u 2 2 = nI (tsN f t p) ∧ u 2 3 = nI (teN f t p) ∧ (tkI f t p = 2 → u 2 4 = tvI f t p)
section LDS
variable {f : Nat → Int32} {t p : Nat} {u : Mem}
theorem ld0 (h : t ≤ tsN f t p) (h1 : u 2 1 = 0) (h2 : u 2 2 = nI (tsN f t p)) (h3 : u 2 3 = nI p) : LD f t p u := by
  unfold LD tkI teN
  rw [if_pos h, if_pos h]
  exact ⟨h1, h2, h3, fun z => absurd z (by decide)⟩
theorem ld1 (h : tsN f t p < t) (hl : tsN f t p < leN f t p) (h1 : u 2 1 = 1) (h2 : u 2 2 = nI (tsN f t p)) (h3 : u 2 3 = nI (leN f t p)) : LD f t p u := by
  unfold LD tkI teN
  rw [if_neg (Nat.not_le.mpr h), if_neg (Nat.not_le.mpr h), if_pos hl, if_pos hl]
  exact ⟨h1, h2, h3, fun z => absurd z (by decide)⟩
theorem ld4 (h : tsN f t p < t) (hl : leN f t p ≤ tsN f t p) (hf : 3 < fiN f t p - tsN f t p) (h1 : u 2 1 = 4) (h2 : u 2 2 = nI (tsN f t p)) (h3 : u 2 3 = nI p) : LD f t p u := by
  unfold LD tkI teN
  rw [if_neg (Nat.not_le.mpr h), if_neg (Nat.not_le.mpr h), if_neg (Nat.not_lt.mpr hl), if_neg (Nat.not_lt.mpr hl), if_pos hf, if_pos hf]
  exact ⟨h1, h2, h3, fun z => absurd z (by decide)⟩
theorem ld2 (h : tsN f t p < t) (hl : leN f t p ≤ tsN f t p) (hf : fiN f t p - tsN f t p ≤ 3) (hf2 : tsN f t p < fiN f t p) (h1 : u 2 1 = 2) (h2 : u 2 2 = nI (tsN f t p)) (h3 : u 2 3 = nI (fiN f t p)) (h4 : u 2 4 = tvI f t p) : LD f t p u := by
  unfold LD tkI teN
  rw [if_neg (Nat.not_le.mpr h), if_neg (Nat.not_le.mpr h), if_neg (Nat.not_lt.mpr hl), if_neg (Nat.not_lt.mpr hl), if_neg (Nat.not_lt.mpr hf), if_neg (Nat.not_lt.mpr hf), if_pos hf2, if_pos hf2]
  exact ⟨h1, h2, h3, fun _ => h4⟩
theorem ld3 (h : tsN f t p < t) (hl : leN f t p ≤ tsN f t p) (hf2 : fiN f t p ≤ tsN f t p) (h1 : u 2 1 = if f (tsN f t p) = 59 then 3 else 4) (h2 : u 2 2 = nI (tsN f t p)) (h3 : u 2 3 = nI (tsN f t p + 1)) : LD f t p u := by
  have hf : ¬ 3 < fiN f t p - tsN f t p := by omega
  unfold LD tkI teN
  rw [if_neg (Nat.not_le.mpr h), if_neg (Nat.not_le.mpr h), if_neg (Nat.not_lt.mpr hl), if_neg (Nat.not_lt.mpr hl), if_neg hf, if_neg hf, if_neg (Nat.not_lt.mpr hf2), if_neg (Nat.not_lt.mpr hf2)]
  refine ⟨h1, h2, h3, fun z => ?_⟩
  split at z <;> exact absurd z (by decide)
end LDS
