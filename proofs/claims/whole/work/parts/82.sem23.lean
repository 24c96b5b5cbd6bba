/-! THE TAPE is read alike with its bytes signed, or not -/
def TE (f g : Nat → Int32) (t : Nat) : Prop := ∀ k, k < t → f k = g k ∨ (f k < 0 ∧ 127 < g k)
section TES
variable {f g : Nat → Int32} {t : Nat}
theorem TE.no1 {k : Nat} {lo : Int32} (h : f k < 0) (hlo : 0 ≤ lo) : ¬ lo ≤ f k := fun z => absurd (Int32.lt_of_lt_of_le h (Int32.le_trans hlo z)) Int32.lt_irrefl
theorem TE.no2 {k : Nat} {hi : Int32} (h : 127 < g k) (hhi : hi ≤ 127) : ¬ g k ≤ hi := fun z => absurd (Int32.lt_of_lt_of_le h (Int32.le_trans z hhi)) Int32.lt_irrefl
theorem TE.rg (h : TE f g t) {k : Nat} (hk : k < t) {lo hi : Int32} (hlo : 0 ≤ lo) (hhi : hi ≤ 127) : (decide (lo ≤ f k) && decide (f k ≤ hi)) = (decide (lo ≤ g k) && decide (g k ≤ hi)) := by
  rcases h k hk with e | ⟨e1, e2⟩
  · rw [e]
  · rw [decide_eq_false (TE.no1 e1 hlo), decide_eq_false (TE.no2 e2 hhi), Bool.and_false]
    rfl
theorem TE.eqp (h : TE f g t) {k : Nat} (hk : k < t) {c : Int32} (hlo : 0 ≤ c) (hhi : c ≤ 127) : f k = c ↔ g k = c := by
  rcases h k hk with e | ⟨e1, e2⟩
  · rw [e]
  · exact ⟨fun z => absurd (by rw [z]; exact Int32.le_refl _) (TE.no1 (lo := c) e1 hlo), fun z => absurd (by rw [z]; exact Int32.le_refl _) (TE.no2 (hi := c) e2 hhi)⟩
theorem TE.dig (h : TE f g t) {k : Nat} (hk : k < t) {lo hi : Int32} (hhi : hi ≤ 127) (hd : (decide (lo ≤ g k) && decide (g k ≤ hi)) = true) : f k = g k := by
  rcases h k hk with e | ⟨e1, e2⟩
  · exact e
  · rw [decide_eq_false (TE.no2 e2 hhi), Bool.and_false] at hd
    exact absurd hd (by decide)
theorem TE.bl (h : TE f g t) : ∀ k, k < t → blP f k = blP g k := fun k hk => by
  show (decide (f k = 32) || decide (f k = 10)) = (decide (g k = 32) || decide (g k = 10))
  rw [decide_eq_decide.mpr (h.eqp hk (c := 32) (by decide) (by decide)), decide_eq_decide.mpr (h.eqp hk (c := 10) (by decide) (by decide))]
theorem TE.le (h : TE f g t) : ∀ k, k < t → leP f k = leP g k := fun k hk => h.rg hk (by decide) (by decide)
theorem TE.fi (h : TE f g t) : ∀ k, k < t → fiP f k = fiP g k := fun k hk => h.rg hk (by decide) (by decide)
theorem runF_te {p q : Nat → Bool} : ∀ (n i : Nat), (∀ k, i ≤ k → k < i + n → p k = q k) → runF p n i = runF q n i
  | 0, i, _ => rfl
  | n + 1, i, h => by
    rw [runF, runF, h i (Nat.le_refl _) (by omega), runF_te n (i + 1) (fun k a b => h k (by omega) (by omega))]
theorem runE_te {p q : Nat → Bool} (h : ∀ k, k < t → p k = q k) (i : Nat) : runE p t i = runE q t i := runF_te _ _ (fun k a b => h k (by omega))
theorem runE_lt {p : Nat → Bool} {i k : Nat} (h1 : i ≤ k) (h2 : k < runE p t i) : k < t := by
  by_cases c : i ≤ t
  · have := (runE_le p c).2
    omega
  · rw [runE_end (by omega)] at h2
    omega
theorem tsN_te (h : TE f g t) (p : Nat) : tsN f t p = tsN g t p := runE_te h.bl p
theorem leN_te (h : TE f g t) (p : Nat) : leN f t p = leN g t p := by
  unfold leN
  rw [tsN_te h]
  exact runE_te h.le _
theorem fiN_te (h : TE f g t) (p : Nat) : fiN f t p = fiN g t p := by
  unfold fiN
  rw [tsN_te h]
  exact runE_te h.fi _
theorem tkI_te (h : TE f g t) (p : Nat) : tkI f t p = tkI g t p := by
  unfold tkI
  rw [tsN_te h, leN_te h, fiN_te h]
  by_cases c : t ≤ tsN g t p
  · rw [if_pos c, if_pos c]
  · have e : (f (tsN g t p) = 59) = (g (tsN g t p) = 59) := propext (h.eqp (by omega) (by decide) (by decide))
    simp only [e]
theorem teN_te (h : TE f g t) (p : Nat) : teN f t p = teN g t p := by
  unfold teN
  rw [tsN_te h, leN_te h, fiN_te h]
theorem valP_te {i : Nat} : ∀ d, (∀ k, i ≤ k → k < i + d → f k = g k) → valP f i d = valP g i d
  | 0, _ => rfl
  | d + 1, h => by
    rw [valP, valP, valP_te d (fun k a b => h k a (by omega)), h (i + d) (by omega) (by omega)]
theorem tvI_te (h : TE f g t) (p : Nat) : tvI f t p = tvI g t p := by
  unfold tvI
  rw [tsN_te h, fiN_te h]
  refine valP_te _ (fun k a b => ?_)
  have hk : k < fiN g t p := by omega
  exact h.dig (runE_lt a hk) (by decide) (runE_in (p := fiP g) a hk)
theorem teN_1 {p : Nat} (h : tkI g t p = 1) : teN g t p = leN g t p := by
  unfold tkI at h
  unfold teN
  by_cases c1 : t ≤ tsN g t p
  · rw [if_pos c1] at h; exact absurd h (by decide)
  · rw [if_neg c1] at h ⊢
    by_cases c2 : tsN g t p < leN g t p
    · rw [if_pos c2]
    · rw [if_neg c2] at h
      split at h
      · exact absurd h (by decide)
      · split at h
        · exact absurd h (by decide)
        · split at h <;> exact absurd h (by decide)
theorem nmB_te (h : TE f g t) (p q : Nat) : nmB f t p q = nmB g t p q := by
  unfold nmB
  rw [tsN_te h, tkI_te h, teN_te h]
  by_cases hk : tkI g t p = 1
  · congr 1
    rw [teN_1 hk]
    unfold tellB
    by_cases hj : leN g t p = tsN g t p + slen q
    · congr 1
      refine allN_congr _ (fun k hk2 => ?_)
      have h2 : tsN g t p + k < leN g t p := by omega
      rw [h.dig (runE_lt (Nat.le_add_right _ k) h2) (by decide) (runE_in (p := leP g) (Nat.le_add_right _ k) h2)]
    · rw [decide_eq_false hj]
      rfl
  · rw [decide_eq_false hk]
    rfl
section STE
variable {s : Nat × Int32} {c : Nat} {d : Nat → Int32} {lo hi : Int32} {b : Bool} {q p : Nat} {a w : Int32}
theorem stB_te (h : TE f g t) : stB f t s b = stB g t s b := by unfold stB tkP; rw [teN_te h]
theorem nbW_te (h : TE f g t) : nbW f t p w lo hi = nbW g t p w lo hi := by unfold nbW; rw [tkI_te h, tvI_te h]
theorem stN_te (h : TE f g t) : stN f t s lo hi = stN g t s lo hi := by unfold stN; rw [nbW_te h, tkI_te h, stB_te h]
theorem stM_te (h : TE f g t) : stM f t s q = stM g t s q := by unfold stM; rw [nmB_te h, stB_te h]
theorem stS_te (h : TE f g t) : stS f t s = stS g t s := by unfold stS; rw [tkI_te h, stB_te h]
theorem srtN_te (h : TE f g t) : srtN f t p = srtN g t p := by
  unfold srtN
  rw [show (fun j => nmB f t p (j + 1)) = (fun j => nmB g t p (j + 1)) from funext fun j => nmB_te h p (j + 1)]
theorem mz_te (h : TE f g t) : mz f t s c = mz g t s c := by unfold mz; rw [nmB_te h]
theorem ml1_te (h : TE f g t) : ml1 f t s c = ml1 g t s c := by unfold ml1; rw [mz_te h, stM_te h]
theorem ml2_te (h : TE f g t) : ml2 f t s c = ml2 g t s c := by unfold ml2; rw [ml1_te h, srtN_te h, stB_te h]
theorem ml3_te (h : TE f g t) : ml3 f t s c = ml3 g t s c := by unfold ml3; rw [ml2_te h, stN_te h]
theorem my_te (h : TE f g t) : my f t s c d a = my g t s c d a := by unfold my; rw [tkI_te h, tvI_te h]
theorem ml4_te (h : TE f g t) : ml4 f t s c d = ml4 g t s c d := by unfold ml4; rw [ml3_te h, ml2_te h, tvI_te h, my_te h]
theorem ml5_te (h : TE f g t) : ml5 f t s c d = ml5 g t s c d := by unfold ml5; rw [ml4_te h, stN_te h]
theorem ml6_te (h : TE f g t) : ml6 f t s c d = ml6 g t s c d := by unfold ml6; rw [ml5_te h, stN_te h]
theorem ml7_te (h : TE f g t) : ml7 f t s c d = ml7 g t s c d := by unfold ml7; rw [ml6_te h, stN_te h]
theorem ml8_te (h : TE f g t) : ml8 f t s c d = ml8 g t s c d := by unfold ml8; rw [ml7_te h, stN_te h]
theorem ml9_te (h : TE f g t) : ml9 f t s c d = ml9 g t s c d := by unfold ml9; rw [ml8_te h, stN_te h]
theorem mlS_te (h : TE f g t) : mlS f t s c d = mlS g t s c d := by unfold mlS; rw [ml9_te h, stS_te h]
theorem mlV_te (h : TE f g t) : mlV f t s c d = mlV g t s c d := by
  unfold mlV
  simp only [ml2_te h, ml3_te h, ml5_te h, ml6_te h, ml7_te h, ml8_te h, tvI_te h]
theorem mlW_te (h : TE f g t) : mlW f t s c d = mlW g t s c d := by unfold mlW; rw [ml1_te h, srtN_te h, mlV_te h]
theorem mlNx_te (h : TE f g t) (r : RS) : mlNx f t r = mlNx g t r := by unfold mlNx; rw [mlS_te h, mlW_te h]
theorem mlRun_te (h : TE f g t) : ∀ (k : Nat) (r : RS), mlRun f t k r = mlRun g t k r
  | 0, r => rfl
  | k + 1, r => by
    rw [mlRun, mlRun, tkI_te h, mlNx_te h, mlRun_te h k]
theorem lw1_te (h : TE f g t) : lw1 f t s = lw1 g t s := stM_te h
theorem lw2_te (h : TE f g t) : lw2 f t s = lw2 g t s := by unfold lw2; rw [lw1_te h, stN_te h]
theorem lw3_te (h : TE f g t) : lw3 f t s = lw3 g t s := by unfold lw3; rw [lw2_te h, stN_te h]
theorem lw4_te (h : TE f g t) : lw4 f t s = lw4 g t s := by unfold lw4; rw [lw3_te h, stN_te h]
theorem lw5_te (h : TE f g t) : lw5 f t s = lw5 g t s := by unfold lw5; rw [lw4_te h, stS_te h]
theorem lawR_te (h : TE f g t) : lawR f t s = lawR g t s := by
  unfold lawR
  simp only [lw1_te h, lw2_te h, lw3_te h, tvI_te h]
theorem rdF_te (h : TE f g t) : rdF f t = rdF g t := by
  have e : rd0 f t = rd0 g t := by unfold rd0; rw [lw5_te h, lawR_te h]
  unfold rdF
  rw [e, mlNx_te h, mlRun_te h]
end STE
end TES
