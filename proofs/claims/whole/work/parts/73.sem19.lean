/-! THE REFERENCE: reading -/
/-- where the reference's reader stands: a place, or a fault -/
def RT (f : Nat → Int32) (t : Nat) (s : Nat × Int32) (u : Mem) : Prop := u 0 18 = s.2 ∧ (s.2 ≠ 0 → u 0 14 = nI (tsN f t s.1)) ∧ (s.2 = 0 → u 0 15 = nI s.1)
def NG (x u : Mem) : Prop := (∀ a, a ≠ 0 → a ≠ 8 → u a = x a) ∧ ∀ s, s ≠ 14 → s ≠ 15 → s ≠ 16 → s ≠ 17 → s ≠ 18 → s ≠ 21 → u 0 s = x 0 s
theorem NG.rf {x : Mem} : NG x x := ⟨fun _ _ _ => rfl, fun _ _ _ _ _ _ _ => rfl⟩
theorem NG.nf {x u v : Mem} (h : NG x u) (g : NF u v) : NG x v := ⟨fun a h1 h2 => (g.1 a h1).trans (h.1 a h1 h2), fun s h1 h2 h3 h4 h5 h6 => (g.2 s h1 h2 h3 h4 h6).trans (h.2 s h1 h2 h3 h4 h5 h6)⟩
theorem NG.tr {x u v : Mem} (h : NG x u) (g : NG u v) : NG x v := ⟨fun a h1 h2 => (g.1 a h1 h2).trans (h.1 a h1 h2), fun s h1 h2 h3 h4 h5 h6 => (g.2 s h1 h2 h3 h4 h5 h6).trans (h.2 s h1 h2 h3 h4 h5 h6)⟩
theorem NG.wr {x u : Mem} (h : NG x u) {v : Int32} : NG x (mst u 0 18 v) := ⟨fun a h1 h2 => by rw [mst_ne h1]; exact h.1 a h1 h2, fun s h1 h2 h3 h4 h5 h6 => by rw [mst_eq, upd_ne h5]; exact h.2 s h1 h2 h3 h4 h5 h6⟩
theorem NG.be {x u : Mem} (h : NG x u) {v : Int32} : NG x (mst u 0 15 v) := ⟨fun a h1 h2 => by rw [mst_ne h1]; exact h.1 a h1 h2, fun s h1 h2 h3 h4 h5 h6 => by rw [mst_eq, upd_ne h2]; exact h.2 s h1 h2 h3 h4 h5 h6⟩
theorem NG.r8 {x u : Mem} (h : NG x u) {k : Nat} {v : Int32} : NG x (mst u 8 k v) := ⟨fun a h1 h2 => by rw [mst_ne h2]; exact h.1 a h1 h2, fun s h1 h2 h3 h4 h5 h6 => by rw [mst_ne (by decide)]; exact h.2 s h1 h2 h3 h4 h5 h6⟩
section STN
variable {f : Nat → Int32} {t p q : Nat} {lo hi : Int32} {s : Nat × Int32} {u v : Mem}
theorem NT.wr (h : NT f t p u) {w : Int32} : NT f t p (mst u 0 18 w) := by
  unfold NT at h ⊢
  rw [mst_eq, upd_ne (by decide), upd_ne (by decide), upd_ne (by decide), wth_off (by decide) (by decide)]
  exact h
theorem stB_t (h : s.2 = 0) : stB f t s true = (teN f t s.1, 0) := by
  unfold stB tkP tkW
  rw [if_pos rfl, if_pos h, h]
theorem stB_f (h : s.2 = 0) : stB f t s false = (s.1, 1) := by
  have e : tkW s.2 false = 1 := by
    unfold tkW
    rw [h]
    rfl
  unfold stB tkP
  rw [e, if_neg (by decide)]
theorem stN_a (h : s.2 = 0) (hk : ¬ tkI f t s.1 = 2) : stN f t s lo hi = (s.1, 1) := by
  unfold stN nbW
  rw [if_neg (fun z => hk z.1), decide_eq_false hk, h]
  exact stB_f (s := (s.1, 0)) rfl
theorem stN_b (h : s.2 = 0) (hk : tkI f t s.1 = 2) (hv : (decide (lo ≤ tvI f t s.1) && decide (tvI f t s.1 ≤ hi)) = true) : stN f t s lo hi = (teN f t s.1, 0) := by
  unfold stN nbW
  rw [if_neg (fun z => by rw [hv] at z; exact absurd z.2 (by decide)), decide_eq_true hk, h]
  exact stB_t (s := (s.1, 0)) rfl
theorem stN_c (h : s.2 = 0) (hk : tkI f t s.1 = 2) (hv : (decide (lo ≤ tvI f t s.1) && decide (tvI f t s.1 ≤ hi)) = false) : stN f t s lo hi = (s.1, 2) := by
  unfold stN nbW
  rw [if_pos ⟨hk, hv⟩, decide_eq_true hk, h]
  rfl
theorem RT_no {w : Int32} (hw : w ≠ 0) (hN : NT f t p u) (h : v = mst u 0 18 w) : RT f t (p, w) v := by
  subst h
  refine ⟨by rw [mst_self], fun _ => ?_, fun z => absurd z hw⟩
  rw [mst_eq, upd_ne (by decide)]
  exact hN.1
theorem RT_yes (hN : NT f t p u) (h0 : tkI f t p ≠ 0) (h4 : tkI f t p ≠ 4) (h : v = mst u 0 18 0) : RT f t (teN f t p, 0) v := by
  subst h
  refine ⟨by rw [mst_self], fun z => absurd rfl z, fun _ => ?_⟩
  rw [mst_eq, upd_ne (by decide)]
  exact hN.2.2.1 h0 h4
theorem RT.off (h : RT f t s u) (ho : v 0 = u 0) : RT f t s v := by
  unfold RT at h ⊢
  rw [ho]
  exact h
end STN
theorem bI_dec (c : Prop) [Decidable c] {b : Bool} (h : b = true ↔ c) : bI b = bI (decide c) := by
  congr 1
  cases b
  · exact (decide_eq_false (fun z => absurd (h.mpr z) (by decide))).symm
  · exact (decide_eq_true (h.mp rfl)).symm
/-- words: what the reference makes of letters is the word's own -/
def hZ (f : Nat → Int32) (i : Nat) : Nat → Int
  | 0 => 0
  | d + 1 => 27 * hZ f i d + ((f (i + d)).toInt - 96)
theorem le_dig {f : Nat → Int32} {k : Nat} (h : leP f k = true) : 97 ≤ (f k).toInt ∧ (f k).toInt ≤ 122 := by
  simp only [leP, Bool.and_eq_true, decide_eq_true_eq] at h
  have h1 := Int32.le_iff_toInt_le.mp h.1
  have h2 := Int32.le_iff_toInt_le.mp h.2
  exact ⟨h1, h2⟩
theorem hs_val {f : Nat → Int32} {i : Nat} : ∀ d, d ≤ 7 → (∀ k, i ≤ k → k < i + d → leP f k = true) → (hsL f i d).toInt = hZ f i d ∧ 0 ≤ hZ f i d ∧ hZ f i d < 27 ^ d := by
  intro d
  induction d with
  | zero => intro _ _; exact ⟨rfl, Int.le_refl 0, (by show (0 : Int) < 27 ^ 0; decide)⟩
  | succ d ih =>
    intro hd hf
    obtain ⟨h1, h2, h3⟩ := ih (by omega) (fun k a b => hf k a (by omega))
    obtain ⟨h5, h6⟩ := le_dig (hf (i + d) (by omega) (by omega))
    have hp : (27 : Int) ^ d ≤ 387420489 := by
      have : d = 0 ∨ d = 1 ∨ d = 2 ∨ d = 3 ∨ d = 4 ∨ d = 5 ∨ d = 6 := by omega
      rcases this with rfl | rfl | rfl | rfl | rfl | rfl | rfl <;> decide
    have hp2 : (27 : Int) ^ (d + 1) = 27 ^ d * 27 := Int.pow_succ 27 d
    have e2 : (hsL f i (d + 1)).toInt = hZ f i (d + 1) := by
      rw [hsL, if_pos (by omega), Int64.toInt_sub, Int64.toInt_add, Int64.toInt_mul, Int32.toInt_toInt64, h1, show (27 : Int64).toInt = 27 from rfl, show (96 : Int64).toInt = 96 from rfl, bm64 (z := 27 * hZ f i d) (by omega) (by omega), bm64 (z := 27 * hZ f i d + (f (i + d)).toInt) (by omega) (by omega), bm64 (by omega) (by omega), hZ]
      omega
    refine ⟨e2, ?_, ?_⟩
    · rw [hZ]; omega
    · rw [hZ, hp2]; omega
def cR : List Int → Int
  | [] => 0
  | c :: l => 27 * cR l + c
theorem cR_pos : ∀ (l : List Int), (∀ c ∈ l, 1 ≤ c ∧ c ≤ 26) → 0 ≤ cR l
  | [], _ => Int.le_refl 0
  | c :: l, h => by
    have h1 := cR_pos l (fun z hz => h z (List.mem_cons_of_mem _ hz))
    have h2 := h c (List.mem_cons_self ..)
    rw [cR]
    omega
theorem hZ_uniq {f : Nat → Int32} {i : Nat} : ∀ (l : List Int), (∀ c ∈ l, 1 ≤ c ∧ c ≤ 26) → ∀ d, (∀ k, i ≤ k → k < i + d → leP f k = true) → 0 ≤ hZ f i d → (hZ f i d = cR l ↔ d = l.length ∧ ∀ k, k < d → (f (i + k)).toInt - 96 = l.getD (d - 1 - k) 0) := by
  intro l
  induction l with
  | nil =>
    intro _ d hf _
    cases d with
    | zero => exact ⟨fun _ => ⟨rfl, fun k hk => absurd hk (Nat.not_lt_zero k)⟩, fun _ => rfl⟩
    | succ d =>
      obtain ⟨h5, h6⟩ := le_dig (hf (i + d) (by omega) (by omega))
      refine ⟨fun z => ?_, fun z => absurd z.1 (by simp)⟩
      have hz : 0 ≤ hZ f i d := by
        clear z
        induction d with
        | zero => exact Int.le_refl 0
        | succ d ih =>
          obtain ⟨a5, a6⟩ := le_dig (hf (i + d) (by omega) (by omega))
          have := ih (fun k a b => hf k a (by omega)) (by
            obtain ⟨b5, b6⟩ := le_dig (hf (i + d) (by omega) (by omega))
            rename_i hpos
            rw [hZ, hZ] at hpos
            rw [hZ]
            omega) a5 a6
          rw [hZ]
          omega
      rw [hZ, cR] at z
      omega
  | cons c l ih =>
    intro hl d hf hpos
    have hc := hl c (List.mem_cons_self ..)
    have hl2 : ∀ z ∈ l, 1 ≤ z ∧ z ≤ 26 := fun z hz => hl z (List.mem_cons_of_mem _ hz)
    have hcp := cR_pos l hl2
    cases d with
    | zero =>
      refine ⟨fun z => ?_, fun z => absurd z.1 (by simp)⟩
      rw [cR] at z
      have : hZ f i 0 = 0 := rfl
      omega
    | succ d =>
      obtain ⟨h5, h6⟩ := le_dig (hf (i + d) (by omega) (by omega))
      have hp2 : 0 ≤ hZ f i d := by rw [hZ] at hpos; omega
      have h7 := ih hl2 d (fun k a b => hf k a (by omega)) hp2
      rw [hZ, cR]
      constructor
      · intro z
        have e1 : (f (i + d)).toInt - 96 = c := by omega
        obtain ⟨e3, e4⟩ := h7.mp (by omega)
        refine ⟨by rw [e3]; rfl, fun k hk => ?_⟩
        by_cases hkd : k = d
        · subst hkd
          rw [show k + 1 - 1 - k = 0 by omega]
          exact e1
        · rw [show d + 1 - 1 - k = (d - 1 - k) + 1 by omega]
          exact e4 k (by omega)
      · intro z
        have e1 := z.2 d (by omega)
        rw [show d + 1 - 1 - d = 0 by omega] at e1
        have e2 : hZ f i d = cR l := h7.mpr ⟨by have := z.1; simp at this; exact this, fun k hk => by
          have := z.2 k (by omega)
          rw [show d + 1 - 1 - k = (d - 1 - k) + 1 by omega] at this
          exact this⟩
        rw [e2]
        have e3 : (c :: l).getD 0 0 = c := rfl
        rw [e3] at e1
        omega
def wdR (q : Nat) : List Int := ((strByt.getD q []).map (fun c => c.toInt - 96)).reverse
def wdC (q : Nat) : Int64 := Int64.ofInt (cR (wdR q))
theorem wd_ok : ∀ q, q < 7 → (∀ c ∈ wdR q, 1 ≤ c ∧ c ≤ 26) ∧ (wdR q).length = slen q ∧ (wdC q).toInt = cR (wdR q) ∧ ∀ k, k < slen q → (wdR q).getD (slen q - 1 - k) 0 + 96 = (chB q k).toInt := by decide +kernel
theorem wd_c : wdC 0 = 8798 ∧ wdC 1 = 262776 ∧ wdC 2 = 3383428 ∧ wdC 3 = 123061171 ∧ wdC 4 = 158523 ∧ wdC 5 = 12257559 ∧ wdC 6 = 369860 := by decide +kernel
theorem wd_m1 : ∀ q, q < 7 → wdC q ≠ -1 := by decide +kernel
theorem hs_big {f : Nat → Int32} {i d : Nat} (h : 7 < d) : hsL f i d = -1 := by
  obtain ⟨e, rfl⟩ : ∃ e, d = e + 1 := ⟨d - 1, by omega⟩
  rw [hsL, if_neg (by omega)]
theorem nm_hash {f : Nat → Int32} {t p q : Nat} (hp : p ≤ t) (hq : q < 7) (hk : tkI f t p = 1) : hsL f (tsN f t p) (leN f t p - tsN f t p) = wdC q ↔ nmB f t p q = true := by
  obtain ⟨w1, w2, w3, w4⟩ := wd_ok q hq
  have hle := leN_le (f := f) hp
  have hin : ∀ k, tsN f t p ≤ k → k < tsN f t p + (leN f t p - tsN f t p) → leP f k = true := fun k a b => runE_in (p := leP f) (i := tsN f t p) a (show k < leN f t p by omega)
  have hte : teN f t p = leN f t p := by
    unfold tkI at hk
    unfold teN
    by_cases c1 : t ≤ tsN f t p
    · rw [if_pos c1] at hk; exact absurd hk (by decide)
    · rw [if_neg c1] at hk ⊢
      by_cases c2 : tsN f t p < leN f t p
      · rw [if_pos c2]
      · rw [if_neg c2] at hk
        split at hk
        · exact absurd hk (by decide)
        · split at hk
          · exact absurd hk (by decide)
          · split at hk <;> exact absurd hk (by decide)
  have hb : nmB f t p q = true ↔ leN f t p - tsN f t p = slen q ∧ ∀ k, k < slen q → f (tsN f t p + k) = chB q k := by
    unfold nmB tellB
    rw [decide_eq_true hk, hte]
    simp only [Bool.true_and, Bool.and_eq_true, decide_eq_true_eq]
    constructor
    · intro z
      exact ⟨by omega, fun k hk2 => of_decide_eq_true (allN_get z.2 hk2)⟩
    · intro z
      exact ⟨by omega, allN_true _ fun k hk2 => decide_eq_true (z.2 k hk2)⟩
  rw [hb]
  have hs7 := slen_le q hq
  by_cases c : 7 < leN f t p - tsN f t p
  · rw [hs_big c]
    exact ⟨fun z => absurd z.symm (wd_m1 q hq), fun z => by have := z.1; omega⟩
  · obtain ⟨v1, v2, v3⟩ := hs_val (f := f) (i := tsN f t p) (leN f t p - tsN f t p) (by omega) hin
    have hu := hZ_uniq (f := f) (i := tsN f t p) (wdR q) w1 (leN f t p - tsN f t p) hin v2
    have h0 : hsL f (tsN f t p) (leN f t p - tsN f t p) = wdC q ↔ hZ f (tsN f t p) (leN f t p - tsN f t p) = cR (wdR q) := by
      rw [← v1, ← w3]
      exact Int64.toInt_inj.symm
    rw [h0, hu, w2]
    constructor
    · intro z
      refine ⟨z.1, fun k hk2 => ?_⟩
      have h8 := z.2 k (by omega)
      rw [z.1] at h8
      have h9 := w4 k hk2
      exact Int32.toInt_inj.mp (by omega)
    · intro z
      refine ⟨z.1, fun k hk2 => ?_⟩
      rw [z.1]
      have h9 := w4 k (by omega)
      rw [z.2 k (by omega)]
      omega
