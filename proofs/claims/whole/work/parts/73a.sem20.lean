/-! THE REFERENCE: laws, mills -/
def kdW (w : Int64) : Int32 := if w = 3383428 then 1 else if w = 123061171 then 2 else if w = 158523 then 3 else if w = 12257559 then 4 else if w = 369860 then 5 else 0
theorem num_t {r : Int32} {P : Prop} [Decidable P] (h : r = bI (decide P)) (c : ¬ r = 0) : P := by
  rw [h] at c
  by_cases hp : P
  · exact hp
  · rw [decide_eq_false hp] at c
    exact absurd rfl c
theorem num_f {r : Int32} {P : Prop} [Decidable P] (h : r = bI (decide P)) (c : r = 0) : ¬ P := by
  intro hp
  rw [h, decide_eq_true hp] at c
  exact absurd c (by decide)
theorem wth_i {u : Mem} {v : Int32} (h : wth u = v.toInt64) : (mkL (u 0 17) (u 0 21)).toInt32 = v := by
  have h2 : mkL (u 0 17) (u 0 21) = v.toInt64 := h
  rw [h2]
  exact Int32.toInt32_toInt64 v
section LAWS
variable {f : Nat → Int32} {t c q : Nat} {s : Nat × Int32} {u v : Mem} {d : Nat → Int32}
theorem nm_if (hp : s.1 ≤ t) (hq : q < 7) (hN : NT f t s.1 u) {w : Int64} (hw : wdC q = w) : (if u 0 16 = 1 then (if mkL (u 0 17) (u 0 21) = w then false else true) else true) = !nmB f t s.1 q := by
  by_cases hk : tkI f t s.1 = 1
  · rw [if_pos (hN.2.1.trans hk)]
    have h1 : mkL (u 0 17) (u 0 21) = hsL f (tsN f t s.1) (leN f t s.1 - tsN f t s.1) := hN.2.2.2.2 hk
    have h2 := nm_hash hp hq hk
    rw [h1, ← hw]
    by_cases e : hsL f (tsN f t s.1) (leN f t s.1 - tsN f t s.1) = wdC q
    · rw [if_pos e, h2.mp e]
      rfl
    · rw [if_neg e]
      cases hn : nmB f t s.1 q with
      | true => exact absurd (h2.mpr hn) e
      | false => rfl
  · rw [if_neg (fun z => hk (hN.2.1.symm.trans z)), nm_no hk]
    rfl
theorem nm_tk {p : Nat} (h : nmB f t p q = true) : tkI f t p = 1 := by
  unfold nmB at h
  simp only [Bool.and_eq_true, decide_eq_true_eq] at h
  exact h.1
theorem RT_B {b : Bool} (hs : s.2 = 0) (hN : NT f t s.1 u) (hb : b = true → tkI f t s.1 ≠ 0 ∧ tkI f t s.1 ≠ 4) (h : v = mst u 0 18 (bI (!b))) : RT f t (stB f t s b) v := by
  cases b with
  | true =>
    rw [stB_t hs]
    exact RT_yes hN (hb rfl).1 (hb rfl).2 h
  | false =>
    rw [stB_f hs]
    exact RT_no (by decide) hN h
theorem law_rt (hs : s.2 = 0) (hN : NT f t s.1 u) (h : v = mst u 0 18 (bI (!nmB f t s.1 0))) : RT f t (lw1 f t s) v :=
  RT_B hs hN (fun z => by rw [nm_tk z]; decide) h
theorem lw5_4 (h : (lw4 f t s).2 ≠ 0) : lw5 f t s = lw4 f t s := stS_fz h
theorem lw5_3 (h : (lw3 f t s).2 ≠ 0) : lw5 f t s = lw3 f t s := by
  have e : lw4 f t s = lw3 f t s := stN_fz h
  rw [lw5_4 (by rw [e]; exact h), e]
theorem lw5_2 (h : (lw2 f t s).2 ≠ 0) : lw5 f t s = lw2 f t s := by
  have e : lw3 f t s = lw2 f t s := stN_fz h
  rw [lw5_3 (by rw [e]; exact h), e]
theorem lw5_1 (h : (lw1 f t s).2 ≠ 0) : lw5 f t s = lw1 f t s := by
  have e : lw2 f t s = lw1 f t s := stN_fz h
  rw [lw5_2 (by rw [e]; exact h), e]
theorem mill_rt (hp : s.1 ≤ t) (hs : s.2 = 0) (hc : c ≤ 8) (hN : NT f t s.1 u) (h : v = mst u 0 18 (if u 0 16 = 1 then (if mkL (u 0 17) (u 0 21) = 262776 then (if nI c = 8 then 3 else 0) else 1) else 1)) : RT f t (ml1 f t s c) v := by
  have h1 := nm_if (q := 1) hp (by decide) hN wd_c.2.1
  have e8 : nI c = 8 ↔ c = 8 := n_eq (a := c) (b := 8) rfl rfl (by omega) (by decide)
  unfold ml1 stM
  cases hn : nmB f t s.1 1 with
  | false =>
    rw [mz_n (by rw [hn, Bool.and_false]), hn, stB_f hs]
    refine RT_no (by decide) hN ?_
    rw [h]
    congr 1
    rw [hn] at h1
    by_cases a : u 0 16 = 1
    · rw [if_pos a] at h1 ⊢
      by_cases b : mkL (u 0 17) (u 0 21) = 262776
      · rw [if_pos b] at h1; exact absurd h1 (by decide)
      · rw [if_neg b]
    · rw [if_neg a]
  | true =>
    rw [hn] at h1
    have ha : u 0 16 = 1 := by
      by_cases a : u 0 16 = 1
      · exact a
      · rw [if_neg a] at h1; exact absurd h1 (by decide)
    rw [if_pos ha] at h1
    have hb : mkL (u 0 17) (u 0 21) = 262776 := by
      by_cases b : mkL (u 0 17) (u 0 21) = 262776
      · exact b
      · rw [if_neg b] at h1; exact absurd h1 (by decide)
    rw [if_pos ha, if_pos hb] at h
    by_cases h8 : c = 8
    · rw [if_pos (e8.mpr h8)] at h
      rw [mz_y (by rw [hn, decide_eq_true (by omega : 8 ≤ c)]; rfl)]
      have e3 : rfW s.2 3 = 3 := by rw [hs]; rfl
      rw [e3]
      have ef : stB f t (s.1, 3) (nmB f t (s.1, (3 : Int32)).1 1) = (s.1, 3) := stB_fz (by show (3 : Int32) ≠ 0; decide)
      rw [ef]
      exact RT_no (by decide) hN h
    · rw [if_neg (fun z => h8 (e8.mp z))] at h
      rw [mz_n (by rw [decide_eq_false (by omega : ¬ 8 ≤ c)]; rfl), hn, stB_t hs]
      exact RT_yes hN (by rw [nm_tk hn]; decide) (by rw [nm_tk hn]; decide) h
theorem srt_ref {p : Nat} (hp : p ≤ t) (hN : NT f t p u) : (if u 0 16 = 1 then kdW (mkL (u 0 17) (u 0 21)) else 0) = nI (srtN f t p) := by
  by_cases hk : tkI f t p = 1
  · rw [if_pos (hN.2.1.trans hk)]
    have h1 : mkL (u 0 17) (u 0 21) = hsL f (tsN f t p) (leN f t p - tsN f t p) := hN.2.2.2.2 hk
    have h2 := nm_hash (q := 2) hp (by decide) hk
    have h3 := nm_hash (q := 3) hp (by decide) hk
    have h4 := nm_hash (q := 4) hp (by decide) hk
    have h5 := nm_hash (q := 5) hp (by decide) hk
    have h6 := nm_hash (q := 6) hp (by decide) hk
    rw [wd_c.2.2.1] at h2
    rw [wd_c.2.2.2.1] at h3
    rw [wd_c.2.2.2.2.1] at h4
    rw [wd_c.2.2.2.2.2.1] at h5
    rw [wd_c.2.2.2.2.2.2] at h6
    rw [h1]
    generalize hsL f (tsN f t p) (leN f t p - tsN f t p) = w at h2 h3 h4 h5 h6 ⊢
    have es : srtN f t p = if nmB f t p 6 then 5 else if nmB f t p 5 then 4 else if nmB f t p 4 then 3 else if nmB f t p 3 then 2 else if nmB f t p 2 then 1 else 0 := rfl
    rw [es]
    have g2 : nmB f t p 2 = decide (w = 3383428) := by cases hb : nmB f t p 2 with | true => exact (decide_eq_true (h2.mpr hb)).symm | false => exact (decide_eq_false fun z => by rw [h2.mp z] at hb; exact absurd hb (by decide)).symm
    have g3 : nmB f t p 3 = decide (w = 123061171) := by cases hb : nmB f t p 3 with | true => exact (decide_eq_true (h3.mpr hb)).symm | false => exact (decide_eq_false fun z => by rw [h3.mp z] at hb; exact absurd hb (by decide)).symm
    have g4 : nmB f t p 4 = decide (w = 158523) := by cases hb : nmB f t p 4 with | true => exact (decide_eq_true (h4.mpr hb)).symm | false => exact (decide_eq_false fun z => by rw [h4.mp z] at hb; exact absurd hb (by decide)).symm
    have g5 : nmB f t p 5 = decide (w = 12257559) := by cases hb : nmB f t p 5 with | true => exact (decide_eq_true (h5.mpr hb)).symm | false => exact (decide_eq_false fun z => by rw [h5.mp z] at hb; exact absurd hb (by decide)).symm
    have g6 : nmB f t p 6 = decide (w = 369860) := by cases hb : nmB f t p 6 with | true => exact (decide_eq_true (h6.mpr hb)).symm | false => exact (decide_eq_false fun z => by rw [h6.mp z] at hb; exact absurd hb (by decide)).symm
    rw [g2, g3, g4, g5, g6]
    unfold kdW
    by_cases a2 : w = 3383428
    · subst a2; rfl
    · by_cases a3 : w = 123061171
      · subst a3; rfl
      · by_cases a4 : w = 158523
        · subst a4; rfl
        · by_cases a5 : w = 12257559
          · subst a5; rfl
          · by_cases a6 : w = 369860
            · subst a6; rfl
            · simp [a2, a3, a4, a5, a6]
              rfl
  · rw [if_neg (fun z => hk (hN.2.1.symm.trans z))]
    have es : srtN f t p = if nmB f t p 6 then 5 else if nmB f t p 5 then 4 else if nmB f t p 4 then 3 else if nmB f t p 3 then 2 else if nmB f t p 2 then 1 else 0 := rfl
    rw [es]
    simp only [nm_no hk]
    rfl
theorem srt_tk {p : Nat} (h : srtN f t p ≠ 0) : tkI f t p = 1 := by
  by_cases hk : tkI f t p = 1
  · exact hk
  · have es : srtN f t p = if nmB f t p 6 then 5 else if nmB f t p 5 then 4 else if nmB f t p 4 then 3 else if nmB f t p 3 then 2 else if nmB f t p 2 then 1 else 0 := rfl
    rw [es] at h
    simp only [nm_no hk] at h
    exact absurd rfl h
theorem srt_lt (f : Nat → Int32) (t p : Nat) : srtN f t p < 6 := Nat.lt_succ_of_le (srtP_le _ 5)
theorem sort_rt (hz : (ml1 f t s c).2 = 0) (hN : NT f t (ml1 f t s c).1 u) (h : v = mst u 0 18 (bI (if nI (srtN f t (ml1 f t s c).1) = 0 then true else false))) : RT f t (ml2 f t s c) v := by
  refine RT_B hz hN (fun z => by rw [srt_tk (of_decide_eq_true z)]; decide) ?_
  rw [h]
  congr 2
  have hlt := srt_lt f t (ml1 f t s c).1
  have e : nI (srtN f t (ml1 f t s c).1) = 0 ↔ srtN f t (ml1 f t s c).1 = 0 := n_eq (b := 0) rfl rfl (by omega) (by decide)
  by_cases a : srtN f t (ml1 f t s c).1 = 0
  · rw [if_pos (e.mpr a), a]
    rfl
  · rw [if_neg (fun z => a (e.mp z)), decide_eq_true a]
    rfl
/-- the reference's second number, and whether its place is taken -/
theorem ml5_no (h : (stN f t (ml3 f t s c) 0 20).2 ≠ 0) (h3 : (ml3 f t s c).2 = 0) : ml5 f t s c d = stN f t (ml3 f t s c) 0 20 := by
  unfold ml5 ml4 my
  by_cases a : tkI f t (ml3 f t s c).1 = 2 ∧ takR d c (tvI f t (ml2 f t s c).1) (tvI f t (ml3 f t s c).1) = true
  · rw [if_pos a]
    have e : rfW (ml3 f t s c).2 2 = 2 := by rw [h3]; rfl
    rw [e, stN_fz (s := ((ml3 f t s c).1, 2)) (by show (2 : Int32) ≠ 0; decide)]
    cases hv : (decide (0 ≤ tvI f t (ml3 f t s c).1) && decide (tvI f t (ml3 f t s c).1 ≤ 20)) with
    | true => rw [stN_b h3 a.1 hv] at h; exact absurd rfl h
    | false => rw [stN_c h3 a.1 hv]
  · rw [if_neg a]
theorem ml5_tk (h : (stN f t (ml3 f t s c) 0 20).2 = 0) (hT : takR d c (tvI f t (ml2 f t s c).1) (tvI f t (ml3 f t s c).1) = true) : ml5 f t s c d = ((ml3 f t s c).1, 2) := by
  obtain ⟨h3, hk, -⟩ := stN_0 h
  unfold ml5 ml4 my
  rw [if_pos ⟨hk, hT⟩]
  have e : rfW (ml3 f t s c).2 2 = 2 := by rw [h3]; rfl
  rw [e]
  exact stN_fz (s := ((ml3 f t s c).1, 2)) (by show (2 : Int32) ≠ 0; decide)
theorem ml5_ok (hT : takR d c (tvI f t (ml2 f t s c).1) (tvI f t (ml3 f t s c).1) = false) : ml4 f t s c d = ml3 f t s c ∧ ml5 f t s c d = stN f t (ml3 f t s c) 0 20 := by
  have e : ml4 f t s c d = ml3 f t s c := my_b (fun _ => hT)
  exact ⟨e, by unfold ml5; rw [e]⟩
def loK (k : Nat) : Int32 := if k < 2 then 1 else 0
def hiK (k : Nat) : Int32 := if k < 2 then 9 else if k = 2 then 99 else 999
def mlK (f : Nat → Int32) (t : Nat) (s : Nat × Int32) (c : Nat) (d : Nat → Int32) : Nat → Nat × Int32
  | 0 => ml5 f t s c d
  | k + 1 => stN f t (mlK f t s c d k) (loK k) (hiK k)
theorem mlK_4 : mlK f t s c d 4 = ml9 f t s c d := rfl
theorem mlK_le (hp : s.1 ≤ t) : ∀ k, (mlK f t s c d k).1 ≤ t
  | 0 => ml5_le hp
  | k + 1 => stN_le (mlK_le hp k)
theorem mlS_fz2 (h : (ml2 f t s c).2 ≠ 0) : mlS f t s c d = ml2 f t s c := by
  have e3 : ml3 f t s c = ml2 f t s c := stN_fz h
  have e4 : ml4 f t s c d = ml2 f t s c := by unfold ml4; rw [e3]; exact my_fz h
  have e5 : ml5 f t s c d = ml2 f t s c := by unfold ml5; rw [e4]; exact stN_fz h
  have e6 : ml6 f t s c d = ml2 f t s c := by unfold ml6; rw [e5]; exact stN_fz h
  have e7 : ml7 f t s c d = ml2 f t s c := by unfold ml7; rw [e6]; exact stN_fz h
  have e8 : ml8 f t s c d = ml2 f t s c := by unfold ml8; rw [e7]; exact stN_fz h
  have e9 : ml9 f t s c d = ml2 f t s c := by unfold ml9; rw [e8]; exact stN_fz h
  unfold mlS
  rw [e9]
  exact stS_fz h
theorem mlS_fz3 (h : (ml3 f t s c).2 ≠ 0) : mlS f t s c d = ml3 f t s c := by
  have e4 : ml4 f t s c d = ml3 f t s c := my_fz h
  have e5 : ml5 f t s c d = ml3 f t s c := by unfold ml5; rw [e4]; exact stN_fz h
  have e6 : ml6 f t s c d = ml3 f t s c := by unfold ml6; rw [e5]; exact stN_fz h
  have e7 : ml7 f t s c d = ml3 f t s c := by unfold ml7; rw [e6]; exact stN_fz h
  have e8 : ml8 f t s c d = ml3 f t s c := by unfold ml8; rw [e7]; exact stN_fz h
  have e9 : ml9 f t s c d = ml3 f t s c := by unfold ml9; rw [e8]; exact stN_fz h
  unfold mlS
  rw [e9]
  exact stS_fz h
theorem mlK_fz {k : Nat} (h : (mlK f t s c d k).2 ≠ 0) : ∀ j, mlK f t s c d (k + j) = mlK f t s c d k
  | 0 => rfl
  | j + 1 => by
    have e := mlK_fz h j
    show stN f t (mlK f t s c d (k + j)) (loK (k + j)) (hiK (k + j)) = _
    rw [e]
    exact stN_fz h
theorem mlS_fzK {k : Nat} (hk : k ≤ 4) (h : (mlK f t s c d k).2 ≠ 0) : mlS f t s c d = mlK f t s c d k := by
  have e := mlK_fz h (4 - k)
  rw [show k + (4 - k) = 4 by omega, mlK_4] at e
  unfold mlS
  rw [e]
  exact stS_fz h
/-- the row while its numbers come -/
def mlU (f : Nat → Int32) (t : Nat) (s : Nat × Int32) (c : Nat) (d : Nat → Int32) (k : Nat) : Nat → Int32 := fun i =>
  if i = 85 + c then nI (srtN f t (ml1 f t s c).1) else if 5 + 10 * c ≤ i ∧ i < 15 + 10 * c then (if i - (5 + 10 * c) < k then tvI f t (mlK f t s c d (i - (5 + 10 * c))).1 else if i - (5 + 10 * c) = 8 then tvI f t (ml2 f t s c).1 else if i - (5 + 10 * c) = 9 then tvI f t (ml3 f t s c).1 else 0) else d i
theorem mlU_st {g : Nat → Int32} {k : Nat} (hc : c < 8) (hk : k < 4) (h : g = mlU f t s c d k) : upd g (5 + 10 * c + k) (tvI f t (mlK f t s c d k).1) = mlU f t s c d (k + 1) := by
  subst h
  funext i
  by_cases e : i = 5 + 10 * c + k
  · subst e
    rw [upd_eq]
    unfold mlU
    rw [if_neg (by omega), if_pos (by omega), if_pos (by omega), Nat.add_sub_cancel_left]
  · rw [upd_ne e]
    unfold mlU
    by_cases a : i = 85 + c
    · rw [if_pos a, if_pos a]
    · rw [if_neg a, if_neg a]
      by_cases b : 5 + 10 * c ≤ i ∧ i < 15 + 10 * c
      · rw [if_pos b, if_pos b]
        by_cases q : i - (5 + 10 * c) < k
        · rw [if_pos q, if_pos (by omega)]
        · rw [if_neg q, if_neg (show ¬ i - (5 + 10 * c) < k + 1 by omega)]
      · rw [if_neg b, if_neg b]
theorem mlU_end {g : Nat → Int32} (hc : c < 8) (h : g = mlU f t s c d 4) (h0 : d 0 = nI c) : upd g 0 (g 0 + 1) = mlW f t s c d := by
  subst h
  have e0 : mlU f t s c d 4 0 = nI c := by
    unfold mlU
    rw [if_neg (by omega), if_neg (by omega)]
    exact h0
  funext i
  unfold mlW mlRow
  by_cases a : i = 0
  · subst a
    rw [upd_eq, e0, if_pos rfl]
    exact n_add rfl rfl
  · rw [upd_ne a, if_neg a]
    unfold mlU
    by_cases b : i = 85 + c
    · rw [if_pos b, if_pos b]
    · rw [if_neg b, if_neg b]
      by_cases e : 5 + 10 * c ≤ i ∧ i < 15 + 10 * c
      · rw [if_pos e, if_pos e]
        unfold mlV
        generalize i - (5 + 10 * c) = j
        by_cases j0 : j = 0
        · subst j0; rfl
        · by_cases j1 : j = 1
          · subst j1; rfl
          · by_cases j2 : j = 2
            · subst j2; rfl
            · by_cases j3 : j = 3
              · subst j3; rfl
              · rw [if_neg (by omega), if_neg j0, if_neg j1, if_neg j2, if_neg j3]
      · rw [if_neg e, if_neg e]
end LAWS
theorem tkn_st {P : Nat → Bool} {i : Nat} {b : Bool} {A B : Prop} [Decidable A] [Decidable B] (hP : P i = (decide A && decide B)) (h : b = !allN (fun j => !P j) i) : (if b = true then true else if A then (if B then true else false) else false) = !allN (fun j => !P j) (i + 1) := by
  rw [allN, hP]
  generalize allN (fun j => !P j) i = z at h ⊢
  subst h
  by_cases a : A <;> by_cases e : B <;> cases z <;> simp [a, e]
theorem i64_eq {a b : Int32} : a.toInt64 = b.toInt64 ↔ a = b := ⟨fun h => by have := congrArg Int64.toInt32 h; rwa [Int32.toInt32_toInt64, Int32.toInt32_toInt64] at this, fun h => by rw [h]⟩
