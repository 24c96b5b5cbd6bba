theorem full_dec : ∀ c, c ≤ 8 → (if nI c < 8 then false else true) = decide (8 ≤ c) := by
  intro c hc
  have h : ∀ c, c < 9 → (if nI c < 8 then false else true) = decide (8 ≤ c) := by decide +kernel
  exact h c (by omega)
theorem allN_congr {p q : Nat → Bool} : ∀ (n : Nat), (∀ j, j < n → p j = q j) → allN p n = allN q n
  | 0, _ => rfl
  | n + 1, h => by
    rw [allN, allN, allN_congr n (fun j hj => h j (by omega)), h n (by omega)]
/-- a place of the reader that bears a fault stays -/
theorem rfW_fz {w k : Int32} (h : w ≠ 0) : rfW w k = w := if_neg h
theorem stB_fz {f : Nat → Int32} {t : Nat} {s : Nat × Int32} {b : Bool} (h : s.2 ≠ 0) : stB f t s b = s := by
  have e : tkW s.2 b = s.2 := by
    unfold tkW
    cases b
    · exact rfW_fz h
    · rfl
  unfold stB tkP
  rw [e, if_neg h]
theorem stN_fz {f : Nat → Int32} {t : Nat} {s : Nat × Int32} {lo hi : Int32} (h : s.2 ≠ 0) : stN f t s lo hi = s := by
  have e : nbW f t s.1 s.2 lo hi = s.2 := by
    unfold nbW
    split
    · exact rfW_fz h
    · rfl
  unfold stN
  rw [e]
  exact stB_fz h
theorem stM_fz {f : Nat → Int32} {t : Nat} {s : Nat × Int32} {q : Nat} (h : s.2 ≠ 0) : stM f t s q = s := stB_fz h
theorem stS_fz {f : Nat → Int32} {t : Nat} {s : Nat × Int32} (h : s.2 ≠ 0) : stS f t s = s := stB_fz h
theorem stB_le' {f : Nat → Int32} {t : Nat} {s : Nat × Int32} {b : Bool} (h : s.1 ≤ t) : (stB f t s b).1 ≤ t := stB_le h
/-- a mill that is read, step by step -/
def takR (d : Nat → Int32) (c : Nat) (a b : Int32) : Bool := !allN (fun j => !(decide (sF d j 8 = a) && decide (sF d j 9 = b))) c
def mz (f : Nat → Int32) (t : Nat) (s : Nat × Int32) (c : Nat) : Nat × Int32 := if (decide (8 ≤ c) && nmB f t s.1 1) = true then (s.1, rfW s.2 3) else s
def ml1 (f : Nat → Int32) (t : Nat) (s : Nat × Int32) (c : Nat) : Nat × Int32 := stM f t (mz f t s c) 1
def ml2 (f : Nat → Int32) (t : Nat) (s : Nat × Int32) (c : Nat) : Nat × Int32 := stB f t (ml1 f t s c) (decide (srtN f t (ml1 f t s c).1 ≠ 0))
def ml3 (f : Nat → Int32) (t : Nat) (s : Nat × Int32) (c : Nat) : Nat × Int32 := stN f t (ml2 f t s c) 0 20
def my (f : Nat → Int32) (t : Nat) (s : Nat × Int32) (c : Nat) (d : Nat → Int32) (a : Int32) : Nat × Int32 := if tkI f t s.1 = 2 ∧ takR d c a (tvI f t s.1) = true then (s.1, rfW s.2 2) else s
def ml4 (f : Nat → Int32) (t : Nat) (s : Nat × Int32) (c : Nat) (d : Nat → Int32) : Nat × Int32 := my f t (ml3 f t s c) c d (tvI f t (ml2 f t s c).1)
def ml5 (f : Nat → Int32) (t : Nat) (s : Nat × Int32) (c : Nat) (d : Nat → Int32) : Nat × Int32 := stN f t (ml4 f t s c d) 0 20
def ml6 (f : Nat → Int32) (t : Nat) (s : Nat × Int32) (c : Nat) (d : Nat → Int32) : Nat × Int32 := stN f t (ml5 f t s c d) 1 9
def ml7 (f : Nat → Int32) (t : Nat) (s : Nat × Int32) (c : Nat) (d : Nat → Int32) : Nat × Int32 := stN f t (ml6 f t s c d) 1 9
def ml8 (f : Nat → Int32) (t : Nat) (s : Nat × Int32) (c : Nat) (d : Nat → Int32) : Nat × Int32 := stN f t (ml7 f t s c d) 0 99
def ml9 (f : Nat → Int32) (t : Nat) (s : Nat × Int32) (c : Nat) (d : Nat → Int32) : Nat × Int32 := stN f t (ml8 f t s c d) 0 999
def mlS (f : Nat → Int32) (t : Nat) (s : Nat × Int32) (c : Nat) (d : Nat → Int32) : Nat × Int32 := stS f t (ml9 f t s c d)
section MLS
variable {f : Nat → Int32} {t c : Nat} {s : Nat × Int32} {d : Nat → Int32} {a : Int32}
theorem my_fz (h : s.2 ≠ 0) : my f t s c d a = s := by
  unfold my
  split
  · rw [rfW_fz h]
  · rfl
theorem my_a (h : ¬ tkI f t s.1 = 2) : my f t s c d a = s := if_neg fun z => h z.1
theorem my_b (h : s.2 = 0 → takR d c a (tvI f t s.1) = false) : my f t s c d a = s := by
  by_cases e : s.2 = 0
  · exact if_neg fun z => by rw [h e] at z; exact absurd z.2 (by decide)
  · exact my_fz e
theorem my_c (h : tkI f t s.1 = 2) (hb : s.2 = 0 → takR d c a (tvI f t s.1) = true) : my f t s c d a = (s.1, rfW s.2 2) := by
  by_cases e : s.2 = 0
  · exact if_pos ⟨h, hb e⟩
  · rw [my_fz e, rfW_fz e]
theorem my_le (h : s.1 ≤ t) : (my f t s c d a).1 ≤ t := by
  unfold my
  split
  · exact h
  · exact h
theorem my_0 (h : (my f t s c d a).2 = 0) : s.2 = 0 ∧ my f t s c d a = s := by
  by_cases e : s.2 = 0
  · refine ⟨e, ?_⟩
    unfold my at h ⊢
    by_cases q : tkI f t s.1 = 2 ∧ takR d c a (tvI f t s.1) = true
    · rw [if_pos q] at h
      exact absurd h (rfW_ne (by decide))
    · rw [if_neg q]
  · rw [my_fz e] at h
    exact absurd h e
theorem mz_le (h : s.1 ≤ t) : (mz f t s c).1 ≤ t := by
  unfold mz
  split <;> exact h
theorem mz_y (h : (decide (8 ≤ c) && nmB f t s.1 1) = true) : mz f t s c = (s.1, rfW s.2 3) := if_pos h
theorem mz_n (h : (decide (8 ≤ c) && nmB f t s.1 1) = false) : mz f t s c = s := if_neg (by rw [h]; decide)
theorem ml1_full (h : 8 ≤ c) : (ml1 f t s c).2 ≠ 0 := by
  unfold ml1
  cases hn : nmB f t s.1 1 with
  | true =>
    have e : mz f t s c = (s.1, rfW s.2 3) := mz_y (by rw [hn, decide_eq_true h]; rfl)
    have e2 : (s.1, rfW s.2 3).2 ≠ 0 := rfW_ne (by decide)
    rw [e, stM_fz e2]
    exact e2
  | false =>
    have e : mz f t s c = s := mz_n (by rw [hn, Bool.and_false])
    rw [e]
    unfold stM stB
    rw [hn]
    exact rfW_ne (by decide)
theorem ml1_le (h : s.1 ≤ t) : (ml1 f t s c).1 ≤ t := stB_le (mz_le h)
theorem ml2_le (h : s.1 ≤ t) : (ml2 f t s c).1 ≤ t := stB_le (ml1_le h)
theorem ml3_le (h : s.1 ≤ t) : (ml3 f t s c).1 ≤ t := stN_le (ml2_le h)
theorem ml4_le (h : s.1 ≤ t) : (ml4 f t s c d).1 ≤ t := my_le (ml3_le h)
theorem ml5_le (h : s.1 ≤ t) : (ml5 f t s c d).1 ≤ t := stN_le (ml4_le h)
theorem ml6_le (h : s.1 ≤ t) : (ml6 f t s c d).1 ≤ t := stN_le (ml5_le h)
theorem ml7_le (h : s.1 ≤ t) : (ml7 f t s c d).1 ≤ t := stN_le (ml6_le h)
theorem ml8_le (h : s.1 ≤ t) : (ml8 f t s c d).1 ≤ t := stN_le (ml7_le h)
theorem ml9_le (h : s.1 ≤ t) : (ml9 f t s c d).1 ≤ t := stN_le (ml8_le h)
theorem mlS_le (h : s.1 ≤ t) : (mlS f t s c d).1 ≤ t := stB_le (ml9_le h)
theorem mlS_fz1 (h : (ml1 f t s c).2 ≠ 0) : mlS f t s c d = ml1 f t s c := by
  have e2 : ml2 f t s c = ml1 f t s c := stB_fz h
  have e3 : ml3 f t s c = ml1 f t s c := by unfold ml3; rw [e2]; exact stN_fz h
  have e4 : ml4 f t s c d = ml1 f t s c := by unfold ml4; rw [e3]; exact my_fz h
  have e5 : ml5 f t s c d = ml1 f t s c := by unfold ml5; rw [e4]; exact stN_fz h
  have e6 : ml6 f t s c d = ml1 f t s c := by unfold ml6; rw [e5]; exact stN_fz h
  have e7 : ml7 f t s c d = ml1 f t s c := by unfold ml7; rw [e6]; exact stN_fz h
  have e8 : ml8 f t s c d = ml1 f t s c := by unfold ml8; rw [e7]; exact stN_fz h
  have e9 : ml9 f t s c d = ml1 f t s c := by unfold ml9; rw [e8]; exact stN_fz h
  unfold mlS
  rw [e9]
  exact stS_fz h
end MLS
theorem stB_0 {f : Nat → Int32} {t : Nat} {s : Nat × Int32} {b : Bool} (h : (stB f t s b).2 = 0) : b = true ∧ s.2 = 0 := tkW_0 h
theorem ml1_0 {f : Nat → Int32} {t c : Nat} {s : Nat × Int32} (h : (ml1 f t s c).2 = 0) : s.2 = 0 := by
  have h1 : (mz f t s c).2 = 0 := (stB_0 h).2
  unfold mz at h1
  split at h1
  · exact absurd h1 (rfW_ne (by decide))
  · exact h1
/-- a row of a ridge with one mill more -/
def mlRow (d : Nat → Int32) (c : Nat) (kd : Int32) (v : Nat → Int32) : Nat → Int32 := fun k => if k = 0 then nI (c + 1) else if k = 85 + c then kd else if 5 + 10 * c ≤ k ∧ k < 15 + 10 * c then v (k - (5 + 10 * c)) else d k
def mlV (f : Nat → Int32) (t : Nat) (s : Nat × Int32) (c : Nat) (d : Nat → Int32) : Nat → Int32 := fun k => if k = 0 then tvI f t (ml5 f t s c d).1 else if k = 1 then tvI f t (ml6 f t s c d).1 else if k = 2 then tvI f t (ml7 f t s c d).1 else if k = 3 then tvI f t (ml8 f t s c d).1 else if k = 8 then tvI f t (ml2 f t s c).1 else if k = 9 then tvI f t (ml3 f t s c).1 else 0
def mlW (f : Nat → Int32) (t : Nat) (s : Nat × Int32) (c : Nat) (d : Nat → Int32) : Nat → Int32 := mlRow d c (nI (srtN f t (ml1 f t s c).1)) (mlV f t s c d)
section MLR
variable {d v : Nat → Int32} {c j k : Nat} {kd : Int32}
theorem mlRow_n : mlRow d c kd v 0 = nI (c + 1) := if_pos rfl
theorem mlRow_lo (h0 : k ≠ 0) (h : k < 5) (hc : c < 8) : mlRow d c kd v k = d k := by
  unfold mlRow
  rw [if_neg h0, if_neg (by omega), if_neg (by omega)]
theorem mlRow_F (hj : j < c) (hk : k < 10) (hc : c < 8) : sF (mlRow d c kd v) j k = sF d j k := by
  unfold sF mlRow
  rw [if_neg (by omega), if_neg (by omega), if_neg (by omega)]
theorem mlRow_K (hj : j < c) (hc : c < 8) : sK (mlRow d c kd v) j = sK d j := by
  unfold sK mlRow
  rw [if_neg (by omega), if_neg (by omega), if_neg (by omega)]
theorem mlRow_Fc (hk : k < 10) (hc : c < 8) : sF (mlRow d c kd v) c k = v k := by
  unfold sF mlRow
  rw [if_neg (by omega), if_neg (by omega), if_pos (by omega), Nat.add_sub_cancel_left]
theorem mlRow_Kc : sK (mlRow d c kd v) c = kd := by
  unfold sK mlRow
  rw [if_neg (by omega), if_pos rfl]
end MLR
theorem RR_add {c : Nat} {x u : Mem} {d v : Nat → Int32} {kd : Int32} (h : RR c x 15 d) (hc : c < 8) (ho : ∀ j, j < c → u (15 + 1 + 1 + j) = x (15 + 1 + 1 + j)) (hn : u 15 1 = nI (c + 1)) (hr : ∀ s, s ≠ 1 → u 15 s = x 15 s)
    (h0 : u (15 + 1 + 1 + c) 0 = nI c) (h1 : u (15 + 1 + 1 + c) 1 = kd) (h2 : u (15 + 1 + 1 + c) 2 = v 8) (h3 : u (15 + 1 + 1 + c) 3 = v 9) (h4 : u (15 + 1 + 1 + c) 4 = v 0) (h5 : u (15 + 1 + 1 + c) 5 = v 1) (h6 : u (15 + 1 + 1 + c) 6 = v 2) (h7 : u (15 + 1 + 1 + c) 7 = v 3) (h8 : u (15 + 1 + 1 + c) 8 = v 4) (h9 : u (15 + 1 + 1 + c) 9 = v 5) (h10 : u (15 + 1 + 1 + c) 10 = v 6) (h11 : bI (decide (u (15 + 1 + 1 + c) 11 ≠ 0)) = v 7) : RR (c + 1) u 15 (mlRow d c kd v) := by
  obtain ⟨g1, g2, g3, g4, g5, g6, g7, g8⟩ := h
  refine ⟨by omega, hn, mlRow_n, by rw [hr 2 (by decide), mlRow_lo (by decide) (by decide) hc]; exact g4, by rw [hr 3 (by decide), mlRow_lo (by decide) (by decide) hc]; exact g5, by rw [hr 4 (by decide), mlRow_lo (by decide) (by decide) hc]; exact g6, by rw [hr 5 (by decide), mlRow_lo (by decide) (by decide) hc]; exact g7, fun j hj => ?_⟩
  by_cases hjc : j = c
  · subst hjc
    simp only [mlRow_Fc (show 0 < 10 by decide) hc, mlRow_Fc (show 1 < 10 by decide) hc, mlRow_Fc (show 2 < 10 by decide) hc, mlRow_Fc (show 3 < 10 by decide) hc, mlRow_Fc (show 4 < 10 by decide) hc, mlRow_Fc (show 5 < 10 by decide) hc, mlRow_Fc (show 6 < 10 by decide) hc, mlRow_Fc (show 7 < 10 by decide) hc, mlRow_Fc (show 8 < 10 by decide) hc, mlRow_Fc (show 9 < 10 by decide) hc, mlRow_Kc]
    exact ⟨h0, h1, h2, h3, h4, h5, h6, h7, h8, h9, h10, h11⟩
  · have hj2 : j < c := by omega
    simp only [mlRow_F hj2 (show 0 < 10 by decide) hc, mlRow_F hj2 (show 1 < 10 by decide) hc, mlRow_F hj2 (show 2 < 10 by decide) hc, mlRow_F hj2 (show 3 < 10 by decide) hc, mlRow_F hj2 (show 4 < 10 by decide) hc, mlRow_F hj2 (show 5 < 10 by decide) hc, mlRow_F hj2 (show 6 < 10 by decide) hc, mlRow_F hj2 (show 7 < 10 by decide) hc, mlRow_F hj2 (show 8 < 10 by decide) hc, mlRow_F hj2 (show 9 < 10 by decide) hc, mlRow_K hj2 hc]
    rw [ho j hj2]
    exact g8 j hj2
theorem RR.tak {c : Nat} {x : Mem} {d : Nat → Int32} (h : RR c x 15 d) {u : Mem} (ho : ∀ j, j < c → u (15 + 1 + 1 + j) = x (15 + 1 + 1 + j)) (a b : Int32) : takB u 15 c a b = takR d c a b := by
  unfold takB takR
  rw [allN_congr c (fun j hj => by rw [ho j hj, h.xx hj, h.yy hj])]
/-- reading mills on and on -/
abbrev RS := (Nat × Int32) × Nat × (Nat → Int32)
def mlNx (f : Nat → Int32) (t : Nat) (g : RS) : RS := (mlS f t g.1 g.2.1 g.2.2, g.2.1 + 1, mlW f t g.1 g.2.1 g.2.2)
def mlRun (f : Nat → Int32) (t : Nat) : Nat → RS → RS
  | 0, g => g
  | k + 1, g => if g.1.2 = 0 ∧ tkI f t g.1.1 ≠ 0 then mlRun f t k (mlNx f t g) else g
def lawR (f : Nat → Int32) (t : Nat) (s : Nat × Int32) : Nat → Int32 := fun k => if k = 2 then tvI f t (lw1 f t s).1 else if k = 3 then tvI f t (lw2 f t s).1 else if k = 4 then tvI f t (lw3 f t s).1 else 0
def rd0 (f : Nat → Int32) (t : Nat) : RS := (lw5 f t (0, 0), 0, lawR f t (0, 0))
def rdF (f : Nat → Int32) (t : Nat) : RS := mlRun f t 8 (mlNx f t (rd0 f t))
theorem mlRun_go {f : Nat → Int32} {t k : Nat} {g : RS} (h1 : g.1.2 = 0) (h2 : tkI f t g.1.1 ≠ 0) : mlRun f t (k + 1) g = mlRun f t k (mlNx f t g) := if_pos ⟨h1, h2⟩
theorem mlRun_w {f : Nat → Int32} {t : Nat} {g : RS} (h1 : g.1.2 ≠ 0) : ∀ k, mlRun f t k g = g
  | 0 => rfl
  | _ + 1 => if_neg fun z => h1 z.1
theorem mlRun_e {f : Nat → Int32} {t : Nat} {g : RS} (h1 : tkI f t g.1.1 = 0) : ∀ k, mlRun f t k g = g
  | 0 => rfl
  | _ + 1 => if_neg fun z => z.2 h1
theorem RR.cells {n ρ : Nat} {x u : Mem} {nw : Nat → Int32} (h : RR n x ρ nw) (ho : ∀ a, ρ ≤ a → a < ρ + 10 → u a = x a) : RR n u ρ nw := by
  obtain ⟨h1, h2, h3, h4, h5, h6, h7, h8⟩ := h
  have hρ : u ρ = x ρ := ho ρ (by omega) (by omega)
  refine ⟨h1, by rw [hρ]; exact h2, h3, by rw [hρ]; exact h4, by rw [hρ]; exact h5, by rw [hρ]; exact h6, by rw [hρ]; exact h7, fun j hj => ?_⟩
  rw [ho (ρ + 1 + 1 + j) (by omega) (by omega)]
  exact h8 j hj
theorem mlNx_le {f : Nat → Int32} {t : Nat} {g : RS} (h : g.1.1 ≤ t) : (mlNx f t g).1.1 ≤ t := mlS_le h
theorem lw5_le {f : Nat → Int32} {t : Nat} {s : Nat × Int32} (h : s.1 ≤ t) : (lw5 f t s).1 ≤ t := stB_le (stN_le (stN_le (stN_le (stB_le h))))
