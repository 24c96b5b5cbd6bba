/-! CALL BY CALL: years, images, kinds, asks, counts -/
section QI
variable {x y u u' : Mem} {r r' : Int32} {n : Nat}
theorem q_years {ny seed m : Int32} (hL : Rel x y) (hR : RR n x 5 (y 5)) (h : PT_X7_years x ny seed m n (y 5) r u) (h' : PT_X8_years y ny seed m n r' u') : r = r' ∧ Rel u u' := by
  obtain ⟨hcx, hcy, hn8⟩ := hR.ge
  unfold PT_X7_years at h
  unfold PT_X8_years at h'
  rw [hcx] at h
  rw [hcy] at h'
  refine tw_ff h h' (fun c0 h h' => ?_) (fun _ h h' => q_0 h h' hL)
  refine tw_ff h h' (fun _ h h' => q_0 h h' hL) (fun c1 h h' => ?_)
  refine tw_ff h h' (fun _ h h' => q_0 h h' hL) (fun c2 h h' => ?_)
  refine tw_tt h h' (fun _ h h' => q_0 h h' hL) (fun c3 h h' => ?_)
  exact ⟨h.1.trans h'.1.symm, by rw [h'.2]; exact hL.oY h.2⟩
theorem k01 {k : Int32} (h : (decide (0 ≤ k) && decide (k ≤ 1)) = true) : k = 0 ∨ k = 1 := by
  have hk := within_nI (k := 1) rfl (by decide) h
  rw [hk.1]
  generalize tn k = j at hk
  have : j = 0 ∨ j = 1 := by omega
  rcases this with rfl | rfl
  · exact Or.inl rfl
  · exact Or.inr rfl
theorem q_image {k : Int32} (hL : Rel x y) (hR : RR n x 5 (y 5)) (hG : RG n (y 5)) (h : PT_X7_image x k n (y 5) r u) (h' : PT_X8_image y k n r' u') : r = r' ∧ Rel u u' := by
  obtain ⟨hcx, hcy, hn8⟩ := hR.ge
  unfold PT_X7_image at h
  unfold PT_X8_image at h'
  rw [hcx] at h
  rw [hcy] at h'
  refine tw_tt h h' (fun _ h h' => q_0 h h' hL) (fun c0 h h' => ?_)
  refine tw_ff h h' (fun c1 h h' => ?_) (fun _ h h' => q_0 h h' hL)
  obtain ⟨hr, g2, g3⟩ := h
  obtain ⟨a1, a2, a3, a4, a5, a6, a7⟩ := hL
  rcases k01 c0 with rfl | rfl
  · rw [if_pos rfl] at h'
    obtain ⟨hr', e2, e3⟩ := h'
    have zo : ∀ a, ¬ (45 ≤ a ∧ a < 55) → u a = x a := fun a h9 => g3 a h9
    have gA : AG n (u' 6) (y 5) := AG.of93 hn8 e3
    refine ⟨hr.trans hr'.symm, a1.keep (fun a9 _ _ => zo a9 (by omega)) (e2 1 (by decide)) (e2 2 (by decide)) (e2 3 (by decide)), a2.keep (zo 3 (by decide)) (zo 4 (by decide)) (by rw [e2 0 (by decide)]) (e2 4 (by decide)), by rw [zo 0 (by decide), e2 0 (by decide)]; exact a3, by rw [zo 0 (by decide), e2 0 (by decide)]; exact a4, a5.keep (zo 27 (by decide)) (zo 28 (by decide)) (by rw [e2 0 (by decide)]) (e2 9 (by decide)), a6.keep (fun a9 _ _ => zo a9 (by omega)) (e2 5 (by decide)), fun k hk => ?_⟩
    have hk2 : k = 0 ∨ k = 1 := by omega
    rcases hk2 with rfl | rfl
    · exact ⟨n, RR.agd g2 gA ((e3 0 (by decide)).trans hcy), hG.ag gA⟩
    · obtain ⟨m, b1, b2⟩ := a7 1 (by decide)
      have e7 : u' (6 + 1) = y (6 + 1) := e2 7 (by decide)
      exact ⟨m, by rw [e7]; exact b1.cells (fun c c1 c2 => zo c (by omega)), by rw [e7]; exact b2⟩
  · rw [if_neg (by decide)] at h'
    obtain ⟨hr', e2, e3⟩ := h'
    have zo : ∀ a, ¬ (55 ≤ a ∧ a < 65) → u a = x a := fun a h9 => g3 a h9
    have gA : AG n (u' 7) (y 5) := AG.of93 hn8 e3
    refine ⟨hr.trans hr'.symm, a1.keep (fun a9 _ _ => zo a9 (by omega)) (e2 1 (by decide)) (e2 2 (by decide)) (e2 3 (by decide)), a2.keep (zo 3 (by decide)) (zo 4 (by decide)) (by rw [e2 0 (by decide)]) (e2 4 (by decide)), by rw [zo 0 (by decide), e2 0 (by decide)]; exact a3, by rw [zo 0 (by decide), e2 0 (by decide)]; exact a4, a5.keep (zo 27 (by decide)) (zo 28 (by decide)) (by rw [e2 0 (by decide)]) (e2 9 (by decide)), a6.keep (fun a9 _ _ => zo a9 (by omega)) (e2 5 (by decide)), fun k hk => ?_⟩
    have hk2 : k = 0 ∨ k = 1 := by omega
    rcases hk2 with rfl | rfl
    · obtain ⟨m, b1, b2⟩ := a7 0 (by decide)
      have e6 : u' (6 + 0) = y (6 + 0) := e2 6 (by decide)
      exact ⟨m, by rw [e6]; exact b1.cells (fun c c1 c2 => zo c (by omega)), by rw [e6]; exact b2⟩
    · exact ⟨n, RR.agd g2 gA ((e3 0 (by decide)).trans hcy), hG.ag gA⟩
theorem q_restore {k : Int32} {nk : Nat → Nat} (hL : Rel x y) (hk : ∀ k, k < 2 → RR (nk k) x (45 + 10 * k) (y (6 + k)) ∧ RG (nk k) (y (6 + k))) (h : PT_X7_restore x k nk (fun k => y (6 + k)) r u) (h' : PT_X8_restore y k r' u') : r = r' ∧ Rel u u' := by
  unfold PT_X7_restore at h
  unfold PT_X8_restore at h'
  refine tw_tt h h' (fun _ h h' => q_0 h h' hL) (fun c0 h h' => ?_)
  have hk0 := hk 0 (by decide)
  have hk1 := hk 1 (by decide)
  have fin : ∀ (j : Nat) (hj : RR (nk j) x (45 + 10 * j) (y (6 + j)) ∧ RG (nk j) (y (6 + j))) (g2 : RR (nk j) u 5 (y (6 + j))) (zo : ∀ a, ¬ (5 ≤ a ∧ a < 15) → u a = x a) (e2 : ∀ c, c ≠ 5 → u' c = y c) (e3 : ∀ i, i < 93 → u' 5 i = y (6 + j) i), Rel u u' := by
    intro j hj g2 zo e2 e3
    obtain ⟨a1, a2, a3, a4, a5, a6, a7⟩ := hL
    have gA : AG (nk j) (u' 5) (y (6 + j)) := AG.of93 hj.1.1 e3
    exact ⟨a1.keep (fun a9 _ _ => zo a9 (by omega)) (e2 1 (by decide)) (e2 2 (by decide)) (e2 3 (by decide)), a2.keep (zo 3 (by decide)) (zo 4 (by decide)) (by rw [e2 0 (by decide)]) (e2 4 (by decide)), by rw [zo 0 (by decide), e2 0 (by decide)]; exact a3, by rw [zo 0 (by decide), e2 0 (by decide)]; exact a4, a5.keep (zo 27 (by decide)) (zo 28 (by decide)) (by rw [e2 0 (by decide)]) (e2 9 (by decide)), ⟨nk j, g2.agd gA ((e3 0 (by decide)).trans hj.1.2.2.1), hj.2.ag gA⟩, a7.keep (fun a9 _ _ => zo a9 (by omega)) (e2 6 (by decide)) (e2 7 (by decide))⟩
  rcases k01 c0 with rfl | rfl
  · rw [if_pos rfl] at h'
    have e0 : x (45 + 10 * tn 0) 1 = y 6 0 := hk0.1.2.1.trans hk0.1.2.2.1.symm
    rw [e0] at h
    refine on_p h' (fun c1 h' => ?_) (fun c1 h' => ?_)
    · rw [if_neg (by rw [decide_eq_true c1]; decide)] at h
      exact q_0 h h' hL
    · rw [if_pos (decide_eq_false c1)] at h
      rw [if_pos rfl] at h'
      exact ⟨h.1.trans h'.1.symm, fin 0 hk0 h.2.1 h.2.2 h'.2.1 h'.2.2⟩
  · rw [if_neg (by decide)] at h'
    have e0 : x (45 + 10 * tn 1) 1 = y 7 0 := hk1.1.2.1.trans hk1.1.2.2.1.symm
    rw [e0] at h
    refine on_p h' (fun c1 h' => ?_) (fun c1 h' => ?_)
    · rw [if_neg (by rw [decide_eq_true c1]; decide)] at h
      exact q_0 h h' hL
    · rw [if_pos (decide_eq_false c1)] at h
      rw [if_neg (by decide)] at h'
      exact ⟨h.1.trans h'.1.symm, fin 1 hk1 h.2.1 h.2.2 h'.2.1 h'.2.2⟩
theorem q_kind {m : Int32} (hL : Rel x y) (hR : RR n x 5 (y 5)) (h : PT_X7_kind x m n (y 5) r u) (h' : PT_X8_kind y m n r' u') : r = r' ∧ Rel u u' := by
  obtain ⟨hcx, hcy, hn8⟩ := hR.ge
  unfold PT_X7_kind at h
  unfold PT_X8_kind at h'
  rw [hcx] at h
  refine tw_ff h h' (fun _ h h' => q_0 h h' hL) (fun c1 h h' => ?_)
  have hm := (hasM rfl hn8 c1).2
  rw [hR.kd hm] at h
  exact q_0 h h' hL
theorem q_as {m k : Int32} (hL : Rel x y) (hR : RR n x 5 (y 5)) (h : PT_X7_as x m k n (y 5) r u) (h' : PT_X8_as y m k n r' u') : r = r' ∧ Rel u u' := by
  obtain ⟨hcx, hcy, hn8⟩ := hR.ge
  unfold PT_X7_as at h
  unfold PT_X8_as at h'
  rw [hcx] at h
  refine tw_ff h h' (fun _ h h' => q_0 h h' hL) (fun c1 h h' => ?_)
  have hm := (hasM rfl hn8 c1).2
  rw [hR.kd hm] at h
  refine tw_tt h h' (fun _ h h' => q_0 h h' hL) (fun c2 h h' => ?_)
  exact tw_ff h h' (fun _ h h' => q_1 h h' hL) (fun _ h h' => q_1 h h' hL)
theorem RelC.push {k : Nat} {b : Int32} (h1 : x 27 1 = nI k) (h2 : y 0 12 = nI k) (h3 : ∀ i, i < k → x 28 i = y 9 i) : (pushT x k b) 27 1 = nI (k + 1) ∧ (pushR y k b) 0 12 = nI (k + 1) ∧ ∀ i, i < k + 1 → (pushT x k b) 28 i = (pushR y k b) 9 i := by
  unfold pushT pushR
  refine ⟨by rw [mst_self], by rw [mst_self], fun i hi => ?_⟩
  rw [mst_ne (show 28 ≠ 27 by decide), mst_eq, mst_ne (show 9 ≠ 0 by decide), mst_eq]
  by_cases e : i = k
  · rw [e, upd_eq, upd_eq]
  · rw [upd_ne e, upd_ne e]
    exact h3 i (by omega)
theorem push_rel : ∀ (l : List Int32) (k : Nat) (x y : Mem), x 27 1 = nI k → y 0 12 = nI k → (∀ i, i < k → x 28 i = y 9 i) → (pushL x k l) 27 1 = nI (k + l.length) ∧ (pushRL y k l) 0 12 = nI (k + l.length) ∧ ∀ i, i < k + l.length → (pushL x k l) 28 i = (pushRL y k l) 9 i := by
  intro l
  induction l with
  | nil => intro k x y h1 h2 h3; exact ⟨h1, h2, h3⟩
  | cons b bs ih =>
    intro k x y h1 h2 h3
    obtain ⟨g1, g2, g3⟩ := RelC.push (b := b) h1 h2 h3
    have h := ih (k + 1) (pushT x k b) (pushR y k b) g1 g2 g3
    have e : k + (b :: bs).length = k + 1 + bs.length := by simp; omega
    rw [e]
    exact h
theorem markT_len {k : Nat} : (markT k).length ≤ 4 := by
  unfold markT
  split
  · decide
  · split
    · decide
    · split <;> decide
theorem sizeT_len {k : Nat} : (sizeT k).length ≤ 8 := by
  have h := markT_len (k := k)
  unfold sizeT
  split
  · simp only [List.length_cons]; omega
  · split
    · decide
    · split <;> simp only [List.length_cons] <;> omega
theorem Rel.asked {l : List Int32} (hL : Rel x y) (hl : l.length ≤ 16) : Rel (pushL (mst x 27 1 0) 0 l) (pushRL (mst y 0 12 0) 0 l) := by
  obtain ⟨a1, a2, a3, a4, a5, a6, a7⟩ := hL
  have h := push_rel l 0 (mst x 27 1 0) (mst y 0 12 0) (by rw [mst_self]; rfl) (by rw [mst_self]; rfl) (fun i hi => absurd hi (Nat.not_lt_zero i))
  have zo : ∀ a, a ≠ 27 → a ≠ 28 → (pushL (mst x 27 1 0) 0 l) a = x a := fun a h1 h2 => by rw [pushL_off 0 l _ a h1 h2, mst_ne h1]
  have wo : ∀ a, a ≠ 0 → a ≠ 9 → (pushRL (mst y 0 12 0) 0 l) a = y a := fun a h1 h2 => by rw [pushRL_off 0 l _ a h1 h2, mst_ne h1]
  have ws : ∀ s, s ≠ 12 → (pushRL (mst y 0 12 0) 0 l) 0 s = y 0 s := fun s hs => by rw [pushRL_slot 0 l _ s hs, mst_eq, upd_ne hs]
  exact ⟨a1.keep (fun a9 _ _ => zo a9 (by omega) (by omega)) (wo 1 (by decide) (by decide)) (wo 2 (by decide) (by decide)) (wo 3 (by decide) (by decide)), a2.keep (zo 3 (by decide) (by decide)) (zo 4 (by decide) (by decide)) (ws 4 (by decide)) (wo 4 (by decide) (by decide)), by rw [zo 0 (by decide) (by decide), ws 6 (by decide)]; exact a3, by rw [zo 0 (by decide) (by decide), ws 3 (by decide)]; exact a4, ⟨0 + l.length, by omega, h.1, h.2.1, h.2.2⟩, a6.keep (fun a9 _ _ => zo a9 (by omega) (by omega)) (wo 5 (by decide) (by decide)), a7.keep (fun a9 _ _ => zo a9 (by omega) (by omega)) (wo 6 (by decide) (by decide)) (wo 7 (by decide) (by decide))⟩
theorem markV_cg {f g : Nat → Int32} {k : Nat} (h0 : f 0 = g 0) (h4 : f 4 = g 4) (h6 : f 6 = g 6) (h8 : f 8 = g 8) : markV f k = markV g k := by
  unfold markV
  rw [h0, h4, h6, h8]
theorem sizeV_cg {f g : Nat → Int32} {k : Nat} (h0 : f 0 = g 0) (h4 : f 4 = g 4) (h6 : f 6 = g 6) (h8 : f 8 = g 8) : sizeV f k = sizeV g k := by
  unfold sizeV
  rw [markV_cg h0 h4 h6 h8, h8]
theorem q_ask {m w : Int32} (hL : Rel x y) (hR : RR n x 5 (y 5)) (h : PT_X7_ask x m w n (y 5) r u) (h' : PT_X8_ask y m w n r' u') : r = r' ∧ Rel u u' := by
  obtain ⟨hcx, hcy, hn8⟩ := hR.ge
  unfold PT_X7_ask at h
  unfold PT_X8_ask at h'
  rw [hcx] at h
  refine tw_ff h h' (fun _ h h' => q_0 h h' hL) (fun c1 h h' => ?_)
  have hm := (hasM rfl hn8 c1).2
  refine tw_tt h h' (fun _ h h' => q_0 h h' hL) (fun c2 h h' => ?_)
  have ek : x (5 + 1 + 1 + tn m) 1 = y 5 (85 + tn m) := hR.kd hm
  have f0 : x (5 + 1 + 1 + tn m) 0 = mR (y 5) (tn m) 0 := hR.nu hm
  have f4 : x (5 + 1 + 1 + tn m) 4 = mR (y 5) (tn m) 4 := hR.fl hm
  have f6 : x (5 + 1 + 1 + tn m) 6 = mR (y 5) (tn m) 6 := hR.ag hm
  have f8 : x (5 + 1 + 1 + tn m) 8 = mR (y 5) (tn m) 8 := hR.fo hm
  rw [ek, sizeV_cg f0 f4 f6 f8, markV_cg f0 f4 f6 f8] at h
  refine on_p h' (fun c3 h' => ?_) (fun c3 h' => ?_)
  · rw [if_pos c3, if_pos c3] at h
    refine ⟨h.1.trans h'.1.symm, ?_⟩
    rw [h.2, h'.2]
    exact hL.asked (Nat.le_trans sizeT_len (by decide))
  · rw [if_neg c3, if_neg c3] at h
    refine ⟨h.1.trans h'.1.symm, ?_⟩
    rw [h.2, h'.2]
    exact hL.asked (Nat.le_trans markT_len (by decide))
theorem q_trace {i : Int32} {k : Nat} (hL : Rel x y) (hk : x 27 1 = nI k) (hk16 : k ≤ 16) (hT : ∀ i, i < k → x 28 i = y 9 i) (h : PT_X7_trace x i k r u) (h' : PT_X8_trace y i k r' u') : r = r' ∧ Rel u u' := by
  unfold PT_X7_trace at h
  unfold PT_X8_trace at h'
  rw [hk] at h
  by_cases c1 : i < 0
  · rw [if_pos c1] at h
    rw [if_pos (by rw [decide_eq_false (Int32.not_le.mpr c1)]; rfl)] at h'
    exact q_0 h h' hL
  · rw [if_neg c1] at h
    by_cases c2 : nI k ≤ i
    · rw [if_pos c2] at h
      rw [if_pos (by rw [decide_eq_false (Int32.not_lt.mpr c2), Bool.and_false])] at h'
      exact q_0 h h' hL
    · rw [if_neg c2] at h
      have c3 : (decide (0 ≤ i) && decide (i < nI k)) = true := by rw [decide_eq_true (Int32.not_lt.mp c1), decide_eq_true (Int32.not_le.mp c2)]; rfl
      rw [if_neg (ne_of_true c3)] at h'
      have hi := hasM9 (n := k) (by omega) c3 rfl
      rw [hT _ hi.2] at h
      exact q_0 h h' hL
theorem sum_cnt {f : Nat → Int32} {p : Nat → Bool} : ∀ n, (∀ j, j < n → f j = bI (p j)) → sumN f n = nI (cntN p n)
  | 0, _ => rfl
  | n + 1, h => by
    rw [sumN, cntN, sum_cnt n (fun j hj => h j (by omega)), h n (by omega)]
    cases p n
    · exact Int32.add_zero _
    · exact n_add (y := 1) (b := 1) rfl rfl
theorem q_count {w : Int32} (hL : Rel x y) (hR : RR n x 5 (y 5)) (h : PT_X7_count x w n (y 5) r u) (h' : PT_X8_count y w n r' u') : r = r' ∧ Rel u u' := by
  obtain ⟨hcx, hcy, hn8⟩ := hR.ge
  unfold PT_X7_count at h
  unfold PT_X8_count at h'
  have e0 : cntN (fun j => !decide (x (29 + 2 * j) 2 = -1)) 8 = cntN (fun j => !decide (y 1 j < 0)) 8 := cntN_congr 8 (fun j hj => by rw [(hL.1 j hj).mis])
  have e2 : x 5 2 = y 5 1 := hR.2.2.2.1
  have e4 : bcI (nI (maskN (fun j => decide (x (5 + 1 + 1 + j) 11 ≠ 0)) n)) = sumN (fun j => sF (y 5) j 7) n := by
    rw [bc_mask _ hn8]
    exact (sum_cnt n (fun j hj => (hR.fu hj).symm)).symm
  have e5 : x 3 1 = y 0 4 := by
    obtain ⟨t, -, b, c, -⟩ := hL.2.1
    rw [b, c]
  rw [e0, hcx, e2, e4, e5] at h
  rw [hcy] at h'
  refine tw_pp h h' (fun _ h h' => q_0 h h' hL) (fun _ h h' => ?_)
  refine tw_pp h h' (fun _ h h' => q_0 h h' hL) (fun _ h h' => ?_)
  refine tw_pp h h' (fun _ h h' => q_0 h h' hL) (fun _ h h' => ?_)
  refine tw_pp h h' (fun _ h h' => q_0 h h' hL) (fun _ h h' => ?_)
  refine tw_pp h h' (fun _ h h' => q_0 h h' hL) (fun _ h h' => ?_)
  exact tw_pp h h' (fun _ h h' => q_0 h h' hL) (fun _ h h' => q_0 h h' hL)
theorem q_fault (hL : Rel x y) (h : r = x 0 7 ∧ u = x) (h' : r' = y 0 6 ∧ u' = y) : r = r' ∧ Rel u u' := ⟨h.1.trans (hL.2.2.1.trans h'.1.symm), by rw [h.2, h'.2]; exact hL⟩
theorem q_status (hL : Rel x y) (h : r = x 0 8 ∧ u = x) (h' : r' = y 0 3 ∧ u' = y) : r = r' ∧ Rel u u' := ⟨h.1.trans (hL.2.2.2.1.trans h'.1.symm), by rw [h.2, h'.2]; exact hL⟩
/-- as they begin -/
def x0 : Mem := fun a k => if 29 ≤ a ∧ a < 45 ∧ a % 2 = 1 ∧ k = 2 then -1 else 0
def y0 : Mem := fun a k => if a = 1 ∧ k < 8 then -1 else 0
theorem rel_0 : Rel x0 y0 := by
  have ez : ∀ a k, ¬ (29 ≤ a ∧ a < 45 ∧ a % 2 = 1 ∧ k = 2) → x0 a k = 0 := fun a k h => if_neg h
  have ew : ∀ a k, ¬ (a = 1 ∧ k < 8) → y0 a k = 0 := fun a k h => if_neg h
  have rr : ∀ ρ b, (ρ < 29 ∨ 45 ≤ ρ) → b ≠ 1 → RR 0 x0 ρ (y0 b) := fun ρ b hρ hb => ⟨by decide, ez _ _ (by omega), ew _ _ (by omega), (ez _ _ (by omega)).trans (ew _ _ (by omega)).symm, (ez _ _ (by omega)).trans (ew _ _ (by omega)).symm, (ez _ _ (by omega)).trans (ew _ _ (by omega)).symm, (ez _ _ (by omega)).trans (ew _ _ (by omega)).symm, fun j hj => absurd hj (Nat.not_lt_zero j)⟩
  have rg : ∀ b, b ≠ 1 → RG 0 (y0 b) := fun b hb => ⟨by rw [ew b 2 (by omega)]; decide, fun j hj => absurd hj (Nat.not_lt_zero j)⟩
  refine ⟨fun r hr => Or.inl ⟨if_pos (by omega), ?_⟩, ⟨0, by decide, ez _ _ (by omega), ew _ _ (by omega), fun k hk => absurd hk (Nat.not_lt_zero k)⟩, (ez _ _ (by omega)).trans (ew _ _ (by omega)).symm, (ez _ _ (by omega)).trans (ew _ _ (by omega)).symm, ⟨0, by decide, ez _ _ (by omega), ew _ _ (by omega), fun k hk => absurd hk (Nat.not_lt_zero k)⟩, ⟨0, rr 5 5 (by decide) (by decide), rg 5 (by decide)⟩, fun k hk => ⟨0, rr (45 + 10 * k) (6 + k) (by omega) (by omega), rg (6 + k) (by omega)⟩⟩
  rw [show y0 1 r = -1 from if_pos ⟨rfl, hr⟩]
  decide
end QI
