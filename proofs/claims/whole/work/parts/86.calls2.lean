/-! CALL BY CALL: mills, hours -/
section QM
variable {x y u u' : Mem} {r r' : Int32} {n : Nat}
theorem bit_id {s : Int32} (h : 0 ≤ s ∧ s ≤ 1) : bI (decide (bI (decide (s = 1)) ≠ 0)) = s := by
  have h2 := within_nI (k := 1) (v := s) (K := 1) rfl (by decide) (by rw [decide_eq_true h.1, decide_eq_true h.2]; rfl)
  rw [h2.1]
  generalize tn s = k at h2
  have : ∀ k, k < 2 → bI (decide (bI (decide (nI k = 1)) ≠ 0)) = nI k := by decide +kernel
  exact this k (by omega)
theorem q_furl {m s : Int32} (hL : Rel x y) (hR : RR n x 5 (y 5)) (hG : RG n (y 5)) (h : PT_X7_furl x m s n (y 5) r u) (h' : PT_X8_furl y m s n r' u') : r = r' ∧ Rel u u' := by
  obtain ⟨hcx, hcy, hn8⟩ := hR.ge
  unfold PT_X7_furl at h
  unfold PT_X8_furl at h'
  rw [hcx] at h
  refine tw_ff h h' (fun _ h h' => q_0 h h' hL) (fun c1 h h' => ?_)
  refine tw_tt h h' (fun _ h h' => q_0 h h' hL) (fun c2 h h' => ?_)
  have hm := (hasM rfl hn8 c1).2
  refine ⟨h.1.trans ((hR.fu hm).trans h'.1.symm), ?_⟩
  rw [h.2, h'.2]
  exact hL.setF hR hG hm (k := 7) (by decide) (bit_id (bt2 c2)) (fun z => absurd z (by decide)) (by decide) (fun z => absurd z (by decide))
theorem q_face {m q : Int32} (hL : Rel x y) (hR : RR n x 5 (y 5)) (hG : RG n (y 5)) (h : PT_X7_face x m q n (y 5) r u) (h' : PT_X8_face y m q n r' u') : r = r' ∧ Rel u u' := by
  obtain ⟨hcx, hcy, hn8⟩ := hR.ge
  unfold PT_X7_face at h
  unfold PT_X8_face at h'
  rw [hcx] at h
  refine tw_ff h h' (fun _ h h' => q_0 h h' hL) (fun c1 h h' => ?_)
  refine tw_tt h h' (fun _ h h' => q_0 h h' hL) (fun c2 h h' => ?_)
  have hm := (hasM rfl hn8 c1).2
  rw [hR.kd hm] at h
  refine tw_pp h h' (fun _ h h' => q_0 h h' hL) (fun c3 h h' => ?_)
  refine ⟨h.1.trans ((hR.fa hm).trans h'.1.symm), ?_⟩
  rw [h.2, h'.2]
  exact hL.setF hR hG hm (k := 6) (by decide) rfl (fun z => absurd z (by decide)) (by decide) (fun z => absurd z (by decide))
theorem inc9 {a : Int32} (h : a < 9) : a + 1 ≤ 9 := by
  have h1 := Int32.lt_iff_toInt_lt.mp h
  have h2 := Int32.le_toInt a
  rw [show (9 : Int32).toInt = 9 from rfl] at h1
  apply Int32.le_iff_toInt_le.mpr
  rw [Int32.toInt_add, show (9 : Int32).toInt = 9 from rfl, show (1 : Int32).toInt = 1 from rfl, bm32 (by omega) (by omega)]
  omega
theorem q_build {m : Int32} (hL : Rel x y) (hR : RR n x 5 (y 5)) (hG : RG n (y 5)) (h : PT_X7_build x m n (y 5) r u) (h' : PT_X8_build y m n r' u') : r = r' ∧ Rel u u' := by
  obtain ⟨hcx, hcy, hn8⟩ := hR.ge
  unfold PT_X7_build at h
  unfold PT_X8_build at h'
  rw [hcx] at h
  refine tw_tt h h' (fun _ h h' => q_0 h h' hL) (fun c1 h h' => ?_)
  have hm := (hasM rfl hn8 c1).2
  rw [hR.fl hm] at h
  have h9 := (hG.2 _ hm).2.1
  refine on_p h (fun c2 h => ?_) (fun c2 h => ?_)
  · have c3 : ¬ sF (y 5) (tn m) 0 = 9 := fun z => by rw [z] at c2; exact Int32.lt_irrefl c2
    rw [if_neg c3] at h'
    refine ⟨h.1.trans h'.1.symm, ?_⟩
    rw [h.2, h'.2, h.1]
    exact hL.setF hR hG hm (k := 0) (by decide) rfl (fun _ => inc9 c2) (by decide) (fun z => absurd z (by decide))
  · have c3 : sF (y 5) (tn m) 0 = 9 := Int32.le_antisymm h9 (Int32.not_lt.mp c2)
    rw [if_pos c3] at h'
    exact q_0 h h' hL
theorem jmin_in {a k : Int32} (h : 0 ≤ a ∧ a ≤ 99999) (hk : 0 ≤ k ∧ k ≤ 999) : 0 ≤ jmin (a + k) 99999 ∧ jmin (a + k) 99999 ≤ 99999 := by
  have h1 := ti2 h
  have h2 := ti2 hk
  have e : (a + k).toInt = a.toInt + k.toInt := by
    rw [Int32.toInt_add]
    have z1 : (0 : Int32).toInt = 0 := rfl
    have z2 : (99999 : Int32).toInt = 99999 := rfl
    have z3 : (999 : Int32).toInt = 999 := rfl
    exact bm32 (by omega) (by omega)
  unfold jmin
  split
  · exact ⟨by decide, by decide⟩
  · rename_i c
    refine ⟨Int32.le_iff_toInt_le.mpr ?_, Int32.not_lt.mp c⟩
    rw [e]
    have z1 : (0 : Int32).toInt = 0 := rfl
    omega
theorem q_bring {m k : Int32} (hL : Rel x y) (hR : RR n x 5 (y 5)) (hG : RG n (y 5)) (h : PT_X7_bring x m k n (y 5) r u) (h' : PT_X8_bring y m k n r' u') : r = r' ∧ Rel u u' := by
  obtain ⟨hcx, hcy, hn8⟩ := hR.ge
  unfold PT_X7_bring at h
  unfold PT_X8_bring at h'
  rw [hcx] at h
  refine tw_ff h h' (fun _ h h' => q_0 h h' hL) (fun c1 h h' => ?_)
  refine tw_tt h h' (fun _ h h' => q_0 h h' hL) (fun c2 h h' => ?_)
  have hm := (hasM rfl hn8 c1).2
  rw [hR.co hm] at h
  refine ⟨h.1.trans h'.1.symm, ?_⟩
  rw [h.2, h'.2, h.1]
  exact hL.setF hR hG hm (k := 3) (by decide) rfl (fun z => absurd z (by decide)) (by decide) (fun _ => jmin_in (hG.2 _ hm).2.2.2 (bt2 c2))
theorem q_hour {q w : Int32} (hL : Rel x y) (hR : RR n x 5 (y 5)) (hG : RG n (y 5)) (h : PT_X7_hour x q w n (y 5) r u) (h' : PT_X8_hour y q w n r' u') : r = r' ∧ Rel u u' := by
  obtain ⟨hcx, hcy, hn8⟩ := hR.ge
  unfold PT_X7_hour at h
  unfold PT_X8_hour at h'
  rw [hcx] at h
  rw [hcy] at h'
  refine tw_ff h h' (fun c0 h h' => ?_) (fun _ h h' => q_0 h h' hL)
  refine tw_tf h h' (fun _ h h' => q_0 h h' hL) (fun c1 h h' => ?_)
  have hw := wnd2 c1
  obtain ⟨g1, g2, g3⟩ := h
  obtain ⟨e1, e2, e3⟩ := h'
  refine ⟨g1.trans e1.symm, ?_⟩
  have zo : ∀ a, a < 5 ∨ (15 ≤ a ∧ a < 65) → u a = x a := fun a h9 => g3 a (by omega) (by omega)
  obtain ⟨a1, a2, a3, a4, a5, a6, a7⟩ := hL
  have wo : ∀ a, a ≠ 5 → a < 11 → u' a = y a := fun a h5 h9 => e3 a h5 (by omega) (by omega)
  exact ⟨a1.keep (fun a9 _ _ => zo a9 (by omega)) (wo 1 (by decide) (by decide)) (wo 2 (by decide) (by decide)) (wo 3 (by decide) (by decide)), a2.keep (zo 3 (by decide)) (zo 4 (by decide)) (by rw [wo 0 (by decide) (by decide)]) (wo 4 (by decide) (by decide)), by rw [zo 0 (by decide), wo 0 (by decide) (by decide)]; exact a3, by rw [zo 0 (by decide), wo 0 (by decide) (by decide)]; exact a4, a5.keep (zo 27 (by decide)) (zo 28 (by decide)) (by rw [wo 0 (by decide) (by decide)]) (wo 9 (by decide) (by decide)), ⟨n, by rw [e2]; exact g2, by rw [e2]; exact hour_rg hG hn8 hw.2⟩, a7.keep (fun a9 _ _ => zo a9 (by omega)) (wo 6 (by decide) (by decide)) (wo 7 (by decide) (by decide))⟩
theorem hrsB_cg {f g : Nat → Int32} {i k : Nat} (h : ∀ j, j < k → f (i + j) = g (i + j)) : hrsB f i k = hrsB g i k := by
  unfold hrsB
  exact allN_congr k (fun j hj => by rw [h j hj])
theorem hrsNw_cg {nw f g : Nat → Int32} {i : Nat} : ∀ k, (∀ j, j < k → f (i + j) = g (i + j)) → hrsNw nw n f i k = hrsNw nw n g i k
  | 0, _ => rfl
  | k + 1, h => by rw [hrsNw, hrsNw, hrsNw_cg k (fun j hj => h j (by omega)), h k (by omega)]
theorem hrsS_cg {nw f g : Nat → Int32} {i : Nat} : ∀ k, (∀ j, j < k → f (i + j) = g (i + j)) → hrsS nw n f i k = hrsS nw n g i k
  | 0, _ => rfl
  | k + 1, h => by rw [hrsS, hrsS, hrsS_cg k (fun j hj => h j (by omega)), hrsNw_cg k (fun j hj => h j (by omega)), h k (by omega)]
theorem q_hours {a i nh : Int32} (hL : Rel x y) (hR : RR n x 5 (y 5)) (hG : RG n (y 5)) (h : PT_X7_hours x a i nh n (y 5) r u) (h' : PT_X8_hours y a i nh n r' u') : r = r' ∧ Rel u u' := by
  obtain ⟨hcx, hcy, hn8⟩ := hR.ge
  unfold PT_X7_hours at h
  unfold PT_X8_hours at h'
  rw [hcx] at h
  rw [hcy] at h'
  refine tw_ff h h' (fun c0 h h' => ?_) (fun _ h h' => q_0 h h' hL)
  refine tw_ff h h' (fun _ h h' => q_0 h h' hL) (fun c1 h h' => ?_)
  refine tw_tt h h' (fun _ h h' => q_0 h h' hL) (fun c2 h h' => ?_)
  have ha := isR c1
  have hw := hL.1 (tn a) ha
  rw [hw.mis] at h
  refine tw_ff h h' (fun c3 h h' => ?_) (fun _ h h' => q_1 h h' hL)
  obtain ⟨⟨p1, p2⟩, ⟨sz, s1, s2, s3⟩, p3⟩ := hw.is c3
  rw [s2] at h
  rw [s3] at h'
  refine tw_tt h h' (fun _ h h' => q_1 h h' hL) (fun c4 h h' => ?_)
  obtain ⟨-, -, hik⟩ := wiN rfl s1 c4
  have hcg : ∀ j, j < tn nh → x (29 + 2 * tn a + 1) (tn i + j) = (fun j9 => y 3 (40 * tn a + j9)) (tn i + j) := fun j hj => p3 _ (by omega)
  rw [hrsB_cg (g := fun j9 => y 3 (40 * tn a + j9)) hcg, hrsS_cg (g := fun j9 => y 3 (40 * tn a + j9)) _ hcg, hrsNw_cg (g := fun j9 => y 3 (40 * tn a + j9)) _ hcg] at h
  refine tw_tt h h' (fun _ h h' => q_0 h h' hL) (fun c5 h h' => ?_)
  obtain ⟨hr, z, ⟨g2, g3⟩, rfl⟩ := h
  obtain ⟨hr', w, ⟨e2, e3⟩, rfl⟩ := h'
  refine ⟨hr.trans hr'.symm, Rel.st ?_⟩
  have zo : ∀ a, a < 5 ∨ (15 ≤ a ∧ a < 65) → z a = x a := fun a h9 => g3 a (by omega) (by omega)
  have wo : ∀ a, a ≠ 5 → a < 11 → w a = y a := fun a h5 h9 => e3 a h5 (by omega) (by omega)
  obtain ⟨a1, a2, a3, a4, a5, a6, a7⟩ := hL
  exact ⟨a1.keep (fun a9 _ _ => zo a9 (by omega)) (wo 1 (by decide) (by decide)) (wo 2 (by decide) (by decide)) (wo 3 (by decide) (by decide)), a2.keep (zo 3 (by decide)) (zo 4 (by decide)) (by rw [wo 0 (by decide) (by decide)]) (wo 4 (by decide) (by decide)), by rw [zo 0 (by decide), wo 0 (by decide) (by decide)]; exact a3, by rw [zo 0 (by decide), wo 0 (by decide) (by decide)]; exact a4, a5.keep (zo 27 (by decide)) (zo 28 (by decide)) (by rw [wo 0 (by decide) (by decide)]) (wo 9 (by decide) (by decide)), ⟨n, by rw [e2]; exact g2, by rw [e2]; exact hrs_rg hG hn8 _ c5⟩, a7.keep (fun a9 _ _ => zo a9 (by omega)) (wo 6 (by decide) (by decide)) (wo 7 (by decide) (by decide))⟩
theorem q_mill {m a : Int32} (hL : Rel x y) (hR : RR n x 5 (y 5)) (h : PT_X7_mill x m a n (y 5) r u) (h' : PT_X8_mill y m a n r' u') : r = r' ∧ Rel u u' := by
  obtain ⟨hcx, hcy, hn8⟩ := hR.ge
  unfold PT_X7_mill at h
  unfold PT_X8_mill at h'
  rw [hcx] at h
  refine tw_tf h h' (fun _ h h' => q_0 h h' hL) (fun c1 h h' => ?_)
  have hm := (hasM rfl hn8 c1).2
  rw [hR.fl hm, hR.sa hm, hR.ag hm, hR.co hm, hR.fo hm, hR.we hm, hR.fa hm, hR.fu hm, hR.xx hm, hR.yy hm] at h
  by_cases c2 : (decide (0 ≤ a) && decide (a ≤ 9)) = true
  · rw [if_neg (ne_of_true c2)] at h'
    have ha := within_nI (k := 9) rfl (by decide) c2
    rw [ha.1] at h
    generalize tn a = k at h h' ha
    obtain ⟨-, hk⟩ := ha
    have hk2 : k = 0 ∨ k = 1 ∨ k = 2 ∨ k = 3 ∨ k = 4 ∨ k = 5 ∨ k = 6 ∨ k = 7 ∨ k = 8 ∨ k = 9 := by omega
    rcases hk2 with rfl | rfl | rfl | rfl | rfl | rfl | rfl | rfl | rfl | rfl
    · exact q_0 h h' hL
    · exact q_0 h h' hL
    · exact q_0 h h' hL
    · exact q_0 h h' hL
    · exact q_0 h h' hL
    · exact q_0 h h' hL
    · exact q_0 h h' hL
    · exact q_0 h h' hL
    · exact q_0 h h' hL
    · exact q_0 h h' hL
  · rw [if_pos (Bool.eq_false_iff.mpr c2)] at h'
    have hn : ∀ k : Nat, k < 10 → ¬ a = nI k := fun k hk z => c2 (by rw [z]; exact (by decide : ∀ k, k < 10 → (decide (0 ≤ nI k) && decide (nI k ≤ 9)) = true) k hk)
    rw [if_neg (show ¬ a = 0 from hn 0 (by decide)), if_neg (show ¬ a = 1 from hn 1 (by decide)), if_neg (show ¬ a = 2 from hn 2 (by decide)), if_neg (show ¬ a = 3 from hn 3 (by decide)), if_neg (show ¬ a = 4 from hn 4 (by decide)), if_neg (show ¬ a = 5 from hn 5 (by decide)), if_neg (show ¬ a = 6 from hn 6 (by decide)), if_neg (show ¬ a = 7 from hn 7 (by decide)), if_neg (show ¬ a = 8 from hn 8 (by decide)), if_neg (show ¬ a = 9 from hn 9 (by decide))] at h
    exact q_0 h h' hL
theorem q_left {m q w wh : Int32} (hL : Rel x y) (hR : RR n x 5 (y 5)) (h : PT_X7_left x m q w wh n (y 5) r u) (h' : PT_X8_left y m q w wh n r' u') : r = r' ∧ Rel u u' := by
  obtain ⟨hcx, hcy, hn8⟩ := hR.ge
  unfold PT_X7_left at h
  unfold PT_X8_left at h'
  rw [hcx] at h
  refine tw_ff h h' (fun _ h h' => q_0 h h' hL) (fun c1 h h' => ?_)
  refine tw_ff h h' (fun _ h h' => q_0 h h' hL) (fun c2 h h' => ?_)
  refine tw_tt h h' (fun _ h h' => q_0 h h' hL) (fun c3 h h' => ?_)
  exact tw_pp h h' (fun _ h h' => q_Q h h' hL) (fun _ h h' => q_Q h h' hL)
theorem q_made {q w s : Int32} (hL : Rel x y) (hR : RR n x 5 (y 5)) (h : PT_X7_made x q w s n (y 5) r u) (h' : PT_X8_made y q w s n r' u') : r = r' ∧ Rel u u' := by
  obtain ⟨hcx, hcy, hn8⟩ := hR.ge
  unfold PT_X7_made at h
  unfold PT_X8_made at h'
  rw [hcx] at h
  rw [hcy] at h'
  refine tw_ff h h' (fun c0 h h' => ?_) (fun _ h h' => q_0 h h' hL)
  refine tw_ff h h' (fun _ h h' => q_0 h h' hL) (fun c1 h h' => ?_)
  exact tw_tf h h' (fun _ h h' => q_0 h h' hL) (fun c2 h h' => q_Q h h' hL)
theorem q_best {q w wh : Int32} (hL : Rel x y) (hR : RR n x 5 (y 5)) (h : PT_X7_best x q w wh n (y 5) r u) (h' : PT_X8_best y q w wh n r' u') : r = r' ∧ Rel u u' := by
  obtain ⟨hcx, hcy, hn8⟩ := hR.ge
  unfold PT_X7_best at h
  unfold PT_X8_best at h'
  rw [hcx] at h
  rw [hcy] at h'
  refine tw_ff h h' (fun c0 h h' => ?_) (fun _ h h' => q_0 h h' hL)
  refine tw_ff h h' (fun _ h h' => q_0 h h' hL) (fun c1 h h' => ?_)
  refine tw_tt h h' (fun _ h h' => q_0 h h' hL) (fun c2 h h' => ?_)
  exact tw_pp h h' (fun _ h h' => q_Q h h' hL) (fun _ h h' => q_Q h h' hL)
theorem q_part {q w m : Int32} (hL : Rel x y) (hR : RR n x 5 (y 5)) (h : PT_X7_part x q w m n (y 5) r u) (h' : PT_X8_part y q w m n r' u') : r = r' ∧ Rel u u' := by
  obtain ⟨hcx, hcy, hn8⟩ := hR.ge
  unfold PT_X7_part at h
  unfold PT_X8_part at h'
  rw [hcx] at h
  rw [Int32.add_zero] at h'
  refine tw_ff h h' (fun _ h h' => q_0 h h' hL) (fun c1 h h' => ?_)
  refine tw_tt h h' (fun _ h h' => q_0 h h' hL) (fun c2 h h' => ?_)
  refine tw_pp h h' (fun c3 h h' => ?_) (fun _ h h' => q_Q h h' hL)
  exact tw_pp h h' (fun _ h h' => q_Q h h' hL) (fun _ h h' => q_Q h h' hL)
theorem pw_bit {a b : Nat} (h : a ≠ b) : (2 ^ a).testBit b = false := by
  rw [Nat.testBit_two_pow]
  exact decide_eq_false h
theorem q_still {q w a b wh : Int32} (hL : Rel x y) (hR : RR n x 5 (y 5)) (hG : RG n (y 5)) (h : PT_X7_still x q w a b wh n (y 5) r u) (h' : PT_X8_still y q w a b wh n r' u') : r = r' ∧ Rel u u' := by
  obtain ⟨hcx, hcy, hn8⟩ := hR.ge
  unfold PT_X7_still at h
  unfold PT_X8_still at h'
  rw [hcx] at h
  refine tw_ff h h' (fun _ h h' => q_0 h h' hL) (fun c1 h h' => ?_)
  refine tw_ff h h' (fun _ h h' => q_0 h h' hL) (fun c2 h h' => ?_)
  refine tw_ff h h' (fun _ h h' => q_0 h h' hL) (fun c3 h h' => ?_)
  refine tw_pp h h' (fun _ h h' => q_0 h h' hL) (fun c4 h h' => ?_)
  refine tw_tt h h' (fun _ h h' => q_0 h h' hL) (fun c5 h h' => ?_)
  have hw := wnd2 c1
  have ha := hasM rfl hn8 c2
  have hb := hasM rfl hn8 c3
  have hab : tn a ≠ tn b := fun z => c4 (by rw [ha.1, hb.1, z])
  rw [gain_eq hG hb.2 hw.2 (pw_bit hab), loss_own hG ha.2 (by omega) hw.2] at h
  refine tw_pp h h' (fun _ h h' => q_Q h h' hL) (fun c6 h h' => ?_)
  refine tw_pp h h' (fun _ h h' => q_Q h h' hL) (fun c7 h h' => ?_)
  refine on_p h' (fun c8 h' => ?_) (fun c8 h' => ?_)
  · rw [decide_eq_false (Int32.not_le.mpr c8)] at h
    exact q_Q h h' hL
  · rw [decide_eq_true (Int32.not_lt.mp c8)] at h
    exact q_Q h h' hL
theorem q_higher {q w m wh : Int32} (hL : Rel x y) (hR : RR n x 5 (y 5)) (hG : RG n (y 5)) (h : PT_X7_higher x q w m wh n (y 5) r u) (h' : PT_X8_higher y q w m wh n r' u') : r = r' ∧ Rel u u' := by
  obtain ⟨hcx, hcy, hn8⟩ := hR.ge
  unfold PT_X7_higher at h
  unfold PT_X8_higher at h'
  rw [hcx] at h
  refine tw_ff h h' (fun _ h h' => q_0 h h' hL) (fun c1 h h' => ?_)
  refine tw_ff h h' (fun _ h h' => q_0 h h' hL) (fun c2 h h' => ?_)
  refine tw_tt h h' (fun _ h h' => q_0 h h' hL) (fun c3 h h' => ?_)
  have hm := hasM rfl hn8 c2
  have e0 : sMade (y 5) n (tn q) w 0 - sGr (y 5) n (tn m) (tn q) w 0 hNo = sOth (y 5) n (tn m) (tn q) w 0 hNo n := sum_oth (F := fun k => sGr (y 5) n k (tn q) w 0 hNo) hn8 hm.2
  have e1 : sumN (fun k => sGr (y 5) n k (tn q) w 0 (sUp (y 5) m)) n - sGr (y 5) n (tn m) (tn q) w 0 (sUp (y 5) m) = sOth (y 5) n (tn m) (tn q) w 0 (sUp (y 5) m) n := sum_oth (F := fun k => sGr (y 5) n k (tn q) w 0 (sUp (y 5) m)) hn8 hm.2
  have e2 : sMade (y 5) n (tn q) w (2 ^ tn m) = sOth (y 5) n (tn m) (tn q) w (2 ^ tn m) hNo n := by
    have z := sum_oth (F := fun k => sGr (y 5) n k (tn q) w (2 ^ tn m) hNo) hn8 hm.2
    rw [gr_own hG hm.2 (by omega), Int32.sub_zero] at z
    exact z
  rw [e0, e1, e2] at h
  by_cases c4 : wh = 0
  · subst c4
    rw [if_neg (by decide), if_pos rfl] at h
    rw [if_pos rfl] at h'
    exact q_Q h h' hL
  · rw [if_neg c4] at h'
    by_cases c5 : wh = 1
    · subst c5
      rw [if_neg (by decide), if_neg (by decide)] at h
      rw [if_pos rfl] at h'
      exact q_Q h h' hL
    · have hk := within_nI (k := 2) rfl (by decide) c3
      have c6 : wh = 2 := by
        rw [hk.1] at c4 c5 ⊢
        generalize tn wh = k at hk c4 c5 ⊢
        have hk2 : k = 0 ∨ k = 1 ∨ k = 2 := by omega
        rcases hk2 with rfl | rfl | rfl
        · exact absurd rfl c4
        · exact absurd rfl c5
        · rfl
      rw [if_pos c6] at h
      rw [if_neg c5] at h'
      exact q_Q h h' hL
theorem q_owes {q w a b : Int32} (hL : Rel x y) (hR : RR n x 5 (y 5)) (hG : RG n (y 5)) (h : PT_X7_owes x q w a b n (y 5) r u) (h' : PT_X8_owes y q w a b n r' u') : r = r' ∧ Rel u u' := by
  obtain ⟨hcx, hcy, hn8⟩ := hR.ge
  unfold PT_X7_owes at h
  unfold PT_X8_owes at h'
  rw [hcx] at h
  refine tw_ff h h' (fun _ h h' => q_0 h h' hL) (fun c1 h h' => ?_)
  refine tw_ff h h' (fun _ h h' => q_0 h h' hL) (fun c2 h h' => ?_)
  refine tw_ff h h' (fun _ h h' => q_0 h h' hL) (fun c3 h h' => ?_)
  refine tw_pp h h' (fun _ h h' => q_0 h h' hL) (fun c4 h h' => ?_)
  have hw := wnd2 c1
  have ha := hasM rfl hn8 c2
  have hb := hasM rfl hn8 c3
  have hab : tn a ≠ tn b := fun z => c4 (by rw [ha.1, hb.1, z])
  rw [gain_eq hG hb.2 hw.2 (pw_bit hab)] at h
  revert h h'
  cases sTakes (y 5) (tn a) (tn q) 0 <;> cases decide (sF (y 5) (tn a) 2 < sF (y 5) (tn b) 2) <;> cases sBehind (y 5) (tn b) (tn a) (tn q) hNo <;> exact fun h h' => q_Q h h' hL
theorem nightR_cg {F F' : Nat → Bool} {i : Int32} : ∀ N, (∀ s, s < N → F s = F' s) → nightR F i N = nightR F' i N
  | 0, _ => rfl
  | N + 1, h => by rw [nightR, nightR, nightR_cg N (fun s hs => h s (by omega)), h N (by omega), cntN_congr N (fun s hs => h s (by omega))]
theorem nightV_cg {F F' : Nat → Bool} {i : Int32} {N : Nat} (h : ∀ s, s < N → F s = F' s) : nightV F i N = nightV F' i N := by
  unfold nightV
  rw [nightR_cg N h, cntN_congr N h]
theorem furl_set {s : Nat} {p : Nat → Bool} (hn : n ≤ 8) : decide (nI s &&& nI (maskN p n) = 0) = allN (fun j => !s.testBit j || !p j) n := by
  rw [nI_and]
  have hlt : s &&& maskN p n < 256 := Nat.lt_of_le_of_lt Nat.and_le_right (maskN_lt8 p hn)
  have e : nI (s &&& maskN p n) = 0 ↔ s &&& maskN p n = 0 := n_eq (b := 0) rfl rfl (by omega) (by decide)
  rw [decide_eq_decide.mpr e]
  cases hA : allN (fun j => !s.testBit j || !p j) n with
  | true =>
    apply decide_eq_true
    apply Nat.eq_of_testBit_eq
    intro j
    rw [Nat.testBit_and, maskN_bit, Nat.zero_testBit]
    by_cases hj : j < n
    · have := allN_get hA hj
      rw [decide_eq_true hj]
      revert this
      cases s.testBit j <;> cases p j <;> simp
    · rw [decide_eq_false hj]
      simp
  | false =>
    apply decide_eq_false
    intro z
    have hT : allN (fun j => !s.testBit j || !p j) n = true := allN_true n (fun j hj => by
      have h1 := congrArg (fun k => Nat.testBit k j) z
      simp only [Nat.testBit_and, maskN_bit, Nat.zero_testBit, decide_eq_true hj] at h1
      revert h1
      cases s.testBit j <;> cases p j <;> simp)
    rw [hT] at hA
    exact absurd hA (by decide)
theorem q_night {q w nh a i : Int32} (hL : Rel x y) (hR : RR n x 5 (y 5)) (h : PT_X7_night x q w nh a i n (y 5) r u) (h' : PT_X8_night y q w nh a i n r' u') : r = r' ∧ Rel u u' := by
  obtain ⟨hcx, hcy, hn8⟩ := hR.ge
  unfold PT_X7_night at h
  unfold PT_X8_night at h'
  rw [hcx] at h
  rw [hcy] at h'
  refine tw_ff h h' (fun c0 h h' => ?_) (fun _ h h' => q_0 h h' hL)
  refine tw_ff h h' (fun _ h h' => q_0 h h' hL) (fun c1 h h' => ?_)
  refine tw_ff h h' (fun _ h h' => q_0 h h' hL) (fun c2 h h' => ?_)
  refine tw_ff h h' (fun _ h h' => q_0 h h' hL) (fun c3 h h' => ?_)
  refine tw_pp h h' (fun c4 h h' => ?_) (fun _ h h' => q_0 h h' hL)
  have ha := isR c3
  have hw := hL.1 (tn a) ha
  rw [hw.mis] at h
  refine tw_ff h h' (fun c5 h h' => ?_) (fun _ h h' => q_1 h h' hL)
  obtain ⟨⟨p1, p2⟩, ⟨sz, s1, s2, s3⟩, p3⟩ := hw.is c5
  rw [s2, cov0 (Int32.not_lt.mp (nI_pos (by omega)))] at h
  rw [s3] at h'
  refine on_p h' (fun c6 h' => ?_) (fun c6 h' => ?_)
  · rw [if_pos (decide_eq_true c6)] at h
    obtain ⟨hr, z, hz, rfl⟩ := h
    obtain ⟨hr', rfl⟩ := h'
    have hsz : n ≤ sz := (n_le (a := n) (b := sz) rfl rfl (by omega) (by omega)).mp c6
    have eF : ∀ s, s < 2 ^ n → nightF (y 5) n (tn q) w nh x (tn a) s = nightG (y 5) n (tn q) w nh (fun j => y 3 (40 * tn a + j)) s := fun s _ => by
      unfold nightF nightG
      rw [furl_set hn8]
      congr 1
      · refine allN_congr n (fun j hj => ?_)
        have e := hR.fu hj
        congr 1
        have e2 : sF (y 5) j 7 = 0 ↔ decide (x (5 + 1 + 1 + j) 11 ≠ 0) = false := by
          rw [← e]
          cases decide (x (5 + 1 + 1 + j) 11 ≠ 0) <;> decide
        cases hd : decide (x (5 + 1 + 1 + j) 11 ≠ 0) with
        | true => rw [hd] at e2; exact (decide_eq_false (fun q => absurd (e2.mp q) (by decide))).symm
        | false => exact (decide_eq_true (e2.mpr hd)).symm
      · exact allN_congr n (fun j hj => by rw [p3 j (by omega)])
    refine ⟨hr.trans ((nightV_cg eF).trans hr'.symm), Rel.st (hL.qu hz)⟩
  · rw [if_neg (by rw [decide_eq_false c6]; decide)] at h
    exact q_1 h h' hL
end QM
