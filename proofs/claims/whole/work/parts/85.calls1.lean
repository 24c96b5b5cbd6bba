/-! CALL BY CALL, class and reference answer alike, and stay related: rows, the tape -/
section TWIN
variable {b : Bool} {A1 A2 B1 B2 G c : Prop}
theorem tw_ff (h : if b = false then A1 else A2) (h' : if b = false then B1 else B2) (kf : b = false → A1 → B1 → G) (kt : b = true → A2 → B2 → G) : G := by
  cases b with
  | false => exact kf rfl h h'
  | true => exact kt rfl h h'
theorem tw_tt (h : if b = true then A1 else A2) (h' : if b = true then B1 else B2) (kf : b = false → A2 → B2 → G) (kt : b = true → A1 → B1 → G) : G := by
  cases b with
  | false => exact kf rfl h h'
  | true => exact kt rfl h h'
theorem tw_ft (h : if b = false then A1 else A2) (h' : if b = true then B1 else B2) (kf : b = false → A1 → B2 → G) (kt : b = true → A2 → B1 → G) : G := by
  cases b with
  | false => exact kf rfl h h'
  | true => exact kt rfl h h'
theorem tw_tf (h : if b = true then A1 else A2) (h' : if b = false then B1 else B2) (kf : b = false → A2 → B1 → G) (kt : b = true → A1 → B2 → G) : G := by
  cases b with
  | false => exact kf rfl h h'
  | true => exact kt rfl h h'
theorem tw_pp {i1 i2 : Decidable c} (h : @ite Prop c i1 A1 A2) (h' : @ite Prop c i2 B1 B2) (kp : c → A1 → B1 → G) (kn : ¬ c → A2 → B2 → G) : G := by
  by_cases e : c
  · rw [if_pos e] at h h'
    exact kp e h h'
  · rw [if_neg e] at h h'
    exact kn e h h'
theorem on_p {i1 : Decidable c} (h : @ite Prop c i1 A1 A2) (kp : c → A1 → G) (kn : ¬ c → A2 → G) : G := by
  by_cases e : c
  · rw [if_pos e] at h
    exact kp e h
  · rw [if_neg e] at h
    exact kn e h
end TWIN
section QS
variable {x y u u' : Mem} {r r' K k : Int32} {n : Nat}
theorem q_0 (h : r = K ∧ u = x) (h' : r' = K ∧ u' = y) (hL : Rel x y) : r = r' ∧ Rel u u' := ⟨h.1.trans h'.1.symm, by rw [h.2, h'.2]; exact hL⟩
theorem q_1 (h : r = K ∧ u = mst x 0 8 k) (h' : r' = K ∧ u' = mst y 0 3 k) (hL : Rel x y) : r = r' ∧ Rel u u' := ⟨h.1.trans h'.1.symm, by rw [h.2, h'.2]; exact hL.st⟩
theorem q_Q {q : Nat} (h : r = K ∧ offQ q x u) (h' : r' = K ∧ u' = y) (hL : Rel x y) : r = r' ∧ Rel u u' := ⟨h.1.trans h'.1.symm, by rw [h'.2]; exact hL.qu h.2⟩
theorem isR {a : Int32} (h : (decide (0 ≤ a) && decide (a ≤ 7)) = true) : tn a < 8 := by
  have := within_nI (k := 7) rfl (by decide) h
  omega
theorem q_row {a la : Int32} (hL : Rel x y) (h : PT_X7_row x a la k r u) (h' : PT_X8_row y a la k r' u') : r = r' ∧ Rel u u' := by
  unfold PT_X7_row at h
  unfold PT_X8_row at h'
  refine tw_ff h h' (fun _ h h' => q_0 h h' hL) (fun c1 h h' => ?_)
  refine tw_ff h h' (fun _ h h' => q_0 h h' hL) (fun c2 h h' => ?_)
  refine tw_pp h h' (fun c3 h h' => ?_) (fun _ h h' => q_0 h h' hL)
  refine tw_pp h h' (fun c4 h h' => ?_) (fun _ h h' => q_1 h h' hL)
  obtain ⟨hr, z, ⟨z1, z2, z3, z4⟩, rfl⟩ := h
  obtain ⟨hr', w, ⟨w1, w2, w3, w4⟩, rfl⟩ := h'
  refine ⟨hr.trans hr'.symm, Rel.st ?_⟩
  have ha := isR c1
  obtain ⟨a1, a2, a3, a4, a5, a6, a7⟩ := hL
  have zo : ∀ a9, a9 < 29 ∨ 45 ≤ a9 → z a9 = x a9 := fun a9 h9 => z1 a9 (by omega) (by omega)
  have wo : ∀ a9, a9 = 0 ∨ 4 ≤ a9 → w a9 = y a9 := fun a9 h9 => w1 a9 (by omega) (by omega) (by omega)
  refine ⟨fun r9 hr9 => ?_, a2.keep (zo 3 (by decide)) (zo 4 (by decide)) (by rw [wo 0 (by decide)]) (wo 4 (by decide)), by rw [zo 0 (by decide), wo 0 (by decide)]; exact a3, by rw [zo 0 (by decide), wo 0 (by decide)]; exact a4, a5.keep (zo 27 (by decide)) (zo 28 (by decide)) (by rw [wo 0 (by decide)]) (wo 9 (by decide)), a6.keep (fun a9 _ _ => zo a9 (by omega)) (wo 5 (by decide)), a7.keep (fun a9 _ _ => zo a9 (by omega)) (wo 6 (by decide)) (wo 7 (by decide))⟩
  by_cases e : r9 = tn a
  · subst e
    have hk := within_nI (k := 40) (v := k) (K := 40) rfl (by decide) (by rw [decide_eq_true c4, decide_eq_true c3]; rfl)
    refine Or.inr ⟨⟨by rw [w2, upd_eq]; exact (bt2 c2).1, by rw [z2, w2, upd_eq]⟩, ⟨tn k, hk.2, z3.trans hk.1, by rw [w3, upd_eq]; exact hk.1⟩, fun j hj => ?_⟩
    rw [z4 j hj, w4, if_pos (by omega)]
  · exact (a1 r9 hr9).keep (z1 _ (by omega) (by omega)) (z1 _ (by omega) (by omega)) (by rw [w2, upd_ne e]) (by rw [w3, upd_ne e]) (fun j hj => by rw [w4, if_neg (by omega)])
theorem Rel.item (hL : Rel x y) {ra j : Nat} {val : Int32} (hr : ra < 8) (hj : j < 40) (hm : decide (y 1 ra < 0) = false) : Rel (mst x (29 + 2 * ra + 1) j val) (mst y 3 (40 * ra + j) val) := by
  obtain ⟨a1, a2, a3, a4, a5, a6, a7⟩ := hL
  refine ⟨fun r9 hr9 => ?_, a2.keep (mst_ne (by omega)) (mst_ne (by omega)) (by rw [mst_ne (by decide)]) (mst_ne (by decide)), by rw [mst_ne (by omega), mst_ne (by decide)]; exact a3, by rw [mst_ne (by omega), mst_ne (by decide)]; exact a4, a5.keep (mst_ne (by omega)) (mst_ne (by omega)) (by rw [mst_ne (by decide)]) (mst_ne (by decide)), a6.keep (fun a9 _ _ => mst_ne (by omega)) (mst_ne (by decide)), a7.keep (fun a9 _ _ => mst_ne (by omega)) (mst_ne (by decide)) (mst_ne (by decide))⟩
  by_cases e : r9 = ra
  · subst e
    obtain ⟨⟨p1, p2⟩, ⟨sz, s1, s2, s3⟩, p3⟩ := (a1 r9 hr9).is hm
    refine Or.inr ⟨⟨by rw [mst_ne (by decide)]; exact p1, by rw [mst_ne (by omega), mst_ne (by decide)]; exact p2⟩, ⟨sz, s1, by rw [mst_ne (by omega)]; exact s2, by rw [mst_ne (by decide)]; exact s3⟩, fun i hi => ?_⟩
    rw [mst_eq, mst_eq]
    by_cases q : i = j
    · rw [q, upd_eq, upd_eq]
    · rw [upd_ne q, upd_ne (by omega)]
      exact p3 i hi
  · exact (a1 r9 hr9).keep (mst_ne (by omega)) (mst_ne (by omega)) (by rw [mst_ne (by decide)]) (by rw [mst_ne (by decide)]) (fun i hi => by rw [mst_eq, upd_ne (by omega)])
theorem q_set {a i v : Int32} (hL : Rel x y) (h : PT_X7_set x a i v r u) (h' : PT_X8_set y a i v r' u') : r = r' ∧ Rel u u' := by
  unfold PT_X7_set at h
  unfold PT_X8_set at h'
  refine tw_tt h h' (fun _ h h' => q_0 h h' hL) (fun c1 h h' => ?_)
  have ha := isR c1
  have hw := hL.1 (tn a) ha
  rw [hw.mis] at h
  refine tw_ff h h' (fun c2 h h' => ?_) (fun _ h h' => q_1 h h' hL)
  obtain ⟨⟨p1, p2⟩, ⟨sz, s1, s2, s3⟩, p3⟩ := hw.is c2
  rw [s2, cov1 s1] at h
  rw [s3] at h'
  refine tw_tt h h' (fun _ h h' => q_1 h h' hL) (fun c3 h h' => ?_)
  obtain ⟨hie, hiz⟩ := hasM9 s1 c3 rfl
  obtain ⟨hr, z, hz, rfl⟩ := h
  obtain ⟨hr', rfl⟩ := h'
  rw [p2] at hr
  refine ⟨hr.trans hr'.symm, Rel.st ?_⟩
  rw [hz, hr]
  exact hL.item ha (by omega) c2
theorem q_drop {a : Int32} (hL : Rel x y) (h : PT_X7_drop x a r u) (h' : PT_X8_drop y a r' u') : r = r' ∧ Rel u u' := by
  unfold PT_X7_drop at h
  unfold PT_X8_drop at h'
  refine tw_tt h h' (fun _ h h' => q_0 h h' hL) (fun c1 h h' => ?_)
  have ha := isR c1
  have hw := hL.1 (tn a) ha
  rw [hw.mis] at h
  refine tw_ff h h' (fun c2 h h' => ?_) (fun _ h h' => q_1 h h' hL)
  obtain ⟨hr, rfl⟩ := h
  obtain ⟨hr', rfl⟩ := h'
  refine ⟨hr.trans ((hw.siz c2).trans hr'.symm), Rel.st ?_⟩
  obtain ⟨a1, a2, a3, a4, a5, a6, a7⟩ := hL
  refine ⟨fun r9 hr9 => ?_, a2.keep (mst_ne (by omega)) (mst_ne (by omega)) (by rw [mst_ne (by decide)]) (mst_ne (by decide)), by rw [mst_ne (by omega), mst_ne (by decide)]; exact a3, by rw [mst_ne (by omega), mst_ne (by decide)]; exact a4, a5.keep (mst_ne (by omega)) (mst_ne (by omega)) (by rw [mst_ne (by decide)]) (mst_ne (by decide)), a6.keep (fun a9 _ _ => mst_ne (by omega)) (mst_ne (by decide)), a7.keep (fun a9 _ _ => mst_ne (by omega)) (mst_ne (by decide)) (mst_ne (by decide))⟩
  by_cases e : r9 = tn a
  · subst e
    exact Or.inl ⟨by rw [mst_self], by rw [mst_self]; decide⟩
  · exact (a1 r9 hr9).keep (mst_ne (by omega)) (mst_ne (by omega)) (by rw [mst_eq, upd_ne e]) (by rw [mst_ne (by decide)]) (fun i hi => by rw [mst_ne (by decide)])
theorem q_copy {a i b9 j : Int32} (hL : Rel x y) (h : PT_X7_copy x a i b9 j k r u) (h' : PT_X8_copy y a i b9 j k r' u') : r = r' ∧ Rel u u' := by
  unfold PT_X7_copy at h
  unfold PT_X8_copy at h'
  refine tw_ff h h' (fun _ h h' => q_0 h h' hL) (fun c1 h h' => ?_)
  refine tw_tt h h' (fun _ h h' => q_0 h h' hL) (fun c2 h h' => ?_)
  have ha := isR c1
  have hb := isR c2
  have hwa := hL.1 (tn a) ha
  have hwb := hL.1 (tn b9) hb
  rw [hwa.mis] at h
  refine tw_tt h h' (fun c3 h h' => ?_) (fun _ h h' => q_1 h h' hL)
  rw [hwb.mis] at h
  refine tw_ff h h' (fun c4 h h' => ?_) (fun _ h h' => q_1 h h' hL)
  obtain ⟨⟨p1, p2⟩, ⟨sz, s1, s2, s3⟩, p3⟩ := hwa.is c3
  obtain ⟨⟨g1, g2⟩, ⟨sb, t1, t2, t3⟩, g3⟩ := hwb.is c4
  simp only [p2, g2, s2, t2] at h
  simp only [s3, t3] at h'
  refine tw_pp h h' (fun c5 h h' => ?_) (fun _ h h' => q_1 h h' hL)
  refine tw_ff h h' (fun _ h h' => q_1 h h' hL) (fun c6 h h' => ?_)
  refine tw_tt h h' (fun _ h h' => q_1 h h' hL) (fun c7 h h' => ?_)
  obtain ⟨hr, rfl⟩ := h
  obtain ⟨hr', z, ⟨z1, z2⟩, rfl⟩ := h'
  obtain ⟨-, -, hik⟩ := wiN rfl s1 c6
  obtain ⟨-, -, hjk⟩ := wiN rfl t1 c7
  refine ⟨hr.trans hr'.symm, Rel.st ?_⟩
  have mo : ∀ a9, a9 ≠ 29 + 2 * tn b9 + 1 → mcp x (29 + 2 * tn a + 1) (29 + 2 * tn b9 + 1) (tn i) (tn j) (tn k) a9 = x a9 := fun a9 h9 => if_neg h9
  have mb : mcp x (29 + 2 * tn a + 1) (29 + 2 * tn b9 + 1) (tn i) (tn j) (tn k) (29 + 2 * tn b9 + 1) = va_cpy (x (29 + 2 * tn a + 1)) (x (29 + 2 * tn b9 + 1)) (tn i) (tn j) (tn k) := if_pos rfl
  generalize mcp x (29 + 2 * tn a + 1) (29 + 2 * tn b9 + 1) (tn i) (tn j) (tn k) = m at mo mb ⊢
  have zo : ∀ a9, a9 ≠ 3 → a9 ≠ 10 → z a9 = y a9 := z1
  obtain ⟨a1, a2, a3, a4, a5, a6, a7⟩ := hL
  refine ⟨fun r9 hr9 => ?_, a2.keep (mo 3 (by omega)) (mo 4 (by omega)) (by rw [zo 0 (by decide) (by decide)]) (zo 4 (by decide) (by decide)), by rw [mo 0 (by omega), zo 0 (by decide) (by decide)]; exact a3, by rw [mo 0 (by omega), zo 0 (by decide) (by decide)]; exact a4, a5.keep (mo 27 (by omega)) (mo 28 (by omega)) (by rw [zo 0 (by decide) (by decide)]) (zo 9 (by decide) (by decide)), a6.keep (fun a9 _ _ => mo a9 (by omega)) (zo 5 (by decide) (by decide)), a7.keep (fun a9 _ _ => mo a9 (by omega)) (zo 6 (by decide) (by decide)) (zo 7 (by decide) (by decide))⟩
  by_cases e : r9 = tn b9
  · subst e
    refine Or.inr ⟨⟨by rw [zo 1 (by decide) (by decide)]; exact g1, by rw [mo _ (by omega), zo 1 (by decide) (by decide)]; exact g2⟩, ⟨sb, t1, by rw [mo _ (by omega)]; exact t2, by rw [zo 2 (by decide) (by decide)]; exact t3⟩, fun l hl => ?_⟩
    rw [mb, z2]
    unfold va_cpy
    by_cases q : tn j ≤ l ∧ l < tn j + tn k
    · rw [if_pos q, if_pos (by omega), p3 _ (by omega)]
      congr 1
      omega
    · rw [if_neg q, if_neg (by omega)]
      exact g3 l hl
  · exact (a1 r9 hr9).keep (mo _ (by omega)) (mo _ (by omega)) (by rw [zo 1 (by decide) (by decide)]) (by rw [zo 2 (by decide) (by decide)]) (fun l hl => by rw [z2, if_neg (by omega)])
theorem byte_te (z : Int32) : z.toInt8.toInt32 = z &&& 255 ∨ (z.toInt8.toInt32 < 0 ∧ 127 < z &&& 255) := by
  have h1 : z &&& 255 = nI (z.toBitVec.toNat % 2 ^ 8) := and_mask z 8 (by decide)
  have hk : z.toBitVec.toNat % 2 ^ 8 < 2 ^ 8 := Nat.mod_lt _ (by decide)
  have h2 := toInt_mod z 8 (by decide)
  rw [h1]
  generalize z.toBitVec.toNat % 2 ^ 8 = k at hk h2 ⊢
  have e : (z.toInt8.toInt32).toInt = if k < 128 then (k : Int) else (k : Int) - 256 := by
    rw [Int8.toInt_toInt32, Int32.toInt_toInt8, Int.bmod_def]
    split <;> split <;> omega
  have ek : (nI k).toInt = k := nI_toInt (by omega)
  by_cases c : k < 128
  · left
    apply Int32.toInt_inj.mp
    rw [e, ek, if_pos c]
  · right
    rw [if_neg c] at e
    refine ⟨Int32.lt_iff_toInt_lt.mpr ?_, Int32.lt_iff_toInt_lt.mpr ?_⟩
    · rw [e, show (0 : Int32).toInt = 0 from rfl]
      omega
    · rw [ek, show (127 : Int32).toInt = 127 from rfl]
      omega
theorem by_te (w : Int64) (k : Nat) : byW w k = byY w k ∨ (byW w k < 0 ∧ 127 < byY w k) := by
  unfold byW byY
  have e : ((w >>> ((8 * nI k : Int32).toInt64 &&& 63)) &&& 255).toInt32 = (w >>> ((8 * nI k : Int32).toInt64 &&& 63)).toInt32 &&& 255 := by
    rw [Int64.toInt32_and]
    rfl
  rw [e, Int8.toInt8_toInt32]
  exact byte_te _
theorem q_feed {w : Int64} {m : Int32} {t : Nat} (hL : Rel x y) (ht : x 3 1 = nI t) (hy : y 0 4 = nI t) (ht4 : t ≤ 400) (hT : TE (x 4) (y 4) t) (h : PT_X7_feed x w m t r u) (h' : PT_X8_feed y w m t r' u') : r = r' ∧ Rel u u' := by
  unfold PT_X7_feed at h
  unfold PT_X8_feed at h'
  rw [ht] at h
  rw [hy] at h'
  refine tw_tt h h' (fun _ h h' => q_0 h h' hL) (fun c1 h h' => ?_)
  refine tw_pp h h' (fun c2 h h' => ?_) (fun _ h h' => q_0 h h' hL)
  obtain ⟨hm, hm1, hm8⟩ := within1 (k := 8) rfl (by decide) c1
  obtain ⟨hr, rfl⟩ := h
  obtain ⟨hr', rfl⟩ := h'
  have hlt : t + tn m ≤ 400 := by
    rw [n_add (x := nI t) (y := m) rfl hm] at c2
    exact (n_le (a := t + tn m) (b := 400) rfl rfl (by omega) (by decide)).mp c2
  refine ⟨hr.trans hr'.symm, ?_⟩
  have zo := apT_off w (tn m) t x
  have wo := apY_off w (tn m) t y
  have ws := apY_slot w (tn m) t y
  obtain ⟨a1, a2, a3, a4, a5, a6, a7⟩ := hL
  refine ⟨a1.keep (fun a9 _ _ => zo a9 (by omega) (by omega)) (wo 1 (by decide) (by decide)) (wo 2 (by decide) (by decide)) (wo 3 (by decide) (by decide)), ⟨t + tn m, hlt, apT_len w (tn m) t x ht, apY_len w (tn m) t y hy, fun s hs => ?_⟩, by rw [zo 0 (by decide) (by decide), ws 6 (by decide)]; exact a3, by rw [zo 0 (by decide) (by decide), ws 3 (by decide)]; exact a4, a5.keep (zo 27 (by decide) (by decide)) (zo 28 (by decide) (by decide)) (ws 12 (by decide)) (wo 9 (by decide) (by decide)), a6.keep (fun a9 _ _ => zo a9 (by omega) (by omega)) (wo 5 (by decide) (by decide)), a7.keep (fun a9 _ _ => zo a9 (by omega) (by omega)) (wo 6 (by decide) (by decide)) (wo 7 (by decide) (by decide))⟩
  rw [apT_byte, apY_byte]
  by_cases q : t ≤ s ∧ s < t + tn m
  · rw [if_pos q, if_pos q]
    exact by_te _ _
  · rw [if_neg q, if_neg q]
    exact hT s (by omega)
theorem q_ridge {t : Nat} (hL : Rel x y) (hT : TE (x 4) (y 4) t)
    (h : ((rdF (x 4) t).1.2 = 0 → r = nI (rdF (x 4) t).2.1 ∧ (rdF (x 4) t).2.1 ≤ 8 ∧ RR (rdF (x 4) t).2.1 u 5 (rdF (x 4) t).2.2 ∧ u 0 = x 0) ∧ ((rdF (x 4) t).1.2 ≠ 0 → r = -1000100 - nI (tsN (x 4) t (rdF (x 4) t).1.1) ∧ (∀ a, 5 ≤ a → a < 15 → u a = x a) ∧ u 0 = upd (x 0) 7 (rdF (x 4) t).1.2) ∧ u 3 1 = 0 ∧ (∀ a, a ≠ 0 → a ≠ 3 → a ≠ 2 → ¬ (5 ≤ a ∧ a < 25) → u a = x a))
    (h' : ((rdF (y 4) t).1.2 = 0 → r' = nI (rdF (y 4) t).2.1 ∧ (rdF (y 4) t).2.1 ≤ 8 ∧ u' 5 0 = nI (rdF (y 4) t).2.1 ∧ AG (rdF (y 4) t).2.1 (u' 5) (rdF (y 4) t).2.2 ∧ u' 0 6 = y 0 6) ∧ ((rdF (y 4) t).1.2 ≠ 0 → r' = -1000100 - nI (tsN (y 4) t (rdF (y 4) t).1.1) ∧ u' 5 = y 5 ∧ u' 0 6 = (rdF (y 4) t).1.2) ∧ u' 0 4 = 0 ∧ (∀ a, a ≠ 0 → a ≠ 5 → a ≠ 8 → u' a = y a) ∧ u' 0 3 = y 0 3 ∧ u' 0 12 = y 0 12) : r = r' ∧ Rel u u' := by
  rw [rdF_te hT, tsN_te hT] at h
  obtain ⟨g1, g2, g3, g4⟩ := h
  obtain ⟨e1, e2, e3, e4, e5, e6⟩ := h'
  obtain ⟨a1, a2, a3, a4, a5, a6, a7⟩ := hL
  have zo : ∀ a, a = 1 ∨ a = 4 ∨ 25 ≤ a → u a = x a := fun a h9 => g4 a (by omega) (by omega) (by omega) (by omega)
  have k1 : RelW u u' := a1.keep (fun a9 _ _ => zo a9 (by omega)) (e4 1 (by decide) (by decide) (by decide)) (e4 2 (by decide) (by decide) (by decide)) (e4 3 (by decide) (by decide) (by decide))
  have k2 : RelT u u' := ⟨0, by decide, g3, e3, fun k hk => absurd hk (Nat.not_lt_zero k)⟩
  have k5 : RelC u u' := a5.keep (zo 27 (by decide)) (zo 28 (by decide)) e6 (e4 9 (by decide) (by decide) (by decide))
  have k7 : RelI u u' := a7.keep (fun a9 _ _ => zo a9 (by omega)) (e4 6 (by decide) (by decide) (by decide)) (e4 7 (by decide) (by decide) (by decide))
  by_cases c : (rdF (y 4) t).1.2 = 0
  · obtain ⟨p1, p2, p3, p4⟩ := g1 c
    obtain ⟨q1, q2, q3, q4, q5⟩ := e1 c
    refine ⟨p1.trans q1.symm, k1, k2, ?_, ?_, k5, ⟨_, p3.agd q4 q3, (rdF_rg c).ag q4⟩, k7⟩
    · rw [p4, q5]; exact a3
    · rw [p4, e5]; exact a4
  · obtain ⟨p1, p2, p3⟩ := g2 c
    obtain ⟨q1, q2, q3⟩ := e2 c
    refine ⟨p1.trans q1.symm, k1, k2, ?_, ?_, k5, a6.keep p2 q2, k7⟩
    · rw [p3, upd_eq, q3]
    · rw [p3, upd_ne (by decide), e5]; exact a4
end QS
