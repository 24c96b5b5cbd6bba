theorem kX8_isNumber_102 : (.fieldLink RX8 102 "WindTakenModel" "kind" "I" : Cond) ∈ wsX8_isNumber := by decide +kernel
theorem iX8_isNumber_X8 : ∀ w ∈ wsX80, w ∈ wsX8_isNumber := by decide +kernel
theorem kX8_isNumber_98 : (.fieldLink RX8 98 "WindTakenModel" "worth" "J" : Cond) ∈ wsX8_isNumber := by decide +kernel
theorem kX8_isNumber_124 : (.fieldLink RX8 124 "WindTakenModel" "wrong" "I" : Cond) ∈ wsX8_isNumber := by decide +kernel
abbrev rmX8_isNumber : Room := { frames := 2, cells := 0, slots := 0, locals := 46 }
set_option maxHeartbeats 4000000 in
set_option maxRecDepth 100000 in
theorem c_X8_isNumber (l : Launch) (G : GG) (B : Nat) (hW : WOK (wM G B)) (x : Mem) (lo : Int32) (hi : Int32) {f : Nat → Int32} {t : Nat} {s : Nat × Int32} (hf : x 4 = f) (ht9 : x 0 4 = nI t) (ht400 : t ≤ 400) (hs0 : s.2 = 0) (hp : x 0 15 = nI s.1) (hpt : s.1 ≤ t) : Met l yX8_isNumber wsX8_isNumber rmX8_isNumber (XP G (wM G B) [.ref (B + (0)), .int (lo), .int (hi)] x) (va_Qi (fun r u => r = bI (decide ((stN f t s lo hi).2 = 0)) ∧ RT f t (stN f t s lo hi) u ∧ NG x u ∧ u 8 = x 8 ∧ u 0 14 = nI (tsN f t s.1) ∧ ((stN f t s lo hi).2 = 0 → wth u = (tvI f t s.1).toInt64)) (XB G (wM G B)) (blkA B (B + 13))) 0 0 (blkA B (B + 13)) := by
  refine Met.ofW (cc := cX8_isNumber) (maxL := 3) (ret := (some .boolean)) (by decide) rfl ?_
  intro pp ee ss mm aa bb mt cd s1 Bd hml hv
  obtain ⟨hae, hX, hK, hE⟩ := hv
  have hx := Bd.exec
  have hb := Bd.bytes
  have hr := Bd.returns
  have hts := atoms_spec (ws := wsX8_isNumber) Bd.pre
  have hown : ss.vm.findClass RX8 = some mm.cls := findClass_of_methodNamed Bd.named
  have hlocks := Bd.notSynchronized
  have hS : va_S (blkA B (B + 13)) ss.heap ss.heap [] := va_S.rf
  have hl := lv_entry ([.ref (B + (0)), .int (lo), .int (hi)]) (n := 3) (Nat.le_of_ble_eq_true rfl)
  subst hae
  rw [lg_entry_eq]
  generalize (lg_sl ([.ref (B + (0)), .int (lo), .int (hi)]) ++ List.replicate (3 - (lg_sl ([.ref (B + (0)), .int (lo), .int (hi)])).length) Slot.unset).toArray = ls at hl ⊢
  have hl : lv_has ls 3 [(0, .ref (B + (0))), (1, .int (lo)), (2, .int (hi))] := hl
  generalize ([.ref (B + (0)), .int (lo), .int (hi)] : List Value).toArray = aa at hts ⊢
  show W pp l ee rmX8_isNumber ss mm aa bb mt cd ss.heap [] 0 0 _ (F0 mm 0 ls [])
  generalize hQ : MQ bb (va_Qi (fun r u => r = bI (decide ((stN f t s lo hi).2 = 0)) ∧ RT f t (stN f t s lo hi) u ∧ NG x u ∧ u 8 = x 8 ∧ u 0 14 = nI (tsN f t s.1) ∧ ((stN f t s lo hi).2 = 0 → wth u = (tvI f t s.1).toInt64)) (XB G (wM G B)) (blkA B (B + 13))) aa ss 0 0 (blkA B (B + 13)) = Q
  refine lv_aload_n hx hb dX8_isNumber_0 rfl (lv_at hl 0 rfl) ?_
  refine x_vf (w := (wM G B)) (va_runV (As := []) (rest := []) ⟨hx, hb, hml, hown, hts⟩ (c_X8_nextToken (l := l) (G := G) (B := B) (hW := hW) (x := x) (t := t) (p := s.1) (ht9 := ht9) (ht400 := ht400) (hp := hp) (hpt := (by omega))) (cwV 0 hts gX8_isNumber_X8_nextToken rfl rfl rfl (by decide +kernel) ⟨Nat.le_of_ble_eq_true rfl, Nat.le_of_ble_eq_true rfl⟩) (x_pv (w := (wM G B)) (a := 0) hW hX hK hE hS [] (Nat.le_of_ble_eq_true rfl) (shM_0 (G := G) (B := B)) rfl) rfl rfl hl.1 rfl (lv_room (Nat.le_of_ble_eq_true rfl)) dX8_isNumber_1 ⟨Nat.zero_le _, Nat.zero_le _⟩) hS (fun x_3 H_1 lo_2 h_1 hX hS => ?_)
  try dsimp only at h_1
  rw [hf] at h_1
  refine lv_aload_n hx hb dX8_isNumber_4 rfl (lv_at hl 0 rfl) ?_
  refine lv_aload_n hx hb dX8_isNumber_5 rfl (lv_at hl 0 rfl) ?_
  refine x_get (w := (wM G B)) (a := 0) (v := .int (x_3 (0) 16)) hx hb hts iX8_isNumber_X8 hown hK hX (Nat.le_of_ble_eq_true rfl) (shM_0 (G := G) (B := B)) rfl 16 (by decide) (hts _ kX8_isNumber_102) (fun _ h9 => h9) rfl dX8_isNumber_6 ?_
  refine lv_iconst (v := 2) hx hb dX8_isNumber_9 (by decide) ?_
  refine lv_icmp_eq (tgt := 17) hx hb dX8_isNumber_10 (by decide) (fun c_4 => ?_) (fun c_4 => ?_)
  · have hk2 : tkI f t s.1 = 2 := h_1.2.2.1.symm.trans c_4
    have hw9 : mkL (x_3 0 17) (x_3 0 21) = (tvI f t s.1).toInt64 := h_1.2.2.2.2.1 hk2
    refine lv_aload_n hx hb dX8_isNumber_17 rfl (lv_at hl 0 rfl) ?_
    refine x_get (w := (wM G B)) (a := 0) (v := .long (mkL (x_3 0 17) (x_3 0 21))) hx hb hts iX8_isNumber_X8 hown hK hX (Nat.le_of_ble_eq_true rfl) (shM_0 (G := G) (B := B)) rfl 17 (by decide) (hts _ kX8_isNumber_98) (fun _ h9 => h9) rfl dX8_isNumber_18 ?_
    refine lv_iload_n hx hb dX8_isNumber_21 rfl (lv_at hl 1 rfl) ?_
    refine lv_i2l (v := (lo : Int32).toInt64) hx hb dX8_isNumber_22 rfl ?_
    refine lv_iload_n hx hb dX8_isNumber_23 rfl (lv_at hl 2 rfl) ?_
    refine lv_i2l (v := (hi : Int32).toInt64) hx hb dX8_isNumber_24 rfl ?_
    refine x_ip (w := (wM G B)) (x := x_3) (v := bI (decide (((lo : Int32)) ≤ ((tvI f t s.1))) && decide (((tvI f t s.1)) ≤ ((hi : Int32))))) (va_runS (As := [.long (mkL (x_3 0 17) (x_3 0 21)), .long ((lo : Int32).toInt64), .long ((hi : Int32).toInt64)]) (rest := [.ref (B + (0))]) ⟨hx, hb, hml, hown, hts⟩ (c_X8_in (l := l) (G := G) (B := B) (hW := hW) (x := x_3) (va := mkL (x_3 0 17) (x_3 0 21)) (vb := (lo : Int32).toInt64) (vc := (hi : Int32).toInt64) (v1 := (tvI f t s.1)) (lo1 := (lo : Int32)) (hi1 := (hi : Int32)) (hv := hw9) (hlo := (by first | rfl | decide)) (hhi := (by first | rfl | decide))) (va_cwS 3 hts gX8_isNumber_X8_in rfl rfl rfl (by decide +kernel) ⟨Nat.le_of_ble_eq_true rfl, Nat.le_of_ble_eq_true rfl⟩) (x_ps (w := (wM G B)) hW hX hK hE hS [.long (mkL (x_3 0 17) (x_3 0 21)), .long ((lo : Int32).toInt64), .long ((hi : Int32).toInt64)]) rfl rfl hl.1 rfl (lv_room (Nat.le_of_ble_eq_true rfl)) dX8_isNumber_25 ⟨Nat.zero_le _, Nat.zero_le _⟩) hS (fun H_5 lo_6 hX hS => ?_)
    refine x_ifeq (tgt := 35) hx hb dX8_isNumber_28 (by decide) (fun c_7 => ?_) (fun c_7 => ?_)
    · refine lv_iconst (v := 2) hx hb dX8_isNumber_35 (by decide) ?_
      refine x_put (w := (wM G B)) (a := 0) (v := 2) (ty := .int) hx hb hts iX8_isNumber_X8 tyX8 tyX8_ok nmX8 hown hK hW hX hS (Nat.le_of_ble_eq_true rfl) (shM_0 (G := G) (B := B)) rfl 18 (by decide) (hts _ kX8_isNumber_124) (fun _ h9 => h9) rfl (by decide +kernel) rfl rfl (Nat.le_of_ble_eq_true rfl) (shM_0 (G := G) (B := B)) dX8_isNumber_36 (fun H_9 lo_10 hX hS => ?_)
      obtain ⟨x_8, ex_8⟩ : ∃ z, z = mst x_3 (0) 18 (2) := ⟨_, rfl⟩
      rw [← ex_8] at hX
      have z_11 : x_8 (0) 18 = nI (2) := by rw [ex_8, mst_self]; first | done | exact rfl
      refine lv_aload_n hx hb dX8_isNumber_39 rfl (lv_at hl 0 rfl) ?_
      refine x_get (w := (wM G B)) (a := 0) (v := .int (x_8 (0) 18)) hx hb hts iX8_isNumber_X8 hown hK hX (Nat.le_of_ble_eq_true rfl) (shM_0 (G := G) (B := B)) rfl 18 (by decide) (hts _ kX8_isNumber_124) (fun _ h9 => h9) rfl dX8_isNumber_40 ?_
      have kJ_14 : ∀ (v_13 : Bool) (_ : v_13 = (if (x_8 (0) 18) = 0 then true else false)) (H_15 : Heap) (lo_16 : List Loc) (_ : MR G (wM G B) x_8 H_15) (_ : va_S (blkA B (B + 13)) ss.heap H_15 lo_16) (ls : Array Slot) (_ : lv_has ls 3 [(0, .ref (B + (0))), (1, .int (lo)), (2, .int (hi))]), W pp l ee rmX8_isNumber ss mm aa bb mt cd H_15 lo_16 0 0 Q (F0 mm 51 ls [.int (bI (v_13))]) := by
        intro v_13 ev_13 H_15 lo_16 hX hS ls hl
        rw [← hQ]
        refine x_zret (v := bI (v_13)) (ty := .boolean) hx hb hr (bI_nar _) hX hS hlocks dX8_isNumber_51 ?_
        have h14 : x_8 0 14 = nI (tsN f t s.1) := by rw [ex_8, mst_eq, upd_ne (by decide)]; exact h_1.2.1
        first | (rw [stN_a (lo := lo) (hi := hi) hs0 (fun z => c_7 (h_1.2.2.1.trans z))]; exact ⟨by rw [ev_13, ex_8, mst_self]; rfl, RT_no (by decide) h_1.2 ex_8, by rw [ex_8]; exact (NG.rf.nf h_1.1).wr, by rw [ex_8, mst_ne (by decide)]; exact h_1.1.1 8 (by decide), h14, fun z => absurd z (show ¬ (1 : Int32) = 0 by decide)⟩) | (rw [stN_b (lo := lo) (hi := hi) hs0 hk2 c_7]; exact ⟨by rw [ev_13, ex_8, mst_self]; rfl, RT_yes h_1.2 (by rw [hk2]; decide) (by rw [hk2]; decide) ex_8, by rw [ex_8]; exact (NG.rf.nf h_1.1).wr, by rw [ex_8, mst_ne (by decide)]; exact h_1.1.1 8 (by decide), h14, fun _ => by rw [ex_8, wth_off (by decide) (by decide)]; exact hw9⟩) | (rw [stN_c (lo := lo) (hi := hi) hs0 hk2 c_7]; exact ⟨by rw [ev_13, ex_8, mst_self]; rfl, RT_no (by decide) h_1.2 ex_8, by rw [ex_8]; exact (NG.rf.nf h_1.1).wr, by rw [ex_8, mst_ne (by decide)]; exact h_1.1.1 8 (by decide), h14, fun z => absurd z (show ¬ (2 : Int32) = 0 by decide)⟩)
      refine lv_if_ne (tgt := 50) hx hb dX8_isNumber_43 (by decide) (fun c_12 => ?_) (fun c_12 => ?_)
      · refine lv_iconst (v := 0) hx hb dX8_isNumber_50 (by decide) ?_
        exact kJ_14 (false) (by rw [if_neg c_12]) _ _ hX hS ls (lv_sub hl [0, 1, 2] rfl)
      · refine lv_iconst (v := 1) hx hb dX8_isNumber_46 (by decide) ?_
        refine lv_goto (tgt := 51) hx hb dX8_isNumber_47 (by decide) ?_
        exact kJ_14 (true) (by rw [if_pos c_12]) _ _ hX hS ls (lv_sub hl [0, 1, 2] rfl)
    · refine lv_iconst (v := 0) hx hb dX8_isNumber_31 (by decide) ?_
      refine lv_goto (tgt := 36) hx hb dX8_isNumber_32 (by decide) ?_
      refine x_put (w := (wM G B)) (a := 0) (v := 0) (ty := .int) hx hb hts iX8_isNumber_X8 tyX8 tyX8_ok nmX8 hown hK hW hX hS (Nat.le_of_ble_eq_true rfl) (shM_0 (G := G) (B := B)) rfl 18 (by decide) (hts _ kX8_isNumber_124) (fun _ h9 => h9) rfl (by decide +kernel) rfl rfl (Nat.le_of_ble_eq_true rfl) (shM_0 (G := G) (B := B)) dX8_isNumber_36 (fun H_18 lo_19 hX hS => ?_)
      obtain ⟨x_17, ex_17⟩ : ∃ z, z = mst x_3 (0) 18 (0) := ⟨_, rfl⟩
      rw [← ex_17] at hX
      have z_20 : x_17 (0) 18 = nI (0) := by rw [ex_17, mst_self]; first | done | exact rfl
      refine lv_aload_n hx hb dX8_isNumber_39 rfl (lv_at hl 0 rfl) ?_
      refine x_get (w := (wM G B)) (a := 0) (v := .int (x_17 (0) 18)) hx hb hts iX8_isNumber_X8 hown hK hX (Nat.le_of_ble_eq_true rfl) (shM_0 (G := G) (B := B)) rfl 18 (by decide) (hts _ kX8_isNumber_124) (fun _ h9 => h9) rfl dX8_isNumber_40 ?_
      have kJ_23 : ∀ (v_22 : Bool) (_ : v_22 = (if (x_17 (0) 18) = 0 then true else false)) (H_24 : Heap) (lo_25 : List Loc) (_ : MR G (wM G B) x_17 H_24) (_ : va_S (blkA B (B + 13)) ss.heap H_24 lo_25) (ls : Array Slot) (_ : lv_has ls 3 [(0, .ref (B + (0))), (1, .int (lo)), (2, .int (hi))]), W pp l ee rmX8_isNumber ss mm aa bb mt cd H_24 lo_25 0 0 Q (F0 mm 51 ls [.int (bI (v_22))]) := by
        intro v_22 ev_22 H_24 lo_25 hX hS ls hl
        rw [← hQ]
        refine x_zret (v := bI (v_22)) (ty := .boolean) hx hb hr (bI_nar _) hX hS hlocks dX8_isNumber_51 ?_
        have h14 : x_17 0 14 = nI (tsN f t s.1) := by rw [ex_17, mst_eq, upd_ne (by decide)]; exact h_1.2.1
        first | (rw [stN_a (lo := lo) (hi := hi) hs0 (fun z => c_7 (h_1.2.2.1.trans z))]; exact ⟨by rw [ev_22, ex_17, mst_self]; rfl, RT_no (by decide) h_1.2 ex_17, by rw [ex_17]; exact (NG.rf.nf h_1.1).wr, by rw [ex_17, mst_ne (by decide)]; exact h_1.1.1 8 (by decide), h14, fun z => absurd z (show ¬ (1 : Int32) = 0 by decide)⟩) | (rw [stN_b (lo := lo) (hi := hi) hs0 hk2 c_7]; exact ⟨by rw [ev_22, ex_17, mst_self]; rfl, RT_yes h_1.2 (by rw [hk2]; decide) (by rw [hk2]; decide) ex_17, by rw [ex_17]; exact (NG.rf.nf h_1.1).wr, by rw [ex_17, mst_ne (by decide)]; exact h_1.1.1 8 (by decide), h14, fun _ => by rw [ex_17, wth_off (by decide) (by decide)]; exact hw9⟩) | (rw [stN_c (lo := lo) (hi := hi) hs0 hk2 c_7]; exact ⟨by rw [ev_22, ex_17, mst_self]; rfl, RT_no (by decide) h_1.2 ex_17, by rw [ex_17]; exact (NG.rf.nf h_1.1).wr, by rw [ex_17, mst_ne (by decide)]; exact h_1.1.1 8 (by decide), h14, fun z => absurd z (show ¬ (2 : Int32) = 0 by decide)⟩)
      refine lv_if_ne (tgt := 50) hx hb dX8_isNumber_43 (by decide) (fun c_21 => ?_) (fun c_21 => ?_)
      · refine lv_iconst (v := 0) hx hb dX8_isNumber_50 (by decide) ?_
        exact kJ_23 (false) (by rw [if_neg c_21]) _ _ hX hS ls (lv_sub hl [0, 1, 2] rfl)
      · refine lv_iconst (v := 1) hx hb dX8_isNumber_46 (by decide) ?_
        refine lv_goto (tgt := 51) hx hb dX8_isNumber_47 (by decide) ?_
        exact kJ_23 (true) (by rw [if_pos c_21]) _ _ hX hS ls (lv_sub hl [0, 1, 2] rfl)
  · refine lv_iconst (v := 1) hx hb dX8_isNumber_13 (by decide) ?_
    refine lv_goto (tgt := 36) hx hb dX8_isNumber_14 (by decide) ?_
    refine x_put (w := (wM G B)) (a := 0) (v := 1) (ty := .int) hx hb hts iX8_isNumber_X8 tyX8 tyX8_ok nmX8 hown hK hW hX hS (Nat.le_of_ble_eq_true rfl) (shM_0 (G := G) (B := B)) rfl 18 (by decide) (hts _ kX8_isNumber_124) (fun _ h9 => h9) rfl (by decide +kernel) rfl rfl (Nat.le_of_ble_eq_true rfl) (shM_0 (G := G) (B := B)) dX8_isNumber_36 (fun H_27 lo_28 hX hS => ?_)
    obtain ⟨x_26, ex_26⟩ : ∃ z, z = mst x_3 (0) 18 (1) := ⟨_, rfl⟩
    rw [← ex_26] at hX
    have z_29 : x_26 (0) 18 = nI (1) := by rw [ex_26, mst_self]; first | done | exact rfl
    refine lv_aload_n hx hb dX8_isNumber_39 rfl (lv_at hl 0 rfl) ?_
    refine x_get (w := (wM G B)) (a := 0) (v := .int (x_26 (0) 18)) hx hb hts iX8_isNumber_X8 hown hK hX (Nat.le_of_ble_eq_true rfl) (shM_0 (G := G) (B := B)) rfl 18 (by decide) (hts _ kX8_isNumber_124) (fun _ h9 => h9) rfl dX8_isNumber_40 ?_
    have kJ_32 : ∀ (v_31 : Bool) (_ : v_31 = (if (x_26 (0) 18) = 0 then true else false)) (H_33 : Heap) (lo_34 : List Loc) (_ : MR G (wM G B) x_26 H_33) (_ : va_S (blkA B (B + 13)) ss.heap H_33 lo_34) (ls : Array Slot) (_ : lv_has ls 3 [(0, .ref (B + (0))), (1, .int (lo)), (2, .int (hi))]), W pp l ee rmX8_isNumber ss mm aa bb mt cd H_33 lo_34 0 0 Q (F0 mm 51 ls [.int (bI (v_31))]) := by
      intro v_31 ev_31 H_33 lo_34 hX hS ls hl
      rw [← hQ]
      refine x_zret (v := bI (v_31)) (ty := .boolean) hx hb hr (bI_nar _) hX hS hlocks dX8_isNumber_51 ?_
      have h14 : x_26 0 14 = nI (tsN f t s.1) := by rw [ex_26, mst_eq, upd_ne (by decide)]; exact h_1.2.1
      first | (rw [stN_a (lo := lo) (hi := hi) hs0 (fun z => c_4 (h_1.2.2.1.trans z))]; exact ⟨by rw [ev_31, ex_26, mst_self]; rfl, RT_no (by decide) h_1.2 ex_26, by rw [ex_26]; exact (NG.rf.nf h_1.1).wr, by rw [ex_26, mst_ne (by decide)]; exact h_1.1.1 8 (by decide), h14, fun z => absurd z (show ¬ (1 : Int32) = 0 by decide)⟩) | (rw [stN_b (lo := lo) (hi := hi) hs0 hk2 c_4]; exact ⟨by rw [ev_31, ex_26, mst_self]; rfl, RT_yes h_1.2 (by rw [hk2]; decide) (by rw [hk2]; decide) ex_26, by rw [ex_26]; exact (NG.rf.nf h_1.1).wr, by rw [ex_26, mst_ne (by decide)]; exact h_1.1.1 8 (by decide), h14, fun _ => by rw [ex_26, wth_off (by decide) (by decide)]; exact hw9⟩) | (rw [stN_c (lo := lo) (hi := hi) hs0 hk2 c_4]; exact ⟨by rw [ev_31, ex_26, mst_self]; rfl, RT_no (by decide) h_1.2 ex_26, by rw [ex_26]; exact (NG.rf.nf h_1.1).wr, by rw [ex_26, mst_ne (by decide)]; exact h_1.1.1 8 (by decide), h14, fun z => absurd z (show ¬ (2 : Int32) = 0 by decide)⟩)
    refine lv_if_ne (tgt := 50) hx hb dX8_isNumber_43 (by decide) (fun c_30 => ?_) (fun c_30 => ?_)
    · refine lv_iconst (v := 0) hx hb dX8_isNumber_50 (by decide) ?_
      exact kJ_32 (false) (by rw [if_neg c_30]) _ _ hX hS ls (lv_sub hl [0, 1, 2] rfl)
    · refine lv_iconst (v := 1) hx hb dX8_isNumber_46 (by decide) ?_
      refine lv_goto (tgt := 51) hx hb dX8_isNumber_47 (by decide) ?_
      exact kJ_32 (true) (by rw [if_pos c_30]) _ _ hX hS ls (lv_sub hl [0, 1, 2] rfl)

theorem kX8_isEnd_102 : (.fieldLink RX8 102 "WindTakenModel" "kind" "I" : Cond) ∈ wsX8_isEnd := by decide +kernel
theorem iX8_isEnd_X8 : ∀ w ∈ wsX80, w ∈ wsX8_isEnd := by decide +kernel
theorem kX8_isEnd_124 : (.fieldLink RX8 124 "WindTakenModel" "wrong" "I" : Cond) ∈ wsX8_isEnd := by decide +kernel
abbrev rmX8_isEnd : Room := { frames := 2, cells := 0, slots := 0, locals := 46 }
set_option maxHeartbeats 4000000 in
set_option maxRecDepth 100000 in
theorem c_X8_isEnd (l : Launch) (G : GG) (B : Nat) (hW : WOK (wM G B)) (x : Mem) {f : Nat → Int32} {t : Nat} {s : Nat × Int32} (hf : x 4 = f) (ht9 : x 0 4 = nI t) (ht400 : t ≤ 400) (hs0 : s.2 = 0) (hp : x 0 15 = nI s.1) (hpt : s.1 ≤ t) : Met l yX8_isEnd wsX8_isEnd rmX8_isEnd (XP G (wM G B) [.ref (B + (0))] x) (va_Qi (fun r u => r = bI (decide ((stS f t s).2 = 0)) ∧ RT f t (stS f t s) u ∧ NG x u ∧ u 8 = x 8) (XB G (wM G B)) (blkA B (B + 13))) 0 0 (blkA B (B + 13)) := by
  refine Met.ofW (cc := cX8_isEnd) (maxL := 1) (ret := (some .boolean)) (by decide) rfl ?_
  intro pp ee ss mm aa bb mt cd s1 Bd hml hv
  obtain ⟨hae, hX, hK, hE⟩ := hv
  have hx := Bd.exec
  have hb := Bd.bytes
  have hr := Bd.returns
  have hts := atoms_spec (ws := wsX8_isEnd) Bd.pre
  have hown : ss.vm.findClass RX8 = some mm.cls := findClass_of_methodNamed Bd.named
  have hlocks := Bd.notSynchronized
  have hS : va_S (blkA B (B + 13)) ss.heap ss.heap [] := va_S.rf
  have hl := lv_entry ([.ref (B + (0))]) (n := 1) (Nat.le_of_ble_eq_true rfl)
  subst hae
  rw [lg_entry_eq]
  generalize (lg_sl ([.ref (B + (0))]) ++ List.replicate (1 - (lg_sl ([.ref (B + (0))])).length) Slot.unset).toArray = ls at hl ⊢
  have hl : lv_has ls 1 [(0, .ref (B + (0)))] := hl
  generalize ([.ref (B + (0))] : List Value).toArray = aa at hts ⊢
  show W pp l ee rmX8_isEnd ss mm aa bb mt cd ss.heap [] 0 0 _ (F0 mm 0 ls [])
  generalize hQ : MQ bb (va_Qi (fun r u => r = bI (decide ((stS f t s).2 = 0)) ∧ RT f t (stS f t s) u ∧ NG x u ∧ u 8 = x 8) (XB G (wM G B)) (blkA B (B + 13))) aa ss 0 0 (blkA B (B + 13)) = Q
  refine lv_aload_n hx hb dX8_isEnd_0 rfl (lv_at hl 0 rfl) ?_
  refine x_vf (w := (wM G B)) (va_runV (As := []) (rest := []) ⟨hx, hb, hml, hown, hts⟩ (c_X8_nextToken (l := l) (G := G) (B := B) (hW := hW) (x := x) (t := t) (p := s.1) (ht9 := ht9) (ht400 := ht400) (hp := hp) (hpt := (by omega))) (cwV 0 hts gX8_isEnd_X8_nextToken rfl rfl rfl (by decide +kernel) ⟨Nat.le_of_ble_eq_true rfl, Nat.le_of_ble_eq_true rfl⟩) (x_pv (w := (wM G B)) (a := 0) hW hX hK hE hS [] (Nat.le_of_ble_eq_true rfl) (shM_0 (G := G) (B := B)) rfl) rfl rfl hl.1 rfl (lv_room (Nat.le_of_ble_eq_true rfl)) dX8_isEnd_1 ⟨Nat.zero_le _, Nat.zero_le _⟩) hS (fun x_3 H_1 lo_2 h_1 hX hS => ?_)
  try dsimp only at h_1
  rw [hf] at h_1
  refine lv_aload_n hx hb dX8_isEnd_4 rfl (lv_at hl 0 rfl) ?_
  refine lv_aload_n hx hb dX8_isEnd_5 rfl (lv_at hl 0 rfl) ?_
  refine x_get (w := (wM G B)) (a := 0) (v := .int (x_3 (0) 16)) hx hb hts iX8_isEnd_X8 hown hK hX (Nat.le_of_ble_eq_true rfl) (shM_0 (G := G) (B := B)) rfl 16 (by decide) (hts _ kX8_isEnd_102) (fun _ h9 => h9) rfl dX8_isEnd_6 ?_
  refine lv_iconst (v := 3) hx hb dX8_isEnd_9 (by decide) ?_
  have kJ_6 : ∀ (v_5 : Bool) (_ : v_5 = (if (x_3 (0) 16) = 3 then false else true)) (H_7 : Heap) (lo_8 : List Loc) (_ : MR G (wM G B) x_3 H_7) (_ : va_S (blkA B (B + 13)) ss.heap H_7 lo_8) (ls : Array Slot) (_ : lv_has ls 1 [(0, .ref (B + (0)))]), W pp l ee rmX8_isEnd ss mm aa bb mt cd H_7 lo_8 0 0 Q (F0 mm 18 ls [.int (bI (v_5)), .ref (B + (0))]) := by
    intro v_5 ev_5 H_7 lo_8 hX hS ls hl
    refine x_put (w := (wM G B)) (a := 0) (v := bI (v_5)) (ty := .int) hx hb hts iX8_isEnd_X8 tyX8 tyX8_ok nmX8 hown hK hW hX hS (Nat.le_of_ble_eq_true rfl) (shM_0 (G := G) (B := B)) rfl 18 (by decide) (hts _ kX8_isEnd_124) (fun _ h9 => h9) rfl (by decide +kernel) rfl rfl (Nat.le_of_ble_eq_true rfl) (shM_0 (G := G) (B := B)) dX8_isEnd_18 (fun H_10 lo_11 hX hS => ?_)
    obtain ⟨x_9, ex_9⟩ : ∃ z, z = mst x_3 (0) 18 (bI (v_5)) := ⟨_, rfl⟩
    rw [← ex_9] at hX
    refine lv_aload_n hx hb dX8_isEnd_21 rfl (lv_at hl 0 rfl) ?_
    refine x_get (w := (wM G B)) (a := 0) (v := .int (x_9 (0) 16)) hx hb hts iX8_isEnd_X8 hown hK hX (Nat.le_of_ble_eq_true rfl) (shM_0 (G := G) (B := B)) rfl 16 (by decide) (hts _ kX8_isEnd_102) (fun _ h9 => h9) rfl dX8_isEnd_22 ?_
    refine lv_iconst (v := 3) hx hb dX8_isEnd_25 (by decide) ?_
    have kJ_14 : ∀ (v_13 : Bool) (_ : v_13 = (if (x_9 (0) 16) = 3 then true else false)) (H_15 : Heap) (lo_16 : List Loc) (_ : MR G (wM G B) x_9 H_15) (_ : va_S (blkA B (B + 13)) ss.heap H_15 lo_16) (ls : Array Slot) (_ : lv_has ls 1 [(0, .ref (B + (0)))]), W pp l ee rmX8_isEnd ss mm aa bb mt cd H_15 lo_16 0 0 Q (F0 mm 34 ls [.int (bI (v_13))]) := by
      intro v_13 ev_13 H_15 lo_16 hX hS ls hl
      rw [← hQ]
      refine x_zret (v := bI (v_13)) (ty := .boolean) hx hb hr (bI_nar _) hX hS hlocks dX8_isEnd_34 ?_
      have h16 : x_9 0 16 = tkI f t s.1 := by rw [ex_9, mst_eq, upd_ne (by decide)]; exact h_1.2.2.1
      unfold stS
      by_cases hk : tkI f t s.1 = 3
      · rw [decide_eq_true hk, stB_t hs0]
        exact ⟨by rw [ev_13, if_pos (h16.trans hk)]; rfl, RT_yes h_1.2 (by rw [hk]; decide) (by rw [hk]; decide) (by rw [ex_9, ev_5, if_pos (h_1.2.2.1.trans hk)]; rfl), by rw [ex_9]; exact (NG.rf.nf h_1.1).wr, by rw [ex_9, mst_ne (by decide)]; exact h_1.1.1 8 (by decide)⟩
      · rw [decide_eq_false hk, stB_f hs0]
        exact ⟨by rw [ev_13, if_neg (fun z => hk (h16.symm.trans z))]; rfl, RT_no (by decide) h_1.2 (by rw [ex_9, ev_5, if_neg (fun z => hk (h_1.2.2.1.symm.trans z))]; rfl), by rw [ex_9]; exact (NG.rf.nf h_1.1).wr, by rw [ex_9, mst_ne (by decide)]; exact h_1.1.1 8 (by decide)⟩
    refine lv_icmp_ne (tgt := 33) hx hb dX8_isEnd_26 (by decide) (fun c_12 => ?_) (fun c_12 => ?_)
    · refine lv_iconst (v := 0) hx hb dX8_isEnd_33 (by decide) ?_
      exact kJ_14 (false) (by rw [if_neg c_12]) _ _ hX hS ls (lv_sub hl [0] rfl)
    · refine lv_iconst (v := 1) hx hb dX8_isEnd_29 (by decide) ?_
      refine lv_goto (tgt := 34) hx hb dX8_isEnd_30 (by decide) ?_
      exact kJ_14 (true) (by rw [if_pos c_12]) _ _ hX hS ls (lv_sub hl [0] rfl)
  refine lv_icmp_ne (tgt := 17) hx hb dX8_isEnd_10 (by decide) (fun c_4 => ?_) (fun c_4 => ?_)
  · refine lv_iconst (v := 1) hx hb dX8_isEnd_17 (by decide) ?_
    exact kJ_6 (true) (by rw [if_neg c_4]) _ _ hX hS ls (lv_sub hl [0] rfl)
  · refine lv_iconst (v := 0) hx hb dX8_isEnd_13 (by decide) ?_
    refine lv_goto (tgt := 18) hx hb dX8_isEnd_14 (by decide) ?_
    exact kJ_6 (false) (by rw [if_pos c_4]) _ _ hX hS ls (lv_sub hl [0] rfl)

theorem kX8_kindOf_137 : (.constantLong RX8 137 (3383428) : Cond) ∈ wsX8_kindOf := by decide +kernel
theorem kX8_kindOf_139 : (.constantLong RX8 139 (123061171) : Cond) ∈ wsX8_kindOf := by decide +kernel
theorem kX8_kindOf_141 : (.constantLong RX8 141 (158523) : Cond) ∈ wsX8_kindOf := by decide +kernel
theorem kX8_kindOf_143 : (.constantLong RX8 143 (12257559) : Cond) ∈ wsX8_kindOf := by decide +kernel
theorem kX8_kindOf_145 : (.constantLong RX8 145 (369860) : Cond) ∈ wsX8_kindOf := by decide +kernel
abbrev rmX8_kindOf : Room := { frames := 0, cells := 0, slots := 0, locals := 0 }
set_option maxHeartbeats 4000000 in
set_option maxRecDepth 100000 in
theorem c_X8_kindOf (l : Launch) (G : GG) (B : Nat) (hW : WOK (wM G B)) (x : Mem) (w : Int64) : Met l yX8_kindOf wsX8_kindOf rmX8_kindOf (XP G (wM G B) [.long (w)] x) (va_Qi (fun r u => r = (kdW w) ∧ u = x) (XB G (wM G B)) (blkA B (B + 13))) 0 0 (blkA B (B + 13)) := by
  refine Met.ofW (cc := cX8_kindOf) (maxL := 2) (ret := (some .int)) (by decide) rfl ?_
  intro pp ee ss mm aa bb mt cd s1 Bd hml hv
  obtain ⟨hae, hX, hK, hE⟩ := hv
  have hx := Bd.exec
  have hb := Bd.bytes
  have hr := Bd.returns
  have hts := atoms_spec (ws := wsX8_kindOf) Bd.pre
  have hown : ss.vm.findClass RX8 = some mm.cls := findClass_of_methodNamed Bd.named
  have hlocks := Bd.notSynchronized
  have hS : va_S (blkA B (B + 13)) ss.heap ss.heap [] := va_S.rf
  have hl := lv_entry ([.long (w)]) (n := 2) (Nat.le_of_ble_eq_true rfl)
  subst hae
  rw [lg_entry_eq]
  generalize (lg_sl ([.long (w)]) ++ List.replicate (2 - (lg_sl ([.long (w)])).length) Slot.unset).toArray = ls at hl ⊢
  have hl : lv_has ls 2 [(0, .long (w))] := hl
  generalize ([.long (w)] : List Value).toArray = aa at hts ⊢
  show W pp l ee rmX8_kindOf ss mm aa bb mt cd ss.heap [] 0 0 _ (F0 mm 0 ls [])
  generalize hQ : MQ bb (va_Qi (fun r u => r = (kdW w) ∧ u = x) (XB G (wM G B)) (blkA B (B + 13))) aa ss 0 0 (blkA B (B + 13)) = Q
  refine lv_lload_n hx hb dX8_kindOf_0 rfl (lv_at hl 0 rfl) ?_
  refine lv_ldc2 (v := 3383428) hx hb hown (hts _ kX8_kindOf_137) dX8_kindOf_1 ?_
  refine W.lcmp hx hb dX8_kindOf_4 ?_
  have kJ_3 : ∀ (v_2 : Int32) (_ : v_2 = (if w = 3383428 then (1 : Int32) else (if w = 123061171 then (2 : Int32) else (if w = 158523 then (3 : Int32) else (if w = 12257559 then (4 : Int32) else (if w = 369860 then (5 : Int32) else (0 : Int32))))))) (H_4 : Heap) (lo_5 : List Loc) (_ : MR G (wM G B) x H_4) (_ : va_S (blkA B (B + 13)) ss.heap H_4 lo_5) (ls : Array Slot) (_ : lv_has ls 2 [(0, .long (w))]), W pp l ee rmX8_kindOf ss mm aa bb mt cd H_4 lo_5 0 0 Q (F0 mm 61 ls [.int (v_2)]) := by
    intro v_2 ev_2 H_4 lo_5 hX hS ls hl
    rw [← hQ]
    refine x_iret (v := v_2) hx hb hr hX hS hlocks dX8_kindOf_61 ?_
    refine ⟨?_, rfl⟩
    rw [ev_2]
    rfl
  refine x_lcne (tgt := 12) hx hb dX8_kindOf_5 (by decide) (fun c_1 => ?_) (fun c_1 => ?_)
  · refine lv_lload_n hx hb dX8_kindOf_12 rfl (lv_at hl 0 rfl) ?_
    refine lv_ldc2 (v := 123061171) hx hb hown (hts _ kX8_kindOf_139) dX8_kindOf_13 ?_
    refine W.lcmp hx hb dX8_kindOf_16 ?_
    refine x_lcne (tgt := 24) hx hb dX8_kindOf_17 (by decide) (fun c_6 => ?_) (fun c_6 => ?_)
    · refine lv_lload_n hx hb dX8_kindOf_24 rfl (lv_at hl 0 rfl) ?_
      refine lv_ldc2 (v := 158523) hx hb hown (hts _ kX8_kindOf_141) dX8_kindOf_25 ?_
      refine W.lcmp hx hb dX8_kindOf_28 ?_
      refine x_lcne (tgt := 36) hx hb dX8_kindOf_29 (by decide) (fun c_7 => ?_) (fun c_7 => ?_)
      · refine lv_lload_n hx hb dX8_kindOf_36 rfl (lv_at hl 0 rfl) ?_
        refine lv_ldc2 (v := 12257559) hx hb hown (hts _ kX8_kindOf_143) dX8_kindOf_37 ?_
        refine W.lcmp hx hb dX8_kindOf_40 ?_
        refine x_lcne (tgt := 48) hx hb dX8_kindOf_41 (by decide) (fun c_8 => ?_) (fun c_8 => ?_)
        · refine lv_lload_n hx hb dX8_kindOf_48 rfl (lv_at hl 0 rfl) ?_
          refine lv_ldc2 (v := 369860) hx hb hown (hts _ kX8_kindOf_145) dX8_kindOf_49 ?_
          refine W.lcmp hx hb dX8_kindOf_52 ?_
          refine x_lcne (tgt := 60) hx hb dX8_kindOf_53 (by decide) (fun c_9 => ?_) (fun c_9 => ?_)
          · refine lv_iconst (v := 0) hx hb dX8_kindOf_60 (by decide) ?_
            exact kJ_3 (0) (by rw [if_neg c_1, if_neg c_6, if_neg c_7, if_neg c_8, if_neg c_9]) _ _ hX hS ls (lv_sub hl [0] rfl)
          · refine lv_iconst (v := 5) hx hb dX8_kindOf_56 (by decide) ?_
            refine lv_goto (tgt := 61) hx hb dX8_kindOf_57 (by decide) ?_
            exact kJ_3 (5) (by rw [if_neg c_1, if_neg c_6, if_neg c_7, if_neg c_8, if_pos c_9]) _ _ hX hS ls (lv_sub hl [0] rfl)
        · refine lv_iconst (v := 4) hx hb dX8_kindOf_44 (by decide) ?_
          refine lv_goto (tgt := 61) hx hb dX8_kindOf_45 (by decide) ?_
          exact kJ_3 (4) (by rw [if_neg c_1, if_neg c_6, if_neg c_7, if_pos c_8]) _ _ hX hS ls (lv_sub hl [0] rfl)
      · refine lv_iconst (v := 3) hx hb dX8_kindOf_32 (by decide) ?_
        refine lv_goto (tgt := 61) hx hb dX8_kindOf_33 (by decide) ?_
        exact kJ_3 (3) (by rw [if_neg c_1, if_neg c_6, if_pos c_7]) _ _ hX hS ls (lv_sub hl [0] rfl)
    · refine lv_iconst (v := 2) hx hb dX8_kindOf_20 (by decide) ?_
      refine lv_goto (tgt := 61) hx hb dX8_kindOf_21 (by decide) ?_
      exact kJ_3 (2) (by rw [if_neg c_1, if_pos c_6]) _ _ hX hS ls (lv_sub hl [0] rfl)
  · refine lv_iconst (v := 1) hx hb dX8_kindOf_8 (by decide) ?_
    refine lv_goto (tgt := 61) hx hb dX8_kindOf_9 (by decide) ?_
    exact kJ_3 (1) (by rw [if_pos c_1]) _ _ hX hS ls (lv_sub hl [0] rfl)

theorem kX8_isTaken_31 : (.fieldLink RX8 31 "WindTakenModel" "read" "[I" : Cond) ∈ wsX8_isTaken := by decide +kernel
theorem iX8_isTaken_X8 : ∀ w ∈ wsX80, w ∈ wsX8_isTaken := by decide +kernel
abbrev rmX8_isTaken : Room := { frames := 0, cells := 0, slots := 0, locals := 0 }
set_option maxHeartbeats 4000000 in
set_option maxRecDepth 100000 in
theorem c_X8_isTaken (l : Launch) (G : GG) (B : Nat) (hW : WOK (wM G B)) (x : Mem) (a : Int32) (y : Int64) {c : Nat} {y1 : Int32} (hc : x 8 0 = nI c) (hc8 : c ≤ 8) (hy : y = y1.toInt64) : Met l yX8_isTaken wsX8_isTaken rmX8_isTaken (XP G (wM G B) [.ref (B + (0)), .int (a), .long (y)] x) (va_Qi (fun r u => r = bI (takR (x 8) c a y1) ∧ u = x) (XB G (wM G B)) (blkA B (B + 13))) 0 0 (blkA B (B + 13)) := by
  refine Met.ofW (cc := cX8_isTaken) (maxL := 6) (ret := (some .boolean)) (by decide) rfl ?_
  intro pp ee ss mm aa bb mt cd s1 Bd hml hv
  obtain ⟨hae, hX, hK, hE⟩ := hv
  have hx := Bd.exec
  have hb := Bd.bytes
  have hr := Bd.returns
  have hts := atoms_spec (ws := wsX8_isTaken) Bd.pre
  have hown : ss.vm.findClass RX8 = some mm.cls := findClass_of_methodNamed Bd.named
  have hlocks := Bd.notSynchronized
  have hS : va_S (blkA B (B + 13)) ss.heap ss.heap [] := va_S.rf
  have hl := lv_entry ([.ref (B + (0)), .int (a), .long (y)]) (n := 6) (Nat.le_of_ble_eq_true rfl)
  subst hae
  rw [lg_entry_eq]
  generalize (lg_sl ([.ref (B + (0)), .int (a), .long (y)]) ++ List.replicate (6 - (lg_sl ([.ref (B + (0)), .int (a), .long (y)])).length) Slot.unset).toArray = ls at hl ⊢
  have hl : lv_has ls 6 [(0, .ref (B + (0))), (1, .int (a)), (2, .long (y))] := hl
  generalize ([.ref (B + (0)), .int (a), .long (y)] : List Value).toArray = aa at hts ⊢
  show W pp l ee rmX8_isTaken ss mm aa bb mt cd ss.heap [] 0 0 _ (F0 mm 0 ls [])
  generalize hQ : MQ bb (va_Qi (fun r u => r = bI (takR (x 8) c a y1) ∧ u = x) (XB G (wM G B)) (blkA B (B + 13))) aa ss 0 0 (blkA B (B + 13)) = Q
  refine lv_iconst (v := 0) hx hb dX8_isTaken_0 (by decide) ?_
  refine lv_istore (lv' := [(4, .int (0)), (0, .ref (B + (0))), (1, .int (a)), (2, .long (y))]) hx hb dX8_isTaken_1 hl (by decide) rfl (fun ls hl => ?_)
  refine lv_iconst (v := 0) hx hb dX8_isTaken_3 (by decide) ?_
  refine lv_istore (lv' := [(5, .int (0)), (4, .int (0)), (0, .ref (B + (0))), (1, .int (a)), (2, .long (y))]) hx hb dX8_isTaken_4 hl (by decide) rfl (fun ls hl => ?_)
  have L_1 : ∀ (n9 : Nat) (i : Nat) (b : Bool)  (_ : n9 = c - i) (_ : i ≤ c ∧ b = !allN (fun j => !(fun j => decide (sF (x 8) j 8 = a) && decide (sF (x 8) j 9 = y1)) j) i) (H_2 : Heap) (lo_3 : List Loc) (_ : MR G (wM G B) x H_2) (_ : va_S (blkA B (B + 13)) ss.heap H_2 lo_3) (ls : Array Slot) (_ : lv_has ls 6 [(5, .int (nI i)), (4, .int (bI (b))), (0, .ref (B + (0))), (1, .int (a)), (2, .long (y))]), W pp l ee rmX8_isTaken ss mm aa bb mt cd H_2 lo_3 0 0 Q (F0 mm 6 ls []) := by
    intro n9
    induction n9 using Nat.strongRecOn with
    | _ n9 ih => 
      have ih_6 := ih
      intro i b hn9 hI H_2 lo_3 hX hS ls hl
      obtain ⟨hi, hb9⟩ := hI
      refine lv_iload hx hb dX8_isTaken_6 (lv_at hl 0 rfl) ?_
      refine lv_aload_n hx hb dX8_isTaken_8 rfl (lv_at hl 2 rfl) ?_
      refine x_get (w := (wM G B)) (a := 0) (v := .ref (B + (8))) hx hb hts iX8_isTaken_X8 hown hK hX (Nat.le_of_ble_eq_true rfl) (shM_0 (G := G) (B := B)) rfl 10 (by decide) (hts _ kX8_isTaken_31) (fun _ h9 => h9) rfl dX8_isTaken_9 ?_
      refine lv_iconst (v := 0) hx hb dX8_isTaken_12 (by decide) ?_
      refine x_iald (w := (wM G B)) (a := 8) (n := 93) (j := 0) hx hb hK hX (Nat.le_of_ble_eq_true rfl) (shM_a (G := G) (B := B) (a := 8) (f := x (8)) (by decide)) rfl (by decide) (by decide) dX8_isTaken_13 ?_
      refine lv_icmp_ge (tgt := 75) hx hb dX8_isTaken_14 (by decide) (fun c_4 => ?_) (fun c_4 => ?_)
      · have nc_4 := (n_le (a := c) (b := i) hc rfl (by omega) (by omega)).mp c_4
        refine lv_iload hx hb dX8_isTaken_75 (lv_at hl 1 rfl) ?_
        rw [← hQ]
        refine x_zret (v := bI (b)) (ty := .boolean) hx hb hr (bI_nar _) hX hS hlocks dX8_isTaken_77 ?_
        have e9 : i = c := by omega
        exact ⟨by rw [hb9, e9]; rfl, rfl⟩
      · have nc_4 := Nat.not_le.mp (fun q => c_4 ((n_le (a := c) (b := i) hc rfl (by omega) (by omega)).mpr q))
        refine lv_iload hx hb dX8_isTaken_17 (lv_at hl 1 rfl) ?_
        have kJ_7 : ∀ (v_6 : Bool) (_ : v_6 = (if b = true then true else (if (x (8) (5 + (10 * i) + 8)) = a then (if ((x (8) (5 + (10 * i) + 9) : Int32).toInt64) = y then true else false) else false))) (H_8 : Heap) (lo_9 : List Loc) (_ : MR G (wM G B) x H_8) (_ : va_S (blkA B (B + 13)) ss.heap H_8 lo_9) (ls : Array Slot) (_ : lv_has ls 6 [(5, .int (nI i)), (4, .int (bI (b))), (0, .ref (B + (0))), (1, .int (a)), (2, .long (y))]), W pp l ee rmX8_isTaken ss mm aa bb mt cd H_8 lo_9 0 0 Q (F0 mm 67 ls [.int (bI (v_6))]) := by
          intro v_6 ev_6 H_8 lo_9 hX hS ls hl
          refine lv_istore (lv' := [(4, .int (bI (v_6))), (5, .int (nI i)), (0, .ref (B + (0))), (1, .int (a)), (2, .long (y))]) hx hb dX8_isTaken_67 hl (by decide) rfl (fun ls hl => ?_)
          refine lv_iinc (v := nI (i + 1)) (lv' := [(5, .int (nI (i + 1))), (4, .int (bI (v_6))), (0, .ref (B + (0))), (1, .int (a)), (2, .long (y))]) hx hb dX8_isTaken_69 hl (k := 1) rfl (inc_nI _) (by decide) rfl (fun ls hl => ?_)
          refine lv_goto (tgt := 6) hx hb dX8_isTaken_72 (by decide) ?_
          exact ih_6 _ (by omega) (i + 1) (v_6) rfl ⟨by omega, by rw [ev_6]; exact tkn_st (P := fun j => decide (sF (x 8) j 8 = a) && decide (sF (x 8) j 9 = y1)) (by show (decide (sF (x 8) i 8 = a) && decide (sF (x 8) i 9 = y1)) = _; congr 1; rw [hy]; exact decide_eq_decide.mpr i64_eq.symm) hb9⟩ _ _ hX hS ls (lv_sub hl [0, 1, 2, 3, 4] rfl)
        refine x_ifne (tgt := 62) hx hb dX8_isTaken_19 (by decide) (fun c_5 => ?_) (fun c_5 => ?_)
        · refine lv_iconst (v := 1) hx hb dX8_isTaken_62 (by decide) ?_
          refine lv_goto (tgt := 67) hx hb dX8_isTaken_63 (by decide) ?_
          exact kJ_7 (true) (by rw [if_pos c_5]) _ _ hX hS ls (lv_sub hl [0, 1, 2, 3, 4] rfl)
        · refine lv_aload_n hx hb dX8_isTaken_22 rfl (lv_at hl 2 rfl) ?_
          refine x_get (w := (wM G B)) (a := 0) (v := .ref (B + (8))) hx hb hts iX8_isTaken_X8 hown hK hX (Nat.le_of_ble_eq_true rfl) (shM_0 (G := G) (B := B)) rfl 10 (by decide) (hts _ kX8_isTaken_31) (fun _ h9 => h9) rfl dX8_isTaken_23 ?_
          refine lv_iconst (v := 5) hx hb dX8_isTaken_26 (by decide) ?_
          refine lv_bipush (v := 10) hx hb dX8_isTaken_27 (by decide) ?_
          refine lv_iload hx hb dX8_isTaken_29 (lv_at hl 0 rfl) ?_
          refine lv_imul hx hb dX8_isTaken_31 ?_
          refine lv_iadd hx hb dX8_isTaken_32 ?_
          refine lv_bipush (v := 8) hx hb dX8_isTaken_33 (by decide) ?_
          refine lv_iadd hx hb dX8_isTaken_35 ?_
          refine x_iald (w := (wM G B)) (a := 8) (n := 93) (j := 5 + (10 * i) + 8) hx hb hK hX (Nat.le_of_ble_eq_true rfl) (shM_a (G := G) (B := B) (a := 8) (f := x (8)) (by decide)) (n_add (n_add rfl (n_mul rfl rfl)) rfl) (by omega) (by decide) dX8_isTaken_36 ?_
          refine lv_iload_n hx hb dX8_isTaken_37 rfl (lv_at hl 3 rfl) ?_
          refine lv_icmp_ne (tgt := 66) hx hb dX8_isTaken_38 (by decide) (fun c_10 => ?_) (fun c_10 => ?_)
          · refine lv_iconst (v := 0) hx hb dX8_isTaken_66 (by decide) ?_
            exact kJ_7 (false) (by rw [if_neg (ne_of_false c_5), if_neg c_10]) _ _ hX hS ls (lv_sub hl [0, 1, 2, 3, 4] rfl)
          · refine lv_aload_n hx hb dX8_isTaken_41 rfl (lv_at hl 2 rfl) ?_
            refine x_get (w := (wM G B)) (a := 0) (v := .ref (B + (8))) hx hb hts iX8_isTaken_X8 hown hK hX (Nat.le_of_ble_eq_true rfl) (shM_0 (G := G) (B := B)) rfl 10 (by decide) (hts _ kX8_isTaken_31) (fun _ h9 => h9) rfl dX8_isTaken_42 ?_
            refine lv_iconst (v := 5) hx hb dX8_isTaken_45 (by decide) ?_
            refine lv_bipush (v := 10) hx hb dX8_isTaken_46 (by decide) ?_
            refine lv_iload hx hb dX8_isTaken_48 (lv_at hl 0 rfl) ?_
            refine lv_imul hx hb dX8_isTaken_50 ?_
            refine lv_iadd hx hb dX8_isTaken_51 ?_
            refine lv_bipush (v := 9) hx hb dX8_isTaken_52 (by decide) ?_
            refine lv_iadd hx hb dX8_isTaken_54 ?_
            refine x_iald (w := (wM G B)) (a := 8) (n := 93) (j := 5 + (10 * i) + 9) hx hb hK hX (Nat.le_of_ble_eq_true rfl) (shM_a (G := G) (B := B) (a := 8) (f := x (8)) (by decide)) (n_add (n_add rfl (n_mul rfl rfl)) rfl) (by omega) (by decide) dX8_isTaken_55 ?_
            refine lv_i2l (v := (x (8) (5 + (10 * i) + 9) : Int32).toInt64) hx hb dX8_isTaken_56 rfl ?_
            refine lv_lload_n hx hb dX8_isTaken_57 rfl (lv_at hl 4 rfl) ?_
            refine W.lcmp hx hb dX8_isTaken_58 ?_
            refine x_lcne (tgt := 66) hx hb dX8_isTaken_59 (by decide) (fun c_11 => ?_) (fun c_11 => ?_)
            · refine lv_iconst (v := 0) hx hb dX8_isTaken_66 (by decide) ?_
              exact kJ_7 (false) (by rw [if_neg (ne_of_false c_5), if_pos c_10, if_neg c_11]) _ _ hX hS ls (lv_sub hl [0, 1, 2, 3, 4] rfl)
            · refine lv_iconst (v := 1) hx hb dX8_isTaken_62 (by decide) ?_
              refine lv_goto (tgt := 67) hx hb dX8_isTaken_63 (by decide) ?_
              exact kJ_7 (true) (by rw [if_neg (ne_of_false c_5), if_pos c_10, if_pos c_11]) _ _ hX hS ls (lv_sub hl [0, 1, 2, 3, 4] rfl)
  exact L_1 _ (0) (false) rfl ⟨Nat.zero_le _, rfl⟩ _ _ hX hS ls (lv_sub hl [0, 1, 2, 3, 4] rfl)
