theorem kX8_readLaw_102 : (.fieldLink RX8 102 "WindTakenModel" "kind" "I" : Cond) ∈ wsX8_readLaw := by decide +kernel
theorem iX8_readLaw_X8 : ∀ w ∈ wsX80, w ∈ wsX8_readLaw := by decide +kernel
theorem kX8_readLaw_98 : (.fieldLink RX8 98 "WindTakenModel" "worth" "J" : Cond) ∈ wsX8_readLaw := by decide +kernel
theorem kX8_readLaw_127 : (.constantLong RX8 127 (8798) : Cond) ∈ wsX8_readLaw := by decide +kernel
theorem kX8_readLaw_124 : (.fieldLink RX8 124 "WindTakenModel" "wrong" "I" : Cond) ∈ wsX8_readLaw := by decide +kernel
theorem kX8_readLaw_31 : (.fieldLink RX8 31 "WindTakenModel" "read" "[I" : Cond) ∈ wsX8_readLaw := by decide +kernel
abbrev rmX8_readLaw : Room := { frames := 3, cells := 0, slots := 0, locals := 68 }
set_option maxHeartbeats 4000000 in
set_option maxRecDepth 100000 in
theorem c_X8_readLaw (l : Launch) (G : GG) (B : Nat) (hW : WOK (wM G B)) (x : Mem) {f : Nat → Int32} {t : Nat} {s : Nat × Int32} (hf : x 4 = f) (ht9 : x 0 4 = nI t) (ht400 : t ≤ 400) (hs0 : s.2 = 0) (hp : x 0 15 = nI s.1) (hpt : s.1 ≤ t) : Met l yX8_readLaw wsX8_readLaw rmX8_readLaw (XP G (wM G B) [.ref (B + (0))] x) (va_Qi (fun r u => r = bI (decide ((lw5 f t s).2 = 0)) ∧ RT f t (lw5 f t s) u ∧ NG x u ∧ (∀ k, k ≠ 2 → k ≠ 3 → k ≠ 4 → u 8 k = x 8 k) ∧ ((lw5 f t s).2 = 0 → u 8 2 = tvI f t (lw1 f t s).1 ∧ u 8 3 = tvI f t (lw2 f t s).1 ∧ u 8 4 = tvI f t (lw3 f t s).1)) (XB G (wM G B)) (blkA B (B + 13))) 0 0 (blkA B (B + 13)) := by
  refine Met.ofW (cc := cX8_readLaw) (maxL := 1) (ret := (some .boolean)) (by decide) rfl ?_
  intro pp ee ss mm aa bb mt cd s1 Bd hml hv
  obtain ⟨hae, hX, hK, hE⟩ := hv
  have hx := Bd.exec
  have hb := Bd.bytes
  have hr := Bd.returns
  have hts := atoms_spec (ws := wsX8_readLaw) Bd.pre
  have hown : ss.vm.findClass RX8 = some mm.cls := findClass_of_methodNamed Bd.named
  have hlocks := Bd.notSynchronized
  have hS : va_S (blkA B (B + 13)) ss.heap ss.heap [] := va_S.rf
  have hl := lv_entry ([.ref (B + (0))]) (n := 1) (Nat.le_of_ble_eq_true rfl)
  subst hae
  rw [lg_entry_eq]
  generalize (lg_sl ([.ref (B + (0))]) ++ List.replicate (1 - (lg_sl ([.ref (B + (0))])).length) Slot.unset).toArray = ls at hl ⊢
  have hl : lv_has ls 1 [(0, .ref (B + (0)))] := hl
  generalize ([.ref (B + (0))] : List Value).toArray = aa at hts ⊢
  show W pp l ee rmX8_readLaw ss mm aa bb mt cd ss.heap [] 0 0 _ (F0 mm 0 ls [])
  generalize hQ : MQ bb (va_Qi (fun r u => r = bI (decide ((lw5 f t s).2 = 0)) ∧ RT f t (lw5 f t s) u ∧ NG x u ∧ (∀ k, k ≠ 2 → k ≠ 3 → k ≠ 4 → u 8 k = x 8 k) ∧ ((lw5 f t s).2 = 0 → u 8 2 = tvI f t (lw1 f t s).1 ∧ u 8 3 = tvI f t (lw2 f t s).1 ∧ u 8 4 = tvI f t (lw3 f t s).1)) (XB G (wM G B)) (blkA B (B + 13))) aa ss 0 0 (blkA B (B + 13)) = Q
  refine lv_aload_n hx hb dX8_readLaw_0 rfl (lv_at hl 0 rfl) ?_
  refine x_vf (w := (wM G B)) (va_runV (As := []) (rest := []) ⟨hx, hb, hml, hown, hts⟩ (c_X8_nextToken (l := l) (G := G) (B := B) (hW := hW) (x := x) (t := t) (p := s.1) (ht9 := ht9) (ht400 := ht400) (hp := hp) (hpt := (by omega))) (cwV 0 hts gX8_readLaw_X8_nextToken rfl rfl rfl (by decide +kernel) ⟨Nat.le_of_ble_eq_true rfl, Nat.le_of_ble_eq_true rfl⟩) (x_pv (w := (wM G B)) (a := 0) hW hX hK hE hS [] (Nat.le_of_ble_eq_true rfl) (shM_0 (G := G) (B := B)) rfl) rfl rfl hl.1 rfl (lv_room (Nat.le_of_ble_eq_true rfl)) dX8_readLaw_1 ⟨Nat.zero_le _, Nat.zero_le _⟩) hS (fun x_3 H_1 lo_2 h_1 hX hS => ?_)
  try dsimp only at h_1
  rw [hf] at h_1
  refine lv_aload_n hx hb dX8_readLaw_4 rfl (lv_at hl 0 rfl) ?_
  refine lv_aload_n hx hb dX8_readLaw_5 rfl (lv_at hl 0 rfl) ?_
  refine x_get (w := (wM G B)) (a := 0) (v := .int (x_3 (0) 16)) hx hb hts iX8_readLaw_X8 hown hK hX (Nat.le_of_ble_eq_true rfl) (shM_0 (G := G) (B := B)) rfl 16 (by decide) (hts _ kX8_readLaw_102) (fun _ h9 => h9) rfl dX8_readLaw_6 ?_
  refine lv_iconst (v := 1) hx hb dX8_readLaw_9 (by decide) ?_
  have kJ_6 : ∀ (v_5 : Bool) (_ : v_5 = (if (x_3 (0) 16) = 1 then (if (mkL (x_3 0 17) (x_3 0 21)) = 8798 then false else true) else true)) (H_7 : Heap) (lo_8 : List Loc) (_ : MR G (wM G B) x_3 H_7) (_ : va_S (blkA B (B + 13)) ss.heap H_7 lo_8) (ls : Array Slot) (_ : lv_has ls 1 [(0, .ref (B + (0)))]), W pp l ee rmX8_readLaw ss mm aa bb mt cd H_7 lo_8 0 0 Q (F0 mm 29 ls [.int (bI (v_5)), .ref (B + (0))]) := by
    intro v_5 ev_5 H_7 lo_8 hX hS ls hl
    have hv : v_5 = !nmB f t s.1 0 := by rw [ev_5]; exact nm_if hpt (by decide) h_1.2 wd_c.1
    subst hv
    refine x_put (w := (wM G B)) (a := 0) (v := bI ((!nmB f t s.1 0))) (ty := .int) hx hb hts iX8_readLaw_X8 tyX8 tyX8_ok nmX8 hown hK hW hX hS (Nat.le_of_ble_eq_true rfl) (shM_0 (G := G) (B := B)) rfl 18 (by decide) (hts _ kX8_readLaw_124) (fun _ h9 => h9) rfl (by decide +kernel) rfl rfl (Nat.le_of_ble_eq_true rfl) (shM_0 (G := G) (B := B)) dX8_readLaw_29 (fun H_10 lo_11 hX hS => ?_)
    obtain ⟨x_9, ex_9⟩ : ∃ z, z = mst x_3 (0) 18 (bI ((!nmB f t s.1 0))) := ⟨_, rfl⟩
    rw [← ex_9] at hX
    have hD1 : RT f t (lw1 f t s) x_9 := law_rt hs0 h_1.2 ex_9
    have hG1 : NG x x_9 := by rw [ex_9]; exact (NG.rf.nf h_1.1).wr
    have hf1 : x_9 4 = f := (hG1.1 4 (by decide) (by decide)).trans hf
    have ht1 : x_9 0 4 = nI t := (hG1.2 4 (by decide) (by decide) (by decide) (by decide) (by decide) (by decide)).trans ht9
    have h81 : x_9 8 = x 8 := by rw [ex_9, mst_ne (by decide)]; exact h_1.1.1 8 (by decide)
    refine lv_aload_n hx hb dX8_readLaw_32 rfl (lv_at hl 0 rfl) ?_
    refine x_get (w := (wM G B)) (a := 0) (v := .int (x_9 (0) 18)) hx hb hts iX8_readLaw_X8 hown hK hX (Nat.le_of_ble_eq_true rfl) (shM_0 (G := G) (B := B)) rfl 18 (by decide) (hts _ kX8_readLaw_124) (fun _ h9 => h9) rfl dX8_readLaw_33 ?_
    refine lv_if_ne (tgt := 49) hx hb dX8_readLaw_36 (by decide) (fun c_12 => ?_) (fun c_12 => ?_)
    · have hn1 : (lw1 f t s).2 ≠ 0 := fun z => c_12 (hD1.1.trans z)
      refine lv_iconst (v := 0) hx hb dX8_readLaw_49 (by decide) ?_
      rw [← hQ]
      refine x_zret (v := 0) (ty := .boolean) hx hb hr (by first | rfl | exact (by rw [h_109.1]; exact bI_nar _)) hX hS hlocks dX8_readLaw_50 ?_
      first | (rw [lw5_1 hn1]; exact ⟨by rw [decide_eq_false hn1]; rfl, hD1, hG1, fun k _ _ _ => by rw [h81], fun z => absurd z hn1⟩) | (rw [lw5_2 hn2]; exact ⟨by rw [decide_eq_false hn2]; rfl, h_43.2.1, hG1.tr h_43.2.2.1, fun k _ _ _ => by rw [h_43.2.2.2.1, h81], fun z => absurd z hn2⟩)
    · have hz1 : (lw1 f t s).2 = 0 := hD1.1.symm.trans c_12
      refine lv_aload_n hx hb dX8_readLaw_39 rfl (lv_at hl 0 rfl) ?_
      refine lv_iconst (v := 0) hx hb dX8_readLaw_40 (by decide) ?_
      refine lv_bipush (v := 90) hx hb dX8_readLaw_41 (by decide) ?_
      refine x_if (w := (wM G B)) (va_runV (As := [.int (0), .int (90)]) (rest := []) ⟨hx, hb, hml, hown, hts⟩ (c_X8_isNumber (l := l) (G := G) (B := B) (hW := hW) (x := x_9) (lo := 0) (hi := 90) (f := f) (t := t) (s := (lw1 f t s)) (hf := hf1) (ht9 := ht1) (ht400 := ht400) (hs0 := hz1) (hp := (hD1.2.2 hz1)) (hpt := (stB_le hpt))) (cwV 2 hts gX8_readLaw_X8_isNumber rfl rfl rfl (by decide +kernel) ⟨Nat.le_of_ble_eq_true rfl, Nat.le_of_ble_eq_true rfl⟩) (x_pv (w := (wM G B)) (a := 0) hW hX hK hE hS [.int (0), .int (90)] (Nat.le_of_ble_eq_true rfl) (shM_0 (G := G) (B := B)) rfl) rfl rfl hl.1 rfl (lv_room (Nat.le_of_ble_eq_true rfl)) dX8_readLaw_43 ⟨Nat.zero_le _, Nat.zero_le _⟩) hS (fun r_15 x_16 H_13 lo_14 h_43 hX hS => ?_)
      try dsimp only at h_43
      refine lv_if_ne (tgt := 51) hx hb dX8_readLaw_46 (by decide) (fun c_17 => ?_) (fun c_17 => ?_)
      · have hz2 : (lw2 f t s).2 = 0 := num_t h_43.1 c_17
        refine lv_aload_n hx hb dX8_readLaw_51 rfl (lv_at hl 0 rfl) ?_
        refine x_get (w := (wM G B)) (a := 0) (v := .ref (B + (8))) hx hb hts iX8_readLaw_X8 hown hK hX (Nat.le_of_ble_eq_true rfl) (shM_0 (G := G) (B := B)) rfl 10 (by decide) (hts _ kX8_readLaw_31) (fun _ h9 => h9) rfl dX8_readLaw_52 ?_
        refine lv_iconst (v := 2) hx hb dX8_readLaw_55 (by decide) ?_
        refine lv_aload_n hx hb dX8_readLaw_56 rfl (lv_at hl 0 rfl) ?_
        refine x_get (w := (wM G B)) (a := 0) (v := .long (mkL (x_16 0 17) (x_16 0 21))) hx hb hts iX8_readLaw_X8 hown hK hX (Nat.le_of_ble_eq_true rfl) (shM_0 (G := G) (B := B)) rfl 17 (by decide) (hts _ kX8_readLaw_98) (fun _ h9 => h9) rfl dX8_readLaw_57 ?_
        refine lv_l2i (v := (mkL (x_16 0 17) (x_16 0 21) : Int64).toInt32) hx hb dX8_readLaw_60 rfl ?_
        refine x_iast (w := (wM G B)) (a := 8) (n := 93) (j := 2) hx hb hK hW hX hS (Nat.le_of_ble_eq_true rfl) (fun f => (shM_a (G := G) (B := B) (a := 8) (f := f) (by decide))) rfl (by decide) (by decide) dX8_readLaw_61 (fun H_19 lo_20 hX hS => ?_)
        obtain ⟨x_18, ex_18⟩ : ∃ z, z = mst x_16 (8) 2 ((mkL (x_16 0 17) (x_16 0 21) : Int64).toInt32) := ⟨_, rfl⟩
        rw [← ex_18] at hX
        have hD2 : RT f t (lw2 f t s) x_18 := h_43.2.1.off (by rw [ex_18, mst_ne (by decide)])
        have hG2 : NG x x_18 := by rw [ex_18]; exact (hG1.tr h_43.2.2.1).r8
        have hf2 : x_18 4 = f := (hG2.1 4 (by decide) (by decide)).trans hf
        have ht2 : x_18 0 4 = nI t := (hG2.2 4 (by decide) (by decide) (by decide) (by decide) (by decide) (by decide)).trans ht9
        have h82 : x_18 8 = upd (x 8) 2 (tvI f t (lw1 f t s).1) := by rw [ex_18, mst_eq, h_43.2.2.2.1, h81, wth_i (h_43.2.2.2.2.2 hz2)]
        refine lv_aload_n hx hb dX8_readLaw_62 rfl (lv_at hl 0 rfl) ?_
        refine lv_iconst (v := 0) hx hb dX8_readLaw_63 (by decide) ?_
        refine lv_bipush (v := 50) hx hb dX8_readLaw_64 (by decide) ?_
        refine x_if (w := (wM G B)) (va_runV (As := [.int (0), .int (50)]) (rest := []) ⟨hx, hb, hml, hown, hts⟩ (c_X8_isNumber (l := l) (G := G) (B := B) (hW := hW) (x := x_18) (lo := 0) (hi := 50) (f := f) (t := t) (s := (lw2 f t s)) (hf := hf2) (ht9 := ht2) (ht400 := ht400) (hs0 := hz2) (hp := (hD2.2.2 hz2)) (hpt := (stN_le (stB_le hpt)))) (cwV 2 hts gX8_readLaw_X8_isNumber rfl rfl rfl (by decide +kernel) ⟨Nat.le_of_ble_eq_true rfl, Nat.le_of_ble_eq_true rfl⟩) (x_pv (w := (wM G B)) (a := 0) hW hX hK hE hS [.int (0), .int (50)] (Nat.le_of_ble_eq_true rfl) (shM_0 (G := G) (B := B)) rfl) rfl rfl hl.1 rfl (lv_room (Nat.le_of_ble_eq_true rfl)) dX8_readLaw_66 ⟨Nat.zero_le _, Nat.zero_le _⟩) hS (fun r_23 x_24 H_21 lo_22 h_66 hX hS => ?_)
        try dsimp only at h_66
        refine lv_if_ne (tgt := 74) hx hb dX8_readLaw_69 (by decide) (fun c_25 => ?_) (fun c_25 => ?_)
        · have hz3 : (lw3 f t s).2 = 0 := num_t h_66.1 c_25
          refine lv_aload_n hx hb dX8_readLaw_74 rfl (lv_at hl 0 rfl) ?_
          refine x_get (w := (wM G B)) (a := 0) (v := .ref (B + (8))) hx hb hts iX8_readLaw_X8 hown hK hX (Nat.le_of_ble_eq_true rfl) (shM_0 (G := G) (B := B)) rfl 10 (by decide) (hts _ kX8_readLaw_31) (fun _ h9 => h9) rfl dX8_readLaw_75 ?_
          refine lv_iconst (v := 3) hx hb dX8_readLaw_78 (by decide) ?_
          refine lv_aload_n hx hb dX8_readLaw_79 rfl (lv_at hl 0 rfl) ?_
          refine x_get (w := (wM G B)) (a := 0) (v := .long (mkL (x_24 0 17) (x_24 0 21))) hx hb hts iX8_readLaw_X8 hown hK hX (Nat.le_of_ble_eq_true rfl) (shM_0 (G := G) (B := B)) rfl 17 (by decide) (hts _ kX8_readLaw_98) (fun _ h9 => h9) rfl dX8_readLaw_80 ?_
          refine lv_l2i (v := (mkL (x_24 0 17) (x_24 0 21) : Int64).toInt32) hx hb dX8_readLaw_83 rfl ?_
          refine x_iast (w := (wM G B)) (a := 8) (n := 93) (j := 3) hx hb hK hW hX hS (Nat.le_of_ble_eq_true rfl) (fun f => (shM_a (G := G) (B := B) (a := 8) (f := f) (by decide))) rfl (by decide) (by decide) dX8_readLaw_84 (fun H_27 lo_28 hX hS => ?_)
          obtain ⟨x_26, ex_26⟩ : ∃ z, z = mst x_24 (8) 3 ((mkL (x_24 0 17) (x_24 0 21) : Int64).toInt32) := ⟨_, rfl⟩
          rw [← ex_26] at hX
          have hD3 : RT f t (lw3 f t s) x_26 := h_66.2.1.off (by rw [ex_26, mst_ne (by decide)])
          have hG3 : NG x x_26 := by rw [ex_26]; exact (hG2.tr h_66.2.2.1).r8
          have hf3 : x_26 4 = f := (hG3.1 4 (by decide) (by decide)).trans hf
          have ht3 : x_26 0 4 = nI t := (hG3.2 4 (by decide) (by decide) (by decide) (by decide) (by decide) (by decide)).trans ht9
          have h83 : x_26 8 = upd (upd (x 8) 2 (tvI f t (lw1 f t s).1)) 3 (tvI f t (lw2 f t s).1) := by rw [ex_26, mst_eq, h_66.2.2.2.1, h82, wth_i (h_66.2.2.2.2.2 hz3)]
          refine lv_aload_n hx hb dX8_readLaw_85 rfl (lv_at hl 0 rfl) ?_
          refine lv_iconst (v := 0) hx hb dX8_readLaw_86 (by decide) ?_
          refine lv_bipush (v := 99) hx hb dX8_readLaw_87 (by decide) ?_
          refine x_if (w := (wM G B)) (va_runV (As := [.int (0), .int (99)]) (rest := []) ⟨hx, hb, hml, hown, hts⟩ (c_X8_isNumber (l := l) (G := G) (B := B) (hW := hW) (x := x_26) (lo := 0) (hi := 99) (f := f) (t := t) (s := (lw3 f t s)) (hf := hf3) (ht9 := ht3) (ht400 := ht400) (hs0 := hz3) (hp := (hD3.2.2 hz3)) (hpt := (stN_le (stN_le (stB_le hpt))))) (cwV 2 hts gX8_readLaw_X8_isNumber rfl rfl rfl (by decide +kernel) ⟨Nat.le_of_ble_eq_true rfl, Nat.le_of_ble_eq_true rfl⟩) (x_pv (w := (wM G B)) (a := 0) hW hX hK hE hS [.int (0), .int (99)] (Nat.le_of_ble_eq_true rfl) (shM_0 (G := G) (B := B)) rfl) rfl rfl hl.1 rfl (lv_room (Nat.le_of_ble_eq_true rfl)) dX8_readLaw_89 ⟨Nat.zero_le _, Nat.zero_le _⟩) hS (fun r_31 x_32 H_29 lo_30 h_89 hX hS => ?_)
          try dsimp only at h_89
          refine lv_if_ne (tgt := 97) hx hb dX8_readLaw_92 (by decide) (fun c_33 => ?_) (fun c_33 => ?_)
          · have hz4 : (lw4 f t s).2 = 0 := num_t h_89.1 c_33
            refine lv_aload_n hx hb dX8_readLaw_97 rfl (lv_at hl 0 rfl) ?_
            refine x_get (w := (wM G B)) (a := 0) (v := .ref (B + (8))) hx hb hts iX8_readLaw_X8 hown hK hX (Nat.le_of_ble_eq_true rfl) (shM_0 (G := G) (B := B)) rfl 10 (by decide) (hts _ kX8_readLaw_31) (fun _ h9 => h9) rfl dX8_readLaw_98 ?_
            refine lv_iconst (v := 4) hx hb dX8_readLaw_101 (by decide) ?_
            refine lv_aload_n hx hb dX8_readLaw_102 rfl (lv_at hl 0 rfl) ?_
            refine x_get (w := (wM G B)) (a := 0) (v := .long (mkL (x_32 0 17) (x_32 0 21))) hx hb hts iX8_readLaw_X8 hown hK hX (Nat.le_of_ble_eq_true rfl) (shM_0 (G := G) (B := B)) rfl 17 (by decide) (hts _ kX8_readLaw_98) (fun _ h9 => h9) rfl dX8_readLaw_103 ?_
            refine lv_l2i (v := (mkL (x_32 0 17) (x_32 0 21) : Int64).toInt32) hx hb dX8_readLaw_106 rfl ?_
            refine x_iast (w := (wM G B)) (a := 8) (n := 93) (j := 4) hx hb hK hW hX hS (Nat.le_of_ble_eq_true rfl) (fun f => (shM_a (G := G) (B := B) (a := 8) (f := f) (by decide))) rfl (by decide) (by decide) dX8_readLaw_107 (fun H_35 lo_36 hX hS => ?_)
            obtain ⟨x_34, ex_34⟩ : ∃ z, z = mst x_32 (8) 4 ((mkL (x_32 0 17) (x_32 0 21) : Int64).toInt32) := ⟨_, rfl⟩
            rw [← ex_34] at hX
            have hD4 : RT f t (lw4 f t s) x_34 := h_89.2.1.off (by rw [ex_34, mst_ne (by decide)])
            have hG4 : NG x x_34 := by rw [ex_34]; exact (hG3.tr h_89.2.2.1).r8
            have hf4 : x_34 4 = f := (hG4.1 4 (by decide) (by decide)).trans hf
            have ht4 : x_34 0 4 = nI t := (hG4.2 4 (by decide) (by decide) (by decide) (by decide) (by decide) (by decide)).trans ht9
            have h84 : x_34 8 = upd (upd (upd (x 8) 2 (tvI f t (lw1 f t s).1)) 3 (tvI f t (lw2 f t s).1)) 4 (tvI f t (lw3 f t s).1) := by rw [ex_34, mst_eq, h_89.2.2.2.1, h83, wth_i (h_89.2.2.2.2.2 hz4)]
            refine lv_aload_n hx hb dX8_readLaw_108 rfl (lv_at hl 0 rfl) ?_
            refine x_if (w := (wM G B)) (va_runV (As := []) (rest := []) ⟨hx, hb, hml, hown, hts⟩ (c_X8_isEnd (l := l) (G := G) (B := B) (hW := hW) (x := x_34) (f := f) (t := t) (s := (lw4 f t s)) (hf := hf4) (ht9 := ht4) (ht400 := ht400) (hs0 := hz4) (hp := (hD4.2.2 hz4)) (hpt := (stN_le (stN_le (stN_le (stB_le hpt)))))) (cwV 0 hts gX8_readLaw_X8_isEnd rfl rfl rfl (by decide +kernel) ⟨Nat.le_of_ble_eq_true rfl, Nat.le_of_ble_eq_true rfl⟩) (x_pv (w := (wM G B)) (a := 0) hW hX hK hE hS [] (Nat.le_of_ble_eq_true rfl) (shM_0 (G := G) (B := B)) rfl) rfl rfl hl.1 rfl (lv_room (Nat.le_of_ble_eq_true rfl)) dX8_readLaw_109 ⟨Nat.zero_le _, Nat.zero_le _⟩) hS (fun r_39 x_40 H_37 lo_38 h_109 hX hS => ?_)
            try dsimp only at h_109
            rw [← hQ]
            refine x_zret (v := r_39) (ty := .boolean) hx hb hr (by first | rfl | exact (by rw [h_109.1]; exact bI_nar _)) hX hS hlocks dX8_readLaw_112 ?_
            refine ⟨h_109.1, h_109.2.1, hG4.tr h_109.2.2.1, fun k k2 k3 k4 => by rw [h_109.2.2.2, h84, upd_ne k4, upd_ne k3, upd_ne k2], fun _ => ?_⟩
            rw [h_109.2.2.2, h84]
            exact ⟨rfl, rfl, rfl⟩
          · have hn4 : (lw4 f t s).2 ≠ 0 := num_f h_89.1 c_33
            refine lv_iconst (v := 0) hx hb dX8_readLaw_95 (by decide) ?_
            rw [← hQ]
            refine x_zret (v := 0) (ty := .boolean) hx hb hr (by first | rfl | exact (by rw [h_109.1]; exact bI_nar _)) hX hS hlocks dX8_readLaw_96 ?_
            rw [lw5_4 hn4]
            exact ⟨by rw [decide_eq_false hn4]; rfl, h_89.2.1, hG3.tr h_89.2.2.1, fun k k2 k3 _ => by rw [h_89.2.2.2.1, h83, upd_ne k3, upd_ne k2], fun z => absurd z hn4⟩
        · have hn3 : (lw3 f t s).2 ≠ 0 := num_f h_66.1 c_25
          refine lv_iconst (v := 0) hx hb dX8_readLaw_72 (by decide) ?_
          rw [← hQ]
          refine x_zret (v := 0) (ty := .boolean) hx hb hr (by first | rfl | exact (by rw [h_109.1]; exact bI_nar _)) hX hS hlocks dX8_readLaw_73 ?_
          rw [lw5_3 hn3]
          exact ⟨by rw [decide_eq_false hn3]; rfl, h_66.2.1, hG2.tr h_66.2.2.1, fun k k2 _ _ => by rw [h_66.2.2.2.1, h82, upd_ne k2], fun z => absurd z hn3⟩
      · have hn2 : (lw2 f t s).2 ≠ 0 := num_f h_43.1 c_17
        refine lv_iconst (v := 0) hx hb dX8_readLaw_49 (by decide) ?_
        rw [← hQ]
        refine x_zret (v := 0) (ty := .boolean) hx hb hr (by first | rfl | exact (by rw [h_109.1]; exact bI_nar _)) hX hS hlocks dX8_readLaw_50 ?_
        first | (rw [lw5_1 hn1]; exact ⟨by rw [decide_eq_false hn1]; rfl, hD1, hG1, fun k _ _ _ => by rw [h81], fun z => absurd z hn1⟩) | (rw [lw5_2 hn2]; exact ⟨by rw [decide_eq_false hn2]; rfl, h_43.2.1, hG1.tr h_43.2.2.1, fun k _ _ _ => by rw [h_43.2.2.2.1, h81], fun z => absurd z hn2⟩)
  refine lv_icmp_ne (tgt := 28) hx hb dX8_readLaw_10 (by decide) (fun c_4 => ?_) (fun c_4 => ?_)
  · refine lv_iconst (v := 1) hx hb dX8_readLaw_28 (by decide) ?_
    exact kJ_6 (true) (by rw [if_neg c_4]) _ _ hX hS ls (lv_sub hl [0] rfl)
  · refine lv_aload_n hx hb dX8_readLaw_13 rfl (lv_at hl 0 rfl) ?_
    refine x_get (w := (wM G B)) (a := 0) (v := .long (mkL (x_3 0 17) (x_3 0 21))) hx hb hts iX8_readLaw_X8 hown hK hX (Nat.le_of_ble_eq_true rfl) (shM_0 (G := G) (B := B)) rfl 17 (by decide) (hts _ kX8_readLaw_98) (fun _ h9 => h9) rfl dX8_readLaw_14 ?_
    refine lv_ldc2 (v := 8798) hx hb hown (hts _ kX8_readLaw_127) dX8_readLaw_17 ?_
    refine W.lcmp hx hb dX8_readLaw_20 ?_
    refine x_lcne (tgt := 28) hx hb dX8_readLaw_21 (by decide) (fun c_41 => ?_) (fun c_41 => ?_)
    · refine lv_iconst (v := 1) hx hb dX8_readLaw_28 (by decide) ?_
      exact kJ_6 (true) (by rw [if_pos c_4, if_neg c_41]) _ _ hX hS ls (lv_sub hl [0] rfl)
    · refine lv_iconst (v := 0) hx hb dX8_readLaw_24 (by decide) ?_
      refine lv_goto (tgt := 29) hx hb dX8_readLaw_25 (by decide) ?_
      exact kJ_6 (false) (by rw [if_pos c_4, if_pos c_41]) _ _ hX hS ls (lv_sub hl [0] rfl)
