theorem kX8_readMill_31 : (.fieldLink RX8 31 "WindTakenModel" "read" "[I" : Cond) ∈ wsX8_readMill := by decide +kernel
theorem iX8_readMill_X8 : ∀ w ∈ wsX80, w ∈ wsX8_readMill := by decide +kernel
theorem kX8_readMill_102 : (.fieldLink RX8 102 "WindTakenModel" "kind" "I" : Cond) ∈ wsX8_readMill := by decide +kernel
theorem kX8_readMill_98 : (.fieldLink RX8 98 "WindTakenModel" "worth" "J" : Cond) ∈ wsX8_readMill := by decide +kernel
theorem kX8_readMill_147 : (.constantLong RX8 147 (262776) : Cond) ∈ wsX8_readMill := by decide +kernel
theorem kX8_readMill_124 : (.fieldLink RX8 124 "WindTakenModel" "wrong" "I" : Cond) ∈ wsX8_readMill := by decide +kernel
abbrev rmX8_readMill : Room := { frames := 3, cells := 0, slots := 0, locals := 68 }
set_option maxHeartbeats 4000000 in
set_option maxRecDepth 100000 in
theorem c_X8_readMill (l : Launch) (G : GG) (B : Nat) (hW : WOK (wM G B)) (x : Mem) {f : Nat → Int32} {t : Nat} {s : Nat × Int32} {c : Nat} (hf : x 4 = f) (ht9 : x 0 4 = nI t) (ht400 : t ≤ 400) (hs0 : s.2 = 0) (hNT : NT f t s.1 x) (hpt : s.1 ≤ t) (hc : x 8 0 = nI c) (hc8 : c ≤ 8) : Met l yX8_readMill wsX8_readMill rmX8_readMill (XP G (wM G B) [.ref (B + (0))] x) (va_Qi (fun r u => r = bI (decide ((mlS f t s c (x 8)).2 = 0)) ∧ RT f t (mlS f t s c (x 8)) u ∧ NG x u ∧ ((mlS f t s c (x 8)).2 = 0 → c < 8 ∧ u 8 = mlW f t s c (x 8))) (XB G (wM G B)) (blkA B (B + 13))) 0 0 (blkA B (B + 13)) := by
  refine Met.ofW (cc := cX8_readMill) (maxL := 6) (ret := (some .boolean)) (by decide) rfl ?_
  intro pp ee ss mm aa bb mt cd s1 Bd hml hv
  obtain ⟨hae, hX, hK, hE⟩ := hv
  have hx := Bd.exec
  have hb := Bd.bytes
  have hr := Bd.returns
  have hts := atoms_spec (ws := wsX8_readMill) Bd.pre
  have hown : ss.vm.findClass RX8 = some mm.cls := findClass_of_methodNamed Bd.named
  have hlocks := Bd.notSynchronized
  have hS : va_S (blkA B (B + 13)) ss.heap ss.heap [] := va_S.rf
  have hl := lv_entry ([.ref (B + (0))]) (n := 6) (Nat.le_of_ble_eq_true rfl)
  subst hae
  rw [lg_entry_eq]
  generalize (lg_sl ([.ref (B + (0))]) ++ List.replicate (6 - (lg_sl ([.ref (B + (0))])).length) Slot.unset).toArray = ls at hl ⊢
  have hl : lv_has ls 6 [(0, .ref (B + (0)))] := hl
  generalize ([.ref (B + (0))] : List Value).toArray = aa at hts ⊢
  show W pp l ee rmX8_readMill ss mm aa bb mt cd ss.heap [] 0 0 _ (F0 mm 0 ls [])
  generalize hQ : MQ bb (va_Qi (fun r u => r = bI (decide ((mlS f t s c (x 8)).2 = 0)) ∧ RT f t (mlS f t s c (x 8)) u ∧ NG x u ∧ ((mlS f t s c (x 8)).2 = 0 → c < 8 ∧ u 8 = mlW f t s c (x 8))) (XB G (wM G B)) (blkA B (B + 13))) aa ss 0 0 (blkA B (B + 13)) = Q
  refine lv_aload_n hx hb dX8_readMill_0 rfl (lv_at hl 0 rfl) ?_
  refine x_get (w := (wM G B)) (a := 0) (v := .ref (B + (8))) hx hb hts iX8_readMill_X8 hown hK hX (Nat.le_of_ble_eq_true rfl) (shM_0 (G := G) (B := B)) rfl 10 (by decide) (hts _ kX8_readMill_31) (fun _ h9 => h9) rfl dX8_readMill_1 ?_
  refine lv_iconst (v := 0) hx hb dX8_readMill_4 (by decide) ?_
  refine x_iald (w := (wM G B)) (a := 8) (n := 93) (j := 0) hx hb hK hX (Nat.le_of_ble_eq_true rfl) (shM_a (G := G) (B := B) (a := 8) (f := x (8)) (by decide)) rfl (by decide) (by decide) dX8_readMill_5 ?_
  refine lv_istore_n (lv' := [(1, .int (x (8) 0)), (0, .ref (B + (0)))]) hx hb dX8_readMill_6 rfl hl (by decide) rfl (fun ls hl => ?_)
  refine lv_aload_n hx hb dX8_readMill_7 rfl (lv_at hl 1 rfl) ?_
  refine lv_aload_n hx hb dX8_readMill_8 rfl (lv_at hl 1 rfl) ?_
  refine x_get (w := (wM G B)) (a := 0) (v := .int (x (0) 16)) hx hb hts iX8_readMill_X8 hown hK hX (Nat.le_of_ble_eq_true rfl) (shM_0 (G := G) (B := B)) rfl 16 (by decide) (hts _ kX8_readMill_102) (fun _ h9 => h9) rfl dX8_readMill_9 ?_
  refine lv_iconst (v := 1) hx hb dX8_readMill_12 (by decide) ?_
  have kJ_3 : ∀ (v_2 : Int32) (_ : v_2 = (if (x (0) 16) = 1 then (if (mkL (x 0 17) (x 0 21)) = 262776 then (if (x (8) 0) = 8 then (3 : Int32) else (0 : Int32)) else (1 : Int32)) else (1 : Int32))) (H_4 : Heap) (lo_5 : List Loc) (_ : MR G (wM G B) x H_4) (_ : va_S (blkA B (B + 13)) ss.heap H_4 lo_5) (ls : Array Slot) (_ : lv_has ls 6 [(1, .int (x (8) 0)), (0, .ref (B + (0)))]), W pp l ee rmX8_readMill ss mm aa bb mt cd H_4 lo_5 0 0 Q (F0 mm 42 ls [.int (v_2), .ref (B + (0))]) := by
    intro v_2 ev_2 H_4 lo_5 hX hS ls hl
    refine x_put (w := (wM G B)) (a := 0) (v := v_2) (ty := .int) hx hb hts iX8_readMill_X8 tyX8 tyX8_ok nmX8 hown hK hW hX hS (Nat.le_of_ble_eq_true rfl) (shM_0 (G := G) (B := B)) rfl 18 (by decide) (hts _ kX8_readMill_124) (fun _ h9 => h9) rfl (by decide +kernel) rfl rfl (Nat.le_of_ble_eq_true rfl) (shM_0 (G := G) (B := B)) dX8_readMill_42 (fun H_7 lo_8 hX hS => ?_)
    obtain ⟨x_6, ex_6⟩ : ∃ z, z = mst x (0) 18 (v_2) := ⟨_, rfl⟩
    rw [← ex_6] at hX
    have z_9 : x_6 (8) 0 = nI (c) := by rw [ex_6, mst_ne (by first | decide | omega)]; exact hc
    have hD1 : RT f t (ml1 f t s c) x_6 := mill_rt hpt hs0 hc8 hNT (by rw [ex_6, ev_2, hc])
    have hG1 : NG x x_6 := by rw [ex_6]; exact NG.rf.wr
    have hf1 : x_6 4 = f := (hG1.1 4 (by decide) (by decide)).trans hf
    have ht1 : x_6 0 4 = nI t := (hG1.2 4 (by decide) (by decide) (by decide) (by decide) (by decide) (by decide)).trans ht9
    refine lv_aload_n hx hb dX8_readMill_45 rfl (lv_at hl 1 rfl) ?_
    refine x_get (w := (wM G B)) (a := 0) (v := .int (x_6 (0) 18)) hx hb hts iX8_readMill_X8 hown hK hX (Nat.le_of_ble_eq_true rfl) (shM_0 (G := G) (B := B)) rfl 18 (by decide) (hts _ kX8_readMill_124) (fun _ h9 => h9) rfl dX8_readMill_46 ?_
    refine lv_if_eq (tgt := 54) hx hb dX8_readMill_49 (by decide) (fun c_10 => ?_) (fun c_10 => ?_)
    · have hz1 : (ml1 f t s c).2 = 0 := hD1.1.symm.trans c_10
      have hc7 : c < 8 := Nat.lt_of_not_le (fun z => ml1_full (f := f) (t := t) (s := s) z hz1)
      refine lv_aload_n hx hb dX8_readMill_54 rfl (lv_at hl 1 rfl) ?_
      refine x_vf (w := (wM G B)) (va_runV (As := []) (rest := []) ⟨hx, hb, hml, hown, hts⟩ (c_X8_nextToken (l := l) (G := G) (B := B) (hW := hW) (x := x_6) (t := t) (p := (ml1 f t s c).1) (ht9 := ht1) (ht400 := ht400) (hp := (hD1.2.2 hz1)) (hpt := (ml1_le hpt))) (cwV 0 hts gX8_readMill_X8_nextToken rfl rfl rfl (by decide +kernel) ⟨Nat.le_of_ble_eq_true rfl, Nat.le_of_ble_eq_true rfl⟩) (x_pv (w := (wM G B)) (a := 0) hW hX hK hE hS [] (Nat.le_of_ble_eq_true rfl) (shM_0 (G := G) (B := B)) rfl) rfl rfl hl.1 rfl (lv_room (Nat.le_of_ble_eq_true rfl)) dX8_readMill_55 ⟨Nat.zero_le _, Nat.zero_le _⟩) hS (fun x_13 H_11 lo_12 h_55 hX hS => ?_)
      try dsimp only at h_55
      rw [hf1] at h_55
      have hc55 : x_13 (8) 0 = nI c := by rw [h_55.1.1 8 (by decide), ex_6, mst_ne (by decide)]; exact hc
      refine lv_aload_n hx hb dX8_readMill_58 rfl (lv_at hl 1 rfl) ?_
      refine x_get (w := (wM G B)) (a := 0) (v := .int (x_13 (0) 16)) hx hb hts iX8_readMill_X8 hown hK hX (Nat.le_of_ble_eq_true rfl) (shM_0 (G := G) (B := B)) rfl 16 (by decide) (hts _ kX8_readMill_102) (fun _ h9 => h9) rfl dX8_readMill_59 ?_
      refine lv_iconst (v := 1) hx hb dX8_readMill_62 (by decide) ?_
      have kJ_16 : ∀ (v_15 : Int32) (_ : v_15 = (if (x_13 (0) 16) = 1 then (kdW (mkL (x_13 0 17) (x_13 0 21))) else (0 : Int32))) (H_17 : Heap) (lo_18 : List Loc) (_ : MR G (wM G B) x_13 H_17) (_ : va_S (blkA B (B + 13)) ss.heap H_17 lo_18) (ls : Array Slot) (_ : lv_has ls 6 [(1, .int (x (8) 0)), (0, .ref (B + (0)))]), W pp l ee rmX8_readMill ss mm aa bb mt cd H_17 lo_18 0 0 Q (F0 mm 77 ls [.int (v_15)]) := by
        intro v_15 ev_15 H_17 lo_18 hX hS ls hl
        have hv : v_15 = nI (srtN f t (ml1 f t s c).1) := by rw [ev_15]; exact srt_ref (ml1_le hpt) h_55.2
        subst hv
        refine lv_istore_n (lv' := [(2, .int (nI (srtN f t (ml1 f t s c).1))), (1, .int (x (8) 0)), (0, .ref (B + (0)))]) hx hb dX8_readMill_77 rfl hl (by decide) rfl (fun ls hl => ?_)
        refine lv_aload_n hx hb dX8_readMill_78 rfl (lv_at hl 2 rfl) ?_
        refine lv_iload_n hx hb dX8_readMill_79 rfl (lv_at hl 0 rfl) ?_
        have kJ_21 : ∀ (v_20 : Bool) (_ : v_20 = (if (nI (srtN f t (ml1 f t s c).1)) = 0 then true else false)) (H_22 : Heap) (lo_23 : List Loc) (_ : MR G (wM G B) x_13 H_22) (_ : va_S (blkA B (B + 13)) ss.heap H_22 lo_23) (ls : Array Slot) (_ : lv_has ls 6 [(2, .int (nI (srtN f t (ml1 f t s c).1))), (1, .int (x (8) 0)), (0, .ref (B + (0)))]), W pp l ee rmX8_readMill ss mm aa bb mt cd H_22 lo_23 0 0 Q (F0 mm 88 ls [.int (bI (v_20)), .ref (B + (0))]) := by
          intro v_20 ev_20 H_22 lo_23 hX hS ls hl
          refine x_put (w := (wM G B)) (a := 0) (v := bI (v_20)) (ty := .int) hx hb hts iX8_readMill_X8 tyX8 tyX8_ok nmX8 hown hK hW hX hS (Nat.le_of_ble_eq_true rfl) (shM_0 (G := G) (B := B)) rfl 18 (by decide) (hts _ kX8_readMill_124) (fun _ h9 => h9) rfl (by decide +kernel) rfl rfl (Nat.le_of_ble_eq_true rfl) (shM_0 (G := G) (B := B)) dX8_readMill_88 (fun H_25 lo_26 hX hS => ?_)
          obtain ⟨x_24, ex_24⟩ : ∃ z, z = mst x_13 (0) 18 (bI (v_20)) := ⟨_, rfl⟩
          rw [← ex_24] at hX
          have hD2 : RT f t (ml2 f t s c) x_24 := sort_rt hz1 h_55.2 (by rw [ex_24, ev_20])
          have hG2 : NG x x_24 := by rw [ex_24]; exact (hG1.nf h_55.1).wr
          have hf2 : x_24 4 = f := (hG2.1 4 (by decide) (by decide)).trans hf
          have ht2 : x_24 0 4 = nI t := (hG2.2 4 (by decide) (by decide) (by decide) (by decide) (by decide) (by decide)).trans ht9
          have h82 : x_24 8 = x 8 := by rw [ex_24, mst_ne (by decide), h_55.1.1 8 (by decide), ex_6, mst_ne (by decide)]
          refine lv_aload_n hx hb dX8_readMill_91 rfl (lv_at hl 2 rfl) ?_
          refine x_get (w := (wM G B)) (a := 0) (v := .int (x_24 (0) 18)) hx hb hts iX8_readMill_X8 hown hK hX (Nat.le_of_ble_eq_true rfl) (shM_0 (G := G) (B := B)) rfl 18 (by decide) (hts _ kX8_readMill_124) (fun _ h9 => h9) rfl dX8_readMill_92 ?_
          refine lv_if_ne (tgt := 108) hx hb dX8_readMill_95 (by decide) (fun c_27 => ?_) (fun c_27 => ?_)
          · have hn2 : (ml2 f t s c).2 ≠ 0 := fun z => c_27 (hD2.1.trans z)
            refine lv_iconst (v := 0) hx hb dX8_readMill_108 (by decide) ?_
            rw [← hQ]
            refine x_zret (v := 0) (ty := .boolean) hx hb hr (by first | rfl | exact (by rw [h_304.1]; exact bI_nar _)) hX hS hlocks dX8_readMill_109 ?_
            first | (rw [mlS_fz2 hn2]; exact ⟨by rw [decide_eq_false hn2]; rfl, hD2, hG2, fun z => absurd z hn2⟩) | (rw [mlS_fz3 hn3]; exact ⟨by rw [decide_eq_false hn3]; rfl, h_102.2.1, hG2.tr h_102.2.2.1, fun z => absurd z hn3⟩)
          · have hz2 : (ml2 f t s c).2 = 0 := hD2.1.symm.trans c_27
            refine lv_aload_n hx hb dX8_readMill_98 rfl (lv_at hl 2 rfl) ?_
            refine lv_iconst (v := 0) hx hb dX8_readMill_99 (by decide) ?_
            refine lv_bipush (v := 20) hx hb dX8_readMill_100 (by decide) ?_
            refine x_if (w := (wM G B)) (va_runV (As := [.int (0), .int (20)]) (rest := []) ⟨hx, hb, hml, hown, hts⟩ (c_X8_isNumber (l := l) (G := G) (B := B) (hW := hW) (x := x_24) (lo := 0) (hi := 20) (f := f) (t := t) (s := (ml2 f t s c)) (hf := hf2) (ht9 := ht2) (ht400 := ht400) (hs0 := hz2) (hp := (hD2.2.2 hz2)) (hpt := (ml2_le hpt))) (cwV 2 hts gX8_readMill_X8_isNumber rfl rfl rfl (by decide +kernel) ⟨Nat.le_of_ble_eq_true rfl, Nat.le_of_ble_eq_true rfl⟩) (x_pv (w := (wM G B)) (a := 0) hW hX hK hE hS [.int (0), .int (20)] (Nat.le_of_ble_eq_true rfl) (shM_0 (G := G) (B := B)) rfl) rfl rfl hl.1 rfl (lv_room (Nat.le_of_ble_eq_true rfl)) dX8_readMill_102 ⟨Nat.zero_le _, Nat.zero_le _⟩) hS (fun r_30 x_31 H_28 lo_29 h_102 hX hS => ?_)
            try dsimp only at h_102
            refine lv_if_ne (tgt := 110) hx hb dX8_readMill_105 (by decide) (fun c_32 => ?_) (fun c_32 => ?_)
            · have hz3 : (ml3 f t s c).2 = 0 := num_t h_102.1 c_32
              have hG3 : NG x x_31 := hG2.tr h_102.2.2.1
              have hD3 : RT f t (ml3 f t s c) x_31 := h_102.2.1
              have hf3 : x_31 4 = f := (hG3.1 4 (by decide) (by decide)).trans hf
              have ht3 : x_31 0 4 = nI t := (hG3.2 4 (by decide) (by decide) (by decide) (by decide) (by decide) (by decide)).trans ht9
              refine lv_aload_n hx hb dX8_readMill_110 rfl (lv_at hl 2 rfl) ?_
              refine x_get (w := (wM G B)) (a := 0) (v := .long (mkL (x_31 0 17) (x_31 0 21))) hx hb hts iX8_readMill_X8 hown hK hX (Nat.le_of_ble_eq_true rfl) (shM_0 (G := G) (B := B)) rfl 17 (by decide) (hts _ kX8_readMill_98) (fun _ h9 => h9) rfl dX8_readMill_111 ?_
              refine lv_l2i (v := (mkL (x_31 0 17) (x_31 0 21) : Int64).toInt32) hx hb dX8_readMill_114 rfl ?_
              refine W.eq (g2 := F0 mm 115 ls [.int (tvI f t (ml2 f t s c).1)]) (congrArg (fun z9 : Int32 => F0 mm 115 ls [.int (z9)]) (wth_i (h_102.2.2.2.2.2 hz3))) ?_
              refine lv_istore_n (lv' := [(3, .int (tvI f t (ml2 f t s c).1)), (2, .int (nI (srtN f t (ml1 f t s c).1))), (1, .int (x (8) 0)), (0, .ref (B + (0)))]) hx hb dX8_readMill_115 rfl hl (by decide) rfl (fun ls hl => ?_)
              refine lv_aload_n hx hb dX8_readMill_116 rfl (lv_at hl 3 rfl) ?_
              refine lv_iconst (v := 0) hx hb dX8_readMill_117 (by decide) ?_
              refine lv_bipush (v := 20) hx hb dX8_readMill_118 (by decide) ?_
              refine x_if (w := (wM G B)) (va_runV (As := [.int (0), .int (20)]) (rest := []) ⟨hx, hb, hml, hown, hts⟩ (c_X8_isNumber (l := l) (G := G) (B := B) (hW := hW) (x := x_31) (lo := 0) (hi := 20) (f := f) (t := t) (s := (ml3 f t s c)) (hf := hf3) (ht9 := ht3) (ht400 := ht400) (hs0 := hz3) (hp := (hD3.2.2 hz3)) (hpt := (ml3_le hpt))) (cwV 2 hts gX8_readMill_X8_isNumber rfl rfl rfl (by decide +kernel) ⟨Nat.le_of_ble_eq_true rfl, Nat.le_of_ble_eq_true rfl⟩) (x_pv (w := (wM G B)) (a := 0) hW hX hK hE hS [.int (0), .int (20)] (Nat.le_of_ble_eq_true rfl) (shM_0 (G := G) (B := B)) rfl) rfl rfl hl.1 rfl (lv_room (Nat.le_of_ble_eq_true rfl)) dX8_readMill_120 ⟨Nat.zero_le _, Nat.zero_le _⟩) hS (fun r_35 x_36 H_33 lo_34 h_120 hX hS => ?_)
              try dsimp only at h_120
              have hG5 : NG x x_36 := hG3.tr h_120.2.2.1
              have h85 : x_36 8 = x 8 := by rw [h_120.2.2.2.1, h_102.2.2.2.1, h82]
              have hc5 : x_36 8 0 = nI c := by rw [h85]; exact hc
              refine lv_if_ne (tgt := 128) hx hb dX8_readMill_123 (by decide) (fun c_37 => ?_) (fun c_37 => ?_)
              · have hzy : (stN f t (ml3 f t s c) 0 20).2 = 0 := num_t h_120.1 c_37
                refine lv_aload_n hx hb dX8_readMill_128 rfl (lv_at hl 3 rfl) ?_
                refine lv_iload_n hx hb dX8_readMill_129 rfl (lv_at hl 0 rfl) ?_
                refine lv_aload_n hx hb dX8_readMill_130 rfl (lv_at hl 3 rfl) ?_
                refine x_get (w := (wM G B)) (a := 0) (v := .long (mkL (x_36 0 17) (x_36 0 21))) hx hb hts iX8_readMill_X8 hown hK hX (Nat.le_of_ble_eq_true rfl) (shM_0 (G := G) (B := B)) rfl 17 (by decide) (hts _ kX8_readMill_98) (fun _ h9 => h9) rfl dX8_readMill_131 ?_
                refine x_ip (w := (wM G B)) (x := x_36) (v := bI (takR (x_36 8) c (tvI f t (ml2 f t s c).1) ((tvI f t (ml3 f t s c).1)))) (va_runV (As := [.int (tvI f t (ml2 f t s c).1), .long (mkL (x_36 0 17) (x_36 0 21))]) (rest := []) ⟨hx, hb, hml, hown, hts⟩ (c_X8_isTaken (l := l) (G := G) (B := B) (hW := hW) (x := x_36) (a := tvI f t (ml2 f t s c).1) (y := mkL (x_36 0 17) (x_36 0 21)) (c := c) (y1 := (tvI f t (ml3 f t s c).1)) (hc := hc5) (hc8 := hc8) (hy := (h_120.2.2.2.2.2 hzy))) (cwV 2 hts gX8_readMill_X8_isTaken rfl rfl rfl (by decide +kernel) ⟨Nat.le_of_ble_eq_true rfl, Nat.le_of_ble_eq_true rfl⟩) (x_pv (w := (wM G B)) (a := 0) hW hX hK hE hS [.int (tvI f t (ml2 f t s c).1), .long (mkL (x_36 0 17) (x_36 0 21))] (Nat.le_of_ble_eq_true rfl) (shM_0 (G := G) (B := B)) rfl) rfl rfl hl.1 rfl (lv_room (Nat.le_of_ble_eq_true rfl)) dX8_readMill_134 ⟨Nat.zero_le _, Nat.zero_le _⟩) hS (fun H_38 lo_39 hX hS => ?_)
                have h85q : takR (x_36 8) c (tvI f t (ml2 f t s c).1) (tvI f t (ml3 f t s c).1) = takR (x 8) c (tvI f t (ml2 f t s c).1) (tvI f t (ml3 f t s c).1) := by rw [h85]
                refine x_ifeq (tgt := 147) hx hb dX8_readMill_137 (by decide) (fun c_40 => ?_) (fun c_40 => ?_)
                · have hTn : takR (x 8) c (tvI f t (ml2 f t s c).1) (tvI f t (ml3 f t s c).1) = false := by rw [← h85q]; exact c_40
                  refine lv_iconst (v := 5) hx hb dX8_readMill_147 (by decide) ?_
                  refine lv_bipush (v := 10) hx hb dX8_readMill_148 (by decide) ?_
                  refine lv_iload_n hx hb dX8_readMill_150 rfl (lv_at hl 2 rfl) ?_
                  refine lv_imul hx hb dX8_readMill_151 ?_
                  refine lv_iadd hx hb dX8_readMill_152 ?_
                  refine lv_istore (lv' := [(4, .int (5 + (10 * (x (8) 0)))), (3, .int (tvI f t (ml2 f t s c).1)), (2, .int (nI (srtN f t (ml1 f t s c).1))), (1, .int (x (8) 0)), (0, .ref (B + (0)))]) hx hb dX8_readMill_153 hl (by decide) rfl (fun ls hl => ?_)
                  refine lv_iconst (v := 0) hx hb dX8_readMill_155 (by decide) ?_
                  refine lv_istore (lv' := [(5, .int (0)), (4, .int (5 + (10 * (x (8) 0)))), (3, .int (tvI f t (ml2 f t s c).1)), (2, .int (nI (srtN f t (ml1 f t s c).1))), (1, .int (x (8) 0)), (0, .ref (B + (0)))]) hx hb dX8_readMill_156 hl (by decide) rfl (fun ls hl => ?_)
                  have L_41 : ∀ (n9 : Nat) (k : Nat)  (u6 : Mem) (_ : n9 = 10 - k) (_ : k ≤ 10 ∧ (∀ a, a ≠ 8 → u6 a = x_36 a) ∧ ∀ i, u6 8 i = if 5 + 10 * c ≤ i ∧ i < 5 + 10 * c + k then 0 else x 8 i) (H_42 : Heap) (lo_43 : List Loc) (_ : MR G (wM G B) u6 H_42) (_ : va_S (blkA B (B + 13)) ss.heap H_42 lo_43) (ls : Array Slot) (_ : lv_has ls 6 [(5, .int (nI k)), (4, .int (5 + (10 * (x (8) 0)))), (3, .int (tvI f t (ml2 f t s c).1)), (2, .int (nI (srtN f t (ml1 f t s c).1))), (1, .int (x (8) 0)), (0, .ref (B + (0)))]), W pp l ee rmX8_readMill ss mm aa bb mt cd H_42 lo_43 0 0 Q (F0 mm 158 ls []) := by
                    intro n9
                    induction n9 using Nat.strongRecOn with
                    | _ n9 ih => 
                      have ih_158 := ih
                      intro k u6 hn9 hI H_42 lo_43 hX hS ls hl
                      obtain ⟨hk, ho6, h6r⟩ := hI
                      have hG6 : NG x u6 := ⟨fun a a1 a2 => (ho6 a a2).trans (hG5.1 a a1 a2), fun k k1 k2 k3 k4 k5 k6 => (congrFun (ho6 0 (by decide)) k).trans (hG5.2 k k1 k2 k3 k4 k5 k6)⟩
                      refine lv_iload hx hb dX8_readMill_158 (lv_at hl 0 rfl) ?_
                      refine lv_bipush (v := 10) hx hb dX8_readMill_160 (by decide) ?_
                      refine lv_icmp_ge (tgt := 182) hx hb dX8_readMill_162 (by decide) (fun c_44 => ?_) (fun c_44 => ?_)
                      · have nc_44 := (n_le (a := 10) (b := k) rfl rfl (by omega) (by omega)).mp c_44
                        have e9 : k = 10 := by omega
                        have h68 := h6r
                        rw [e9] at h68
                        have hwy : ∀ v : Mem, v 0 = x_36 0 → wth v = (tvI f t (ml3 f t s c).1).toInt64 := fun v hv => by have z := h_120.2.2.2.2.2 hzy; unfold wth at z ⊢; rw [hv]; exact z
                        refine lv_aload_n hx hb dX8_readMill_182 rfl (lv_at hl 5 rfl) ?_
                        refine x_get (w := (wM G B)) (a := 0) (v := .ref (B + (8))) hx hb hts iX8_readMill_X8 hown hK hX (Nat.le_of_ble_eq_true rfl) (shM_0 (G := G) (B := B)) rfl 10 (by decide) (hts _ kX8_readMill_31) (fun _ h9 => h9) rfl dX8_readMill_183 ?_
                        refine lv_iload hx hb dX8_readMill_186 (lv_at hl 1 rfl) ?_
                        refine lv_bipush (v := 8) hx hb dX8_readMill_188 (by decide) ?_
                        refine lv_iadd hx hb dX8_readMill_190 ?_
                        refine lv_iload_n hx hb dX8_readMill_191 rfl (lv_at hl 2 rfl) ?_
                        refine x_iast (w := (wM G B)) (a := 8) (n := 93) (j := 5 + (10 * c) + 8) hx hb hK hW hX hS (Nat.le_of_ble_eq_true rfl) (fun f => (shM_a (G := G) (B := B) (a := 8) (f := f) (by decide))) (n_add (n_add rfl (n_mul rfl hc)) rfl) (by omega) (by decide) dX8_readMill_192 (fun H_46 lo_47 hX hS => ?_)
                        obtain ⟨x_45, ex_45⟩ : ∃ z, z = mst u6 (8) (5 + (10 * c) + 8) (tvI f t (ml2 f t s c).1) := ⟨_, rfl⟩
                        rw [← ex_45] at hX
                        refine lv_aload_n hx hb dX8_readMill_193 rfl (lv_at hl 5 rfl) ?_
                        refine x_get (w := (wM G B)) (a := 0) (v := .ref (B + (8))) hx hb hts iX8_readMill_X8 hown hK hX (Nat.le_of_ble_eq_true rfl) (shM_0 (G := G) (B := B)) rfl 10 (by decide) (hts _ kX8_readMill_31) (fun _ h9 => h9) rfl dX8_readMill_194 ?_
                        refine lv_iload hx hb dX8_readMill_197 (lv_at hl 1 rfl) ?_
                        refine lv_bipush (v := 9) hx hb dX8_readMill_199 (by decide) ?_
                        refine lv_iadd hx hb dX8_readMill_201 ?_
                        refine lv_aload_n hx hb dX8_readMill_202 rfl (lv_at hl 5 rfl) ?_
                        refine x_get (w := (wM G B)) (a := 0) (v := .long (mkL (x_45 0 17) (x_45 0 21))) hx hb hts iX8_readMill_X8 hown hK hX (Nat.le_of_ble_eq_true rfl) (shM_0 (G := G) (B := B)) rfl 17 (by decide) (hts _ kX8_readMill_98) (fun _ h9 => h9) rfl dX8_readMill_203 ?_
                        refine lv_l2i (v := (mkL (x_45 0 17) (x_45 0 21) : Int64).toInt32) hx hb dX8_readMill_206 rfl ?_
                        refine W.eq (g2 := F0 mm 207 ls [.int (tvI f t (ml3 f t s c).1), .int ((5 + (10 * (x (8) 0))) + 9), .ref (B + (8))]) (congrArg (fun z9 : Int32 => F0 mm 207 ls [.int (z9), .int ((5 + (10 * (x (8) 0))) + 9), .ref (B + (8))]) (show (mkL (x_45 0 17) (x_45 0 21)).toInt32 = tvI f t (ml3 f t s c).1 from wth_i (hwy x_45 (by rw [ex_45, mst_ne (by decide)]; exact ho6 0 (by decide))))) ?_
                        refine x_iast (w := (wM G B)) (a := 8) (n := 93) (j := 5 + (10 * c) + 9) hx hb hK hW hX hS (Nat.le_of_ble_eq_true rfl) (fun f => (shM_a (G := G) (B := B) (a := 8) (f := f) (by decide))) (n_add (n_add rfl (n_mul rfl hc)) rfl) (by omega) (by decide) dX8_readMill_207 (fun H_49 lo_50 hX hS => ?_)
                        obtain ⟨x_48, ex_48⟩ : ∃ z, z = mst x_45 (8) (5 + (10 * c) + 9) (tvI f t (ml3 f t s c).1) := ⟨_, rfl⟩
                        rw [← ex_48] at hX
                        refine lv_aload_n hx hb dX8_readMill_208 rfl (lv_at hl 5 rfl) ?_
                        refine x_get (w := (wM G B)) (a := 0) (v := .ref (B + (8))) hx hb hts iX8_readMill_X8 hown hK hX (Nat.le_of_ble_eq_true rfl) (shM_0 (G := G) (B := B)) rfl 10 (by decide) (hts _ kX8_readMill_31) (fun _ h9 => h9) rfl dX8_readMill_209 ?_
                        refine lv_bipush (v := 85) hx hb dX8_readMill_212 (by decide) ?_
                        refine lv_iload_n hx hb dX8_readMill_214 rfl (lv_at hl 4 rfl) ?_
                        refine lv_iadd hx hb dX8_readMill_215 ?_
                        refine lv_iload_n hx hb dX8_readMill_216 rfl (lv_at hl 3 rfl) ?_
                        refine x_iast (w := (wM G B)) (a := 8) (n := 93) (j := 85 + c) hx hb hK hW hX hS (Nat.le_of_ble_eq_true rfl) (fun f => (shM_a (G := G) (B := B) (a := 8) (f := f) (by decide))) (n_add rfl hc) (by omega) (by decide) dX8_readMill_217 (fun H_52 lo_53 hX hS => ?_)
                        obtain ⟨x_51, ex_51⟩ : ∃ z, z = mst x_48 (8) (85 + c) (nI (srtN f t (ml1 f t s c).1)) := ⟨_, rfl⟩
                        rw [← ex_51] at hX
                        have z_54 : x_51 (8) (85 + c) = nI (srtN f t (ml1 f t s c).1) := by rw [ex_51, mst_self]; first | done | exact rfl
                        have h87 : x_51 8 = mlU f t s c (x 8) 0 := by rw [ex_51, mst_eq, ex_48, mst_eq, ex_45, mst_eq]; exact mlU_0 hc7 h68
                        have hG87 : NG x x_51 := by rw [ex_51, ex_48, ex_45]; exact (hG6.r8.r8).r8
                        have hD87 : RT f t (mlK f t s c (x 8) 0) x_51 := by rw [show mlK f t s c (x 8) 0 = (stN f t (ml3 f t s c) 0 20) from (ml5_ok hTn).2]; exact h_120.2.1.off (by rw [ex_51, mst_ne (by decide), ex_48, mst_ne (by decide), ex_45, mst_ne (by decide)]; exact ho6 0 (by decide))
                        have hz87 : (mlK f t s c (x 8) 0).2 = 0 := by rw [show mlK f t s c (x 8) 0 = (stN f t (ml3 f t s c) 0 20) from (ml5_ok hTn).2]; exact hzy
                        refine lv_iconst (v := 0) hx hb dX8_readMill_218 (by decide) ?_
                        refine lv_istore (lv' := [(5, .int (0)), (4, .int (5 + (10 * (x (8) 0)))), (3, .int (tvI f t (ml2 f t s c).1)), (2, .int (nI (srtN f t (ml1 f t s c).1))), (1, .int (x (8) 0)), (0, .ref (B + (0)))]) hx hb dX8_readMill_219 hl (by decide) rfl (fun ls hl => ?_)
                        have L_55 : ∀ (n9 : Nat) (k : Nat)  (u7 : Mem) (_ : n9 = 4 - k) (_ : k ≤ 4 ∧ NG x u7 ∧ RT f t (mlK f t s c (x 8) k) u7 ∧ (mlK f t s c (x 8) k).2 = 0 ∧ u7 8 = mlU f t s c (x 8) k) (H_56 : Heap) (lo_57 : List Loc) (_ : MR G (wM G B) u7 H_56) (_ : va_S (blkA B (B + 13)) ss.heap H_56 lo_57) (ls : Array Slot) (_ : lv_has ls 6 [(5, .int (nI k)), (4, .int (5 + (10 * (x (8) 0)))), (3, .int (tvI f t (ml2 f t s c).1)), (2, .int (nI (srtN f t (ml1 f t s c).1))), (1, .int (x (8) 0)), (0, .ref (B + (0)))]), W pp l ee rmX8_readMill ss mm aa bb mt cd H_56 lo_57 0 0 Q (F0 mm 221 ls []) := by
                          intro n9
                          induction n9 using Nat.strongRecOn with
                          | _ n9 ih => 
                            have ih_221 := ih
                            intro k u7 hn9 hI H_56 lo_57 hX hS ls hl
                            obtain ⟨hk4, hG7, hD7, hz7, h8r⟩ := hI
                            have hf7 : u7 4 = f := (hG7.1 4 (by decide) (by decide)).trans hf
                            have ht7 : u7 0 4 = nI t := (hG7.2 4 (by decide) (by decide) (by decide) (by decide) (by decide) (by decide)).trans ht9
                            refine lv_iload hx hb dX8_readMill_221 (lv_at hl 0 rfl) ?_
                            refine lv_iconst (v := 4) hx hb dX8_readMill_223 (by decide) ?_
                            refine lv_icmp_ge (tgt := 293) hx hb dX8_readMill_224 (by decide) (fun c_58 => ?_) (fun c_58 => ?_)
                            · have nc_58 := (n_le (a := 4) (b := k) rfl rfl (by omega) (by omega)).mp c_58
                              have e8 : k = 4 := by omega
                              rw [e8] at h8r hD7 hz7
                              have hz9 : (ml9 f t s c (x 8)).2 = 0 := hz7
                              have hc30 : u7 (8) 0 = nI c := by rw [h8r]; exact mlU_n (by omega) hc
                              refine lv_aload_n hx hb dX8_readMill_293 rfl (lv_at hl 5 rfl) ?_
                              refine x_get (w := (wM G B)) (a := 0) (v := .ref (B + (8))) hx hb hts iX8_readMill_X8 hown hK hX (Nat.le_of_ble_eq_true rfl) (shM_0 (G := G) (B := B)) rfl 10 (by decide) (hts _ kX8_readMill_31) (fun _ h9 => h9) rfl dX8_readMill_294 ?_
                              refine lv_iconst (v := 0) hx hb dX8_readMill_297 (by decide) ?_
                              refine lv_dup2_11 hx hb dX8_readMill_298 rfl rfl ?_
                              refine x_iald (w := (wM G B)) (a := 8) (n := 93) (j := 0) hx hb hK hX (Nat.le_of_ble_eq_true rfl) (shM_a (G := G) (B := B) (a := 8) (f := u7 (8)) (by decide)) rfl (by decide) (by decide) dX8_readMill_299 ?_
                              refine lv_iconst (v := 1) hx hb dX8_readMill_300 (by decide) ?_
                              refine lv_iadd hx hb dX8_readMill_301 ?_
                              refine x_iast (w := (wM G B)) (a := 8) (n := 93) (j := 0) hx hb hK hW hX hS (Nat.le_of_ble_eq_true rfl) (fun f => (shM_a (G := G) (B := B) (a := 8) (f := f) (by decide))) rfl (by decide) (by decide) dX8_readMill_302 (fun H_60 lo_61 hX hS => ?_)
                              obtain ⟨x_59, ex_59⟩ : ∃ z, z = mst u7 (8) 0 ((u7 (8) 0) + 1) := ⟨_, rfl⟩
                              rw [← ex_59] at hX
                              have z_63 : x_59 (8) 0 = nI (c + 1) := by rw [ex_59, mst_self]; first | done | exact (n_add hc30 rfl)
                              have hD9 : RT f t (ml9 f t s c (x 8)) x_59 := hD7.off (by rw [ex_59, mst_ne (by decide)])
                              have hG9 : NG x x_59 := by rw [ex_59]; exact hG7.r8
                              have hf9 : x_59 4 = f := (hG9.1 4 (by decide) (by decide)).trans hf
                              have ht9x : x_59 0 4 = nI t := (hG9.2 4 (by decide) (by decide) (by decide) (by decide) (by decide) (by decide)).trans ht9
                              have h89 : x_59 8 = mlW f t s c (x 8) := by rw [ex_59, mst_eq]; exact mlU_end hc7 h8r hc
                              refine lv_aload_n hx hb dX8_readMill_303 rfl (lv_at hl 5 rfl) ?_
                              refine x_if (w := (wM G B)) (va_runV (As := []) (rest := []) ⟨hx, hb, hml, hown, hts⟩ (c_X8_isEnd (l := l) (G := G) (B := B) (hW := hW) (x := x_59) (f := f) (t := t) (s := (ml9 f t s c (x 8))) (hf := hf9) (ht9 := ht9x) (ht400 := ht400) (hs0 := hz9) (hp := (hD9.2.2 hz9)) (hpt := (ml9_le hpt))) (cwV 0 hts gX8_readMill_X8_isEnd rfl rfl rfl (by decide +kernel) ⟨Nat.le_of_ble_eq_true rfl, Nat.le_of_ble_eq_true rfl⟩) (x_pv (w := (wM G B)) (a := 0) hW hX hK hE hS [] (Nat.le_of_ble_eq_true rfl) (shM_0 (G := G) (B := B)) rfl) rfl rfl hl.1 rfl (lv_room (Nat.le_of_ble_eq_true rfl)) dX8_readMill_304 ⟨Nat.zero_le _, Nat.zero_le _⟩) hS (fun r_66 x_67 H_64 lo_65 h_304 hX hS => ?_)
                              try dsimp only at h_304
                              rw [← hQ]
                              refine x_zret (v := r_66) (ty := .boolean) hx hb hr (by first | rfl | exact (by rw [h_304.1]; exact bI_nar _)) hX hS hlocks dX8_readMill_307 ?_
                              exact ⟨h_304.1, h_304.2.1, hG9.tr h_304.2.2.1, fun _ => ⟨hc7, by rw [h_304.2.2.2]; exact h89⟩⟩
                            · have nc_58 := Nat.not_le.mp (fun q => c_58 ((n_le (a := 4) (b := k) rfl rfl (by omega) (by omega)).mpr q))
                              refine lv_aload_n hx hb dX8_readMill_227 rfl (lv_at hl 5 rfl) ?_
                              refine lv_iload hx hb dX8_readMill_228 (lv_at hl 0 rfl) ?_
                              refine lv_iconst (v := 2) hx hb dX8_readMill_230 (by decide) ?_
                              have kJ_70 : ∀ (v_69 : Bool) (_ : v_69 = (if 2 ≤ nI k then false else true)) (H_71 : Heap) (lo_72 : List Loc) (_ : MR G (wM G B) u7 H_71) (_ : va_S (blkA B (B + 13)) ss.heap H_71 lo_72) (ls : Array Slot) (_ : lv_has ls 6 [(5, .int (nI k)), (4, .int (5 + (10 * (x (8) 0)))), (3, .int (tvI f t (ml2 f t s c).1)), (2, .int (nI (srtN f t (ml1 f t s c).1))), (1, .int (x (8) 0)), (0, .ref (B + (0)))]), W pp l ee rmX8_readMill ss mm aa bb mt cd H_71 lo_72 0 0 Q (F0 mm 239 ls [.int (bI (v_69)), .ref (B + (0))]) := by
                                intro v_69 ev_69 H_71 lo_72 hX hS ls hl
                                refine lv_iload hx hb dX8_readMill_239 (lv_at hl 0 rfl) ?_
                                refine lv_iconst (v := 2) hx hb dX8_readMill_241 (by decide) ?_
                                have kJ_75 : ∀ (v_74 : Int32) (_ : v_74 = (if 2 ≤ nI k then (if nI k = 2 then (99 : Int32) else (999 : Int32)) else (9 : Int32))) (H_76 : Heap) (lo_77 : List Loc) (_ : MR G (wM G B) u7 H_76) (_ : va_S (blkA B (B + 13)) ss.heap H_76 lo_77) (ls : Array Slot) (_ : lv_has ls 6 [(5, .int (nI k)), (4, .int (5 + (10 * (x (8) 0)))), (3, .int (tvI f t (ml2 f t s c).1)), (2, .int (nI (srtN f t (ml1 f t s c).1))), (1, .int (x (8) 0)), (0, .ref (B + (0)))]), W pp l ee rmX8_readMill ss mm aa bb mt cd H_76 lo_77 0 0 Q (F0 mm 264 ls [.int (v_74), .int (bI (v_69)), .ref (B + (0))]) := by
                                  intro v_74 ev_74 H_76 lo_77 hX hS ls hl
                                  refine W.eq (g2 := F0 mm 264 ls [.int (hiK k), .int (bI (v_69)), .ref (B + (0))]) (congrArg (fun z9 : Int32 => F0 mm 264 ls [.int (z9), .int (bI (v_69)), .ref (B + (0))]) (by rw [ev_74]; exact hi_ref hk4)) ?_
                                  refine W.eq (g2 := F0 mm 264 ls [.int (hiK k), .int (loK k), .ref (B + (0))]) (congrArg (fun z9 : Int32 => F0 mm 264 ls [.int (hiK k), .int (z9), .ref (B + (0))]) (by rw [ev_69]; exact lo_ref hk4)) ?_
                                  refine x_if (w := (wM G B)) (va_runV (As := [.int (loK k), .int (hiK k)]) (rest := []) ⟨hx, hb, hml, hown, hts⟩ (c_X8_isNumber (l := l) (G := G) (B := B) (hW := hW) (x := u7) (lo := loK k) (hi := hiK k) (f := f) (t := t) (s := (mlK f t s c (x 8) k)) (hf := hf7) (ht9 := ht7) (ht400 := ht400) (hs0 := hz7) (hp := (hD7.2.2 hz7)) (hpt := (mlK_le hpt k))) (cwV 2 hts gX8_readMill_X8_isNumber rfl rfl rfl (by decide +kernel) ⟨Nat.le_of_ble_eq_true rfl, Nat.le_of_ble_eq_true rfl⟩) (x_pv (w := (wM G B)) (a := 0) hW hX hK hE hS [.int (loK k), .int (hiK k)] (Nat.le_of_ble_eq_true rfl) (shM_0 (G := G) (B := B)) rfl) rfl rfl hl.1 rfl (lv_room (Nat.le_of_ble_eq_true rfl)) dX8_readMill_264 ⟨Nat.zero_le _, Nat.zero_le _⟩) hS (fun r_80 x_81 H_78 lo_79 h_264 hX hS => ?_)
                                  try dsimp only at h_264
                                  refine lv_if_ne (tgt := 272) hx hb dX8_readMill_267 (by decide) (fun c_82 => ?_) (fun c_82 => ?_)
                                  · have hzk : (mlK f t s c (x 8) (k + 1)).2 = 0 := num_t h_264.1 c_82
                                    refine lv_aload_n hx hb dX8_readMill_272 rfl (lv_at hl 5 rfl) ?_
                                    refine x_get (w := (wM G B)) (a := 0) (v := .ref (B + (8))) hx hb hts iX8_readMill_X8 hown hK hX (Nat.le_of_ble_eq_true rfl) (shM_0 (G := G) (B := B)) rfl 10 (by decide) (hts _ kX8_readMill_31) (fun _ h9 => h9) rfl dX8_readMill_273 ?_
                                    refine lv_iload hx hb dX8_readMill_276 (lv_at hl 1 rfl) ?_
                                    refine lv_iload hx hb dX8_readMill_278 (lv_at hl 0 rfl) ?_
                                    refine lv_iadd hx hb dX8_readMill_280 ?_
                                    refine lv_aload_n hx hb dX8_readMill_281 rfl (lv_at hl 5 rfl) ?_
                                    refine x_get (w := (wM G B)) (a := 0) (v := .long (mkL (x_81 0 17) (x_81 0 21))) hx hb hts iX8_readMill_X8 hown hK hX (Nat.le_of_ble_eq_true rfl) (shM_0 (G := G) (B := B)) rfl 17 (by decide) (hts _ kX8_readMill_98) (fun _ h9 => h9) rfl dX8_readMill_282 ?_
                                    refine lv_l2i (v := (mkL (x_81 0 17) (x_81 0 21) : Int64).toInt32) hx hb dX8_readMill_285 rfl ?_
                                    refine x_iast (w := (wM G B)) (a := 8) (n := 93) (j := 5 + (10 * c) + k) hx hb hK hW hX hS (Nat.le_of_ble_eq_true rfl) (fun f => (shM_a (G := G) (B := B) (a := 8) (f := f) (by decide))) (n_add (n_add rfl (n_mul rfl hc)) rfl) (by omega) (by decide) dX8_readMill_286 (fun H_84 lo_85 hX hS => ?_)
                                    obtain ⟨x_83, ex_83⟩ : ∃ z, z = mst x_81 (8) (5 + (10 * c) + k) ((mkL (x_81 0 17) (x_81 0 21) : Int64).toInt32) := ⟨_, rfl⟩
                                    rw [← ex_83] at hX
                                    have h8n : x_83 8 = mlU f t s c (x 8) (k + 1) := by rw [ex_83, mst_eq, h_264.2.2.2.1, wth_i (h_264.2.2.2.2.2 hzk)]; exact mlU_st hc7 (by omega) h8r
                                    have hGn : NG x x_83 := by rw [ex_83]; exact (hG7.tr h_264.2.2.1).r8
                                    have hDn : RT f t (mlK f t s c (x 8) (k + 1)) x_83 := h_264.2.1.off (by rw [ex_83, mst_ne (by decide)])
                                    refine lv_iinc (v := nI (k + 1)) (lv' := [(5, .int (nI (k + 1))), (4, .int (5 + (10 * (x (8) 0)))), (3, .int (tvI f t (ml2 f t s c).1)), (2, .int (nI (srtN f t (ml1 f t s c).1))), (1, .int (x (8) 0)), (0, .ref (B + (0)))]) hx hb dX8_readMill_287 hl (k := 0) rfl (inc_nI _) (by decide) rfl (fun ls hl => ?_)
                                    refine lv_goto (tgt := 221) hx hb dX8_readMill_290 (by decide) ?_
                                    exact ih_221 _ (by omega) (k + 1) (x_83) rfl ⟨by omega, hGn, hDn, hzk, h8n⟩ _ _ hX hS ls (lv_sub hl [0, 1, 2, 3, 4, 5] rfl)
                                  · have hnk : (mlK f t s c (x 8) (k + 1)).2 ≠ 0 := num_f h_264.1 c_82
                                    refine lv_iconst (v := 0) hx hb dX8_readMill_270 (by decide) ?_
                                    rw [← hQ]
                                    refine x_zret (v := 0) (ty := .boolean) hx hb hr (by first | rfl | exact (by rw [h_304.1]; exact bI_nar _)) hX hS hlocks dX8_readMill_271 ?_
                                    rw [mlS_fzK (k := k + 1) (by omega) hnk]
                                    exact ⟨by rw [decide_eq_false hnk]; rfl, h_264.2.1, hG7.tr h_264.2.2.1, fun z => absurd z hnk⟩
                                refine lv_icmp_ge (tgt := 250) hx hb dX8_readMill_242 (by decide) (fun c_73 => ?_) (fun c_73 => ?_)
                                · refine lv_iload hx hb dX8_readMill_250 (lv_at hl 0 rfl) ?_
                                  refine lv_iconst (v := 2) hx hb dX8_readMill_252 (by decide) ?_
                                  refine lv_icmp_ne (tgt := 261) hx hb dX8_readMill_253 (by decide) (fun c_86 => ?_) (fun c_86 => ?_)
                                  · refine lv_sipush (v := 999) hx hb dX8_readMill_261 (by decide) ?_
                                    exact kJ_75 (999) (by rw [if_pos c_73, if_neg c_86]) _ _ hX hS ls (lv_sub hl [0, 1, 2, 3, 4, 5] rfl)
                                  · refine lv_bipush (v := 99) hx hb dX8_readMill_256 (by decide) ?_
                                    refine lv_goto (tgt := 264) hx hb dX8_readMill_258 (by decide) ?_
                                    exact kJ_75 (99) (by rw [if_pos c_73, if_pos c_86]) _ _ hX hS ls (lv_sub hl [0, 1, 2, 3, 4, 5] rfl)
                                · refine lv_bipush (v := 9) hx hb dX8_readMill_245 (by decide) ?_
                                  refine lv_goto (tgt := 264) hx hb dX8_readMill_247 (by decide) ?_
                                  exact kJ_75 (9) (by rw [if_neg c_73]) _ _ hX hS ls (lv_sub hl [0, 1, 2, 3, 4, 5] rfl)
                              refine lv_icmp_ge (tgt := 238) hx hb dX8_readMill_231 (by decide) (fun c_68 => ?_) (fun c_68 => ?_)
                              · refine lv_iconst (v := 0) hx hb dX8_readMill_238 (by decide) ?_
                                exact kJ_70 (false) (by rw [if_pos c_68]) _ _ hX hS ls (lv_sub hl [0, 1, 2, 3, 4, 5] rfl)
                              · refine lv_iconst (v := 1) hx hb dX8_readMill_234 (by decide) ?_
                                refine lv_goto (tgt := 239) hx hb dX8_readMill_235 (by decide) ?_
                                exact kJ_70 (true) (by rw [if_neg c_68]) _ _ hX hS ls (lv_sub hl [0, 1, 2, 3, 4, 5] rfl)
                        exact L_55 _ (0) (x_51) rfl ⟨Nat.zero_le _, hG87, hD87, hz87, h87⟩ _ _ hX hS ls (lv_sub hl [0, 1, 2, 3, 4, 5] rfl)
                      · have nc_44 := Nat.not_le.mp (fun q => c_44 ((n_le (a := 10) (b := k) rfl rfl (by omega) (by omega)).mpr q))
                        refine lv_aload_n hx hb dX8_readMill_165 rfl (lv_at hl 5 rfl) ?_
                        refine x_get (w := (wM G B)) (a := 0) (v := .ref (B + (8))) hx hb hts iX8_readMill_X8 hown hK hX (Nat.le_of_ble_eq_true rfl) (shM_0 (G := G) (B := B)) rfl 10 (by decide) (hts _ kX8_readMill_31) (fun _ h9 => h9) rfl dX8_readMill_166 ?_
                        refine lv_iload hx hb dX8_readMill_169 (lv_at hl 1 rfl) ?_
                        refine lv_iload hx hb dX8_readMill_171 (lv_at hl 0 rfl) ?_
                        refine lv_iadd hx hb dX8_readMill_173 ?_
                        refine lv_iconst (v := 0) hx hb dX8_readMill_174 (by decide) ?_
                        refine x_iast (w := (wM G B)) (a := 8) (n := 93) (j := 5 + (10 * c) + k) hx hb hK hW hX hS (Nat.le_of_ble_eq_true rfl) (fun f => (shM_a (G := G) (B := B) (a := 8) (f := f) (by decide))) (n_add (n_add rfl (n_mul rfl hc)) rfl) (by omega) (by decide) dX8_readMill_175 (fun H_88 lo_89 hX hS => ?_)
                        obtain ⟨x_87, ex_87⟩ : ∃ z, z = mst u6 (8) (5 + (10 * c) + k) (0) := ⟨_, rfl⟩
                        rw [← ex_87] at hX
                        have z_90 : x_87 (8) (5 + (10 * c) + k) = nI (0) := by rw [ex_87, mst_self]; first | done | exact rfl
                        refine lv_iinc (v := nI (k + 1)) (lv' := [(5, .int (nI (k + 1))), (4, .int (5 + (10 * (x (8) 0)))), (3, .int (tvI f t (ml2 f t s c).1)), (2, .int (nI (srtN f t (ml1 f t s c).1))), (1, .int (x (8) 0)), (0, .ref (B + (0)))]) hx hb dX8_readMill_176 hl (k := 0) rfl (inc_nI _) (by decide) rfl (fun ls hl => ?_)
                        refine lv_goto (tgt := 158) hx hb dX8_readMill_179 (by decide) ?_
                        exact ih_158 _ (by omega) (k + 1) (x_87) rfl ⟨by omega, fun a a1 => by rw [ex_87, mst_ne a1]; exact ho6 a a1, fun i => by
          rw [ex_87, mst_eq]
          by_cases hi : i = 5 + 10 * c + k
          · rw [hi, upd_eq, if_pos (by omega)]
          · rw [upd_ne hi, h6r i]
            by_cases hi2 : 5 + 10 * c ≤ i ∧ i < 5 + 10 * c + k
            · rw [if_pos hi2, if_pos (show 5 + 10 * c ≤ i ∧ i < 5 + 10 * c + (k + 1) by omega)]
            · rw [if_neg hi2, if_neg (show ¬ (5 + 10 * c ≤ i ∧ i < 5 + 10 * c + (k + 1)) by omega)]⟩ _ _ hX hS ls (lv_sub hl [0, 1, 2, 3, 4, 5] rfl)
                  exact L_41 _ (0) (x_36) rfl ⟨Nat.zero_le _, fun a _ => rfl, fun i => by rw [if_neg (by omega), h85]⟩ _ _ hX hS ls (lv_sub hl [0, 1, 2, 3, 4, 5] rfl)
                · have hTy : takR (x 8) c (tvI f t (ml2 f t s c).1) (tvI f t (ml3 f t s c).1) = true := by rw [← h85q]; exact c_40
                  refine lv_aload_n hx hb dX8_readMill_140 rfl (lv_at hl 3 rfl) ?_
                  refine lv_iconst (v := 2) hx hb dX8_readMill_141 (by decide) ?_
                  refine x_put (w := (wM G B)) (a := 0) (v := 2) (ty := .int) hx hb hts iX8_readMill_X8 tyX8 tyX8_ok nmX8 hown hK hW hX hS (Nat.le_of_ble_eq_true rfl) (shM_0 (G := G) (B := B)) rfl 18 (by decide) (hts _ kX8_readMill_124) (fun _ h9 => h9) rfl (by decide +kernel) rfl rfl (Nat.le_of_ble_eq_true rfl) (shM_0 (G := G) (B := B)) dX8_readMill_142 (fun H_92 lo_93 hX hS => ?_)
                  obtain ⟨x_91, ex_91⟩ : ∃ z, z = mst x_36 (0) 18 (2) := ⟨_, rfl⟩
                  rw [← ex_91] at hX
                  have z_94 : x_91 (0) 18 = nI (2) := by rw [ex_91, mst_self]; first | done | exact rfl
                  refine lv_iconst (v := 0) hx hb dX8_readMill_145 (by decide) ?_
                  rw [← hQ]
                  refine x_zret (v := 0) (ty := .boolean) hx hb hr (by first | rfl | exact (by rw [h_304.1]; exact bI_nar _)) hX hS hlocks dX8_readMill_146 ?_
                  have e5 : mlK f t s c (x 8) 0 = ((ml3 f t s c).1, 2) := ml5_tk hzy hTy
                  have hn5 : (mlK f t s c (x 8) 0).2 ≠ 0 := by rw [e5]; show (2 : Int32) ≠ 0; decide
                  rw [mlS_fzK (k := 0) (by decide) hn5, e5]
                  exact ⟨rfl, ⟨by rw [ex_91, mst_self], fun _ => by rw [ex_91, mst_eq, upd_ne (by decide)]; exact h_120.2.2.2.2.1, fun z => absurd z (show ¬ (2 : Int32) = 0 by decide)⟩, by rw [ex_91]; exact hG5.wr, fun z => absurd z (show ¬ (2 : Int32) = 0 by decide)⟩
              · have hny : (stN f t (ml3 f t s c) 0 20).2 ≠ 0 := num_f h_120.1 c_37
                refine lv_iconst (v := 0) hx hb dX8_readMill_126 (by decide) ?_
                rw [← hQ]
                refine x_zret (v := 0) (ty := .boolean) hx hb hr (by first | rfl | exact (by rw [h_304.1]; exact bI_nar _)) hX hS hlocks dX8_readMill_127 ?_
                have e5 : mlK f t s c (x 8) 0 = (stN f t (ml3 f t s c) 0 20) := ml5_no hny hz3
                have hn5 : (mlK f t s c (x 8) 0).2 ≠ 0 := by rw [e5]; exact hny
                rw [mlS_fzK (k := 0) (by decide) hn5, e5]
                exact ⟨by rw [decide_eq_false hny]; rfl, h_120.2.1, hG5, fun z => absurd z hny⟩
            · have hn3 : (ml3 f t s c).2 ≠ 0 := num_f h_102.1 c_32
              refine lv_iconst (v := 0) hx hb dX8_readMill_108 (by decide) ?_
              rw [← hQ]
              refine x_zret (v := 0) (ty := .boolean) hx hb hr (by first | rfl | exact (by rw [h_304.1]; exact bI_nar _)) hX hS hlocks dX8_readMill_109 ?_
              first | (rw [mlS_fz2 hn2]; exact ⟨by rw [decide_eq_false hn2]; rfl, hD2, hG2, fun z => absurd z hn2⟩) | (rw [mlS_fz3 hn3]; exact ⟨by rw [decide_eq_false hn3]; rfl, h_102.2.1, hG2.tr h_102.2.2.1, fun z => absurd z hn3⟩)
        refine lv_if_ne (tgt := 87) hx hb dX8_readMill_80 (by decide) (fun c_19 => ?_) (fun c_19 => ?_)
        · refine lv_iconst (v := 0) hx hb dX8_readMill_87 (by decide) ?_
          exact kJ_21 (false) (by rw [if_neg c_19]) _ _ hX hS ls (lv_sub hl [0, 1, 2] rfl)
        · refine lv_iconst (v := 1) hx hb dX8_readMill_83 (by decide) ?_
          refine lv_goto (tgt := 88) hx hb dX8_readMill_84 (by decide) ?_
          exact kJ_21 (true) (by rw [if_pos c_19]) _ _ hX hS ls (lv_sub hl [0, 1, 2] rfl)
      refine lv_icmp_ne (tgt := 76) hx hb dX8_readMill_63 (by decide) (fun c_14 => ?_) (fun c_14 => ?_)
      · refine lv_iconst (v := 0) hx hb dX8_readMill_76 (by decide) ?_
        exact kJ_16 (0) (by rw [if_neg c_14]) _ _ hX hS ls (lv_sub hl [0, 1] rfl)
      · refine lv_aload_n hx hb dX8_readMill_66 rfl (lv_at hl 1 rfl) ?_
        refine x_get (w := (wM G B)) (a := 0) (v := .long (mkL (x_13 0 17) (x_13 0 21))) hx hb hts iX8_readMill_X8 hown hK hX (Nat.le_of_ble_eq_true rfl) (shM_0 (G := G) (B := B)) rfl 17 (by decide) (hts _ kX8_readMill_98) (fun _ h9 => h9) rfl dX8_readMill_67 ?_
        refine x_ip (w := (wM G B)) (x := x_13) (v := kdW (mkL (x_13 0 17) (x_13 0 21))) (va_runS (As := [.long (mkL (x_13 0 17) (x_13 0 21))]) (rest := []) ⟨hx, hb, hml, hown, hts⟩ (c_X8_kindOf (l := l) (G := G) (B := B) (hW := hW) (x := x_13) (w := mkL (x_13 0 17) (x_13 0 21))) (va_cwS 1 hts gX8_readMill_X8_kindOf rfl rfl rfl (by decide +kernel) ⟨Nat.le_of_ble_eq_true rfl, Nat.le_of_ble_eq_true rfl⟩) (x_ps (w := (wM G B)) hW hX hK hE hS [.long (mkL (x_13 0 17) (x_13 0 21))]) rfl rfl hl.1 rfl (lv_room (Nat.le_of_ble_eq_true rfl)) dX8_readMill_70 ⟨Nat.zero_le _, Nat.zero_le _⟩) hS (fun H_95 lo_96 hX hS => ?_)
        refine lv_goto (tgt := 77) hx hb dX8_readMill_73 (by decide) ?_
        exact kJ_16 (kdW (mkL (x_13 0 17) (x_13 0 21))) (by rw [if_pos c_14]) _ _ hX hS ls (lv_sub hl [0, 1] rfl)
    · have hn1 : (ml1 f t s c).2 ≠ 0 := fun z => c_10 (hD1.1.trans z)
      refine lv_iconst (v := 0) hx hb dX8_readMill_52 (by decide) ?_
      rw [← hQ]
      refine x_zret (v := 0) (ty := .boolean) hx hb hr (by first | rfl | exact (by rw [h_304.1]; exact bI_nar _)) hX hS hlocks dX8_readMill_53 ?_
      rw [mlS_fz1 hn1]
      exact ⟨by rw [decide_eq_false hn1]; rfl, hD1, hG1, fun z => absurd z hn1⟩
  refine lv_icmp_ne (tgt := 27) hx hb dX8_readMill_13 (by decide) (fun c_1 => ?_) (fun c_1 => ?_)
  · refine lv_iconst (v := 1) hx hb dX8_readMill_27 (by decide) ?_
    refine lv_goto (tgt := 42) hx hb dX8_readMill_28 (by decide) ?_
    exact kJ_3 (1) (by rw [if_neg c_1]) _ _ hX hS ls (lv_sub hl [0, 1] rfl)
  · refine lv_aload_n hx hb dX8_readMill_16 rfl (lv_at hl 1 rfl) ?_
    refine x_get (w := (wM G B)) (a := 0) (v := .long (mkL (x 0 17) (x 0 21))) hx hb hts iX8_readMill_X8 hown hK hX (Nat.le_of_ble_eq_true rfl) (shM_0 (G := G) (B := B)) rfl 17 (by decide) (hts _ kX8_readMill_98) (fun _ h9 => h9) rfl dX8_readMill_17 ?_
    refine lv_ldc2 (v := 262776) hx hb hown (hts _ kX8_readMill_147) dX8_readMill_20 ?_
    refine W.lcmp hx hb dX8_readMill_23 ?_
    refine x_lceq (tgt := 31) hx hb dX8_readMill_24 (by decide) (fun c_97 => ?_) (fun c_97 => ?_)
    · refine lv_iload_n hx hb dX8_readMill_31 rfl (lv_at hl 0 rfl) ?_
      refine lv_bipush (v := 8) hx hb dX8_readMill_32 (by decide) ?_
      refine lv_icmp_ne (tgt := 41) hx hb dX8_readMill_34 (by decide) (fun c_98 => ?_) (fun c_98 => ?_)
      · refine lv_iconst (v := 0) hx hb dX8_readMill_41 (by decide) ?_
        exact kJ_3 (0) (by rw [if_pos c_1, if_pos c_97, if_neg c_98]) _ _ hX hS ls (lv_sub hl [0, 1] rfl)
      · refine lv_iconst (v := 3) hx hb dX8_readMill_37 (by decide) ?_
        refine lv_goto (tgt := 42) hx hb dX8_readMill_38 (by decide) ?_
        exact kJ_3 (3) (by rw [if_pos c_1, if_pos c_97, if_pos c_98]) _ _ hX hS ls (lv_sub hl [0, 1] rfl)
    · refine lv_iconst (v := 1) hx hb dX8_readMill_27 (by decide) ?_
      refine lv_goto (tgt := 42) hx hb dX8_readMill_28 (by decide) ?_
      exact kJ_3 (1) (by rw [if_pos c_1, if_neg c_97]) _ _ hX hS ls (lv_sub hl [0, 1] rfl)
