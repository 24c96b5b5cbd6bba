theorem kX2_readMill_25 : (.fieldLink RX2 25 "WindTaken$Ridge" "count" "I" : Cond) ∈ wsX2_readMill := by decide +kernel
theorem iX2_readMill_X3 : ∀ w ∈ wsX30, w ∈ wsX2_readMill := by decide +kernel
theorem kX2_readMill_22 : (.fieldLink RX2 22 "WindTaken$Reader" "fault" "I" : Cond) ∈ wsX2_readMill := by decide +kernel
theorem iX2_readMill_X2 : ∀ w ∈ wsX20, w ∈ wsX2_readMill := by decide +kernel
theorem kX2_readMill_78 : (.fieldLink RX2 78 "WindTaken$Ridge" "mills" "[LWindTaken$Mill;" : Cond) ∈ wsX2_readMill := by decide +kernel
theorem kX2_readMill_92 : (.fieldLink RX2 92 "WindTaken$Mill" "x" "I" : Cond) ∈ wsX2_readMill := by decide +kernel
theorem iX2_readMill_X0 : ∀ w ∈ wsX00, w ∈ wsX2_readMill := by decide +kernel
theorem kX2_readMill_102 : (.fieldLink RX2 102 "WindTaken$Mill" "y" "I" : Cond) ∈ wsX2_readMill := by decide +kernel
theorem kX2_readMill_105 : (.fieldLink RX2 105 "WindTaken$Mill" "floors" "I" : Cond) ∈ wsX2_readMill := by decide +kernel
theorem kX2_readMill_108 : (.fieldLink RX2 108 "WindTaken$Mill" "sails" "I" : Cond) ∈ wsX2_readMill := by decide +kernel
theorem kX2_readMill_111 : (.fieldLink RX2 111 "WindTaken$Mill" "age" "I" : Cond) ∈ wsX2_readMill := by decide +kernel
theorem kX2_readMill_114 : (.fieldLink RX2 114 "WindTaken$Mill" "corn" "I" : Cond) ∈ wsX2_readMill := by decide +kernel
theorem kX2_readMill_43 : (.fieldLink RX2 43 "WindTaken$Reader" "token" "I" : Cond) ∈ wsX2_readMill := by decide +kernel
theorem kX2_readMill_95 : (.fieldLink RX2 95 "WindTaken$Reader" "number" "I" : Cond) ∈ wsX2_readMill := by decide +kernel
abbrev rmX2_readMill : Room := { frames := 7, cells := 0, slots := 0, locals := 152 }
set_option maxHeartbeats 4000000 in
set_option maxRecDepth 100000 in
theorem c_X2_readMill (l : Launch) (G : GG) (B : Nat) (tt : Nat → Nat) (hW : WOK (wX G B tt)) (x : Mem) {f : Nat → Int32} {t : Nat} {p : Nat} {w : Int32} {c : Nat} {d : Nat → Int32} (hRD : RD f t p w x) (ht400 : t ≤ 400) (hpt : p ≤ t) (hc : x 15 1 = nI c) (hc8 : c ≤ 8) (hRR : w = 0 → RR c x 15 d) : Met l yX2_readMill wsX2_readMill rmX2_readMill (XP G (wX G B tt) [.ref (B + (2)), .ref (B + (15))] x) (va_Qv (fun u => RD f t (mlS f t (p, w) c d).1 (mlS f t (p, w) c d).2 u ∧ (∀ a, a ≠ 2 → ¬ (15 ≤ a ∧ a < 25) → u a = x a) ∧ (∃ c1, c1 ≤ 8 ∧ u 15 1 = nI c1) ∧ ((mlS f t (p, w) c d).2 = 0 → c < 8 ∧ RR (c + 1) u 15 (mlW f t (p, w) c d))) (XB G (wX G B tt)) (blkA B (B + 117))) 0 0 (blkA B (B + 117)) := by
  refine Met.ofW (cc := cX2_readMill) (maxL := 4) (ret := none) (by decide) rfl ?_
  intro pp ee ss mm aa bb mt cd s1 Bd hml hv
  obtain ⟨hae, hX, hK, hE⟩ := hv
  have hx := Bd.exec
  have hb := Bd.bytes
  have hr := Bd.returns
  have hts := atoms_spec (ws := wsX2_readMill) Bd.pre
  have hown : ss.vm.findClass RX2 = some mm.cls := findClass_of_methodNamed Bd.named
  have hlocks := Bd.notSynchronized
  have hS : va_S (blkA B (B + 117)) ss.heap ss.heap [] := va_S.rf
  have hl := lv_entry ([.ref (B + (2)), .ref (B + (15))]) (n := 4) (Nat.le_of_ble_eq_true rfl)
  subst hae
  rw [lg_entry_eq]
  generalize (lg_sl ([.ref (B + (2)), .ref (B + (15))]) ++ List.replicate (4 - (lg_sl ([.ref (B + (2)), .ref (B + (15))])).length) Slot.unset).toArray = ls at hl ⊢
  have hl : lv_has ls 4 [(0, .ref (B + (2))), (1, .ref (B + (15)))] := hl
  generalize ([.ref (B + (2)), .ref (B + (15))] : List Value).toArray = aa at hts ⊢
  show W pp l ee rmX2_readMill ss mm aa bb mt cd ss.heap [] 0 0 _ (F0 mm 0 ls [])
  generalize hQ : MQ bb (va_Qv (fun u => RD f t (mlS f t (p, w) c d).1 (mlS f t (p, w) c d).2 u ∧ (∀ a, a ≠ 2 → ¬ (15 ≤ a ∧ a < 25) → u a = x a) ∧ (∃ c1, c1 ≤ 8 ∧ u 15 1 = nI c1) ∧ ((mlS f t (p, w) c d).2 = 0 → c < 8 ∧ RR (c + 1) u 15 (mlW f t (p, w) c d))) (XB G (wX G B tt)) (blkA B (B + 117))) aa ss 0 0 (blkA B (B + 117)) = Q
  refine lv_aload_n hx hb dX2_readMill_0 rfl (lv_at hl 1 rfl) ?_
  refine x_get (w := (wX G B tt)) (a := 15) (v := .int (x (15) 1)) hx hb hts iX2_readMill_X3 hown hK hX (rg_lt rg15) (shX_ri (G := G) (B := B) rg15) rfl 1 (by decide) (hts _ kX2_readMill_25) (fun _ h9 => h9) rfl dX2_readMill_1 ?_
  refine lv_bipush (v := 8) hx hb dX2_readMill_4 (by decide) ?_
  have kJ_3 : ∀ (v_2 : Bool) (_ : v_2 = (if (x (15) 1) < 8 then false else true)) (H_4 : Heap) (lo_5 : List Loc) (_ : MR G (wX G B tt) x H_4) (_ : va_S (blkA B (B + 117)) ss.heap H_4 lo_5) (ls : Array Slot) (_ : lv_has ls 4 [(0, .ref (B + (2))), (1, .ref (B + (15)))]), W pp l ee rmX2_readMill ss mm aa bb mt cd H_4 lo_5 0 0 Q (F0 mm 14 ls [.int (bI (v_2))]) := by
    intro v_2 ev_2 H_4 lo_5 hX hS ls hl
    have hv : v_2 = decide (8 ≤ c) := by rw [ev_2, hc]; exact full_dec c hc8
    subst hv
    refine lv_istore_n (lv' := [(2, .int (bI ((decide (8 ≤ c))))), (0, .ref (B + (2))), (1, .ref (B + (15)))]) hx hb dX2_readMill_14 rfl hl (by decide) rfl (fun ls hl => ?_)
    have K_6 : ∀   (y1 : Mem) (_ : RD f t (mz f t (p, w) c).1 (mz f t (p, w) c).2 y1 ∧ ∀ a, a ≠ 2 → y1 a = x a) (H_7 : Heap) (lo_8 : List Loc) (_ : MR G (wX G B tt) y1 H_7) (_ : va_S (blkA B (B + 117)) ss.heap H_7 lo_8) (ls : Array Slot) (_ : lv_has ls 4 [(2, .int (bI ((decide (8 ≤ c))))), (0, .ref (B + (2))), (1, .ref (B + (15)))]), W pp l ee rmX2_readMill ss mm aa bb mt cd H_7 lo_8 0 0 Q (F0 mm 33 ls []) := by
      intro y1 hI H_7 lo_8 hX hS ls hl
      obtain ⟨hDz, hoz⟩ := hI
      have hpz := mz_le (f := f) (c := c) (s := (p, w)) hpt
      refine lv_aload_n hx hb dX2_readMill_33 rfl (lv_at hl 1 rfl) ?_
      refine va_ldcS hx hb hown (hE.2.2.1 1 _ _ rfl) dX2_readMill_34 ?_
      refine x_vf (w := (wX G B tt)) (va_runV (As := [.ref (tt (100 + 1))]) (rest := []) ⟨hx, hb, hml, hown, hts⟩ (c_X2_takeName (l := l) (G := G) (B := B) (tt := tt) (hW := hW) (x := y1) (sq := 1) (f := f) (t := t) (p := (mz f t (p, w) c).1) (w := (mz f t (p, w) c).2) (hRD := hDz) (ht400 := ht400) (hpt := hpz) (hq7 := (by omega))) (cwV 1 hts gX2_readMill_X2_takeName rfl rfl rfl (by decide +kernel) ⟨Nat.le_of_ble_eq_true rfl, Nat.le_of_ble_eq_true rfl⟩) (x_pv (w := (wX G B tt)) (a := 2) hW hX hK hE hS [.ref (tt (100 + 1))] (Nat.le_of_ble_eq_true rfl) (shX_rd (G := G) (B := B)) rfl) rfl rfl hl.1 rfl (lv_room (Nat.le_of_ble_eq_true rfl)) dX2_readMill_36 ⟨Nat.zero_le _, Nat.zero_le _⟩) hS (fun x_11 H_9 lo_10 h_36 hX hS => ?_)
      try dsimp only at h_36
      have hD1 : RD f t (ml1 f t (p, w) c).1 (ml1 f t (p, w) c).2 x_11 := h_36.1
      have hc1 : x_11 (15) 1 = nI c := by rw [h_36.2 15 (by decide), hoz 15 (by decide)]; exact hc
      refine lv_iload_n hx hb dX2_readMill_39 rfl (lv_at hl 0 rfl) ?_
      refine x_ifne (tgt := 50) hx hb dX2_readMill_40 (by decide) (fun c_12 => ?_) (fun c_12 => ?_)
      · have hw1 := ml1_full (f := f) (t := t) (s := (p, w)) (of_decide_eq_true c_12)
        rw [← hQ]
        refine x_vret hx hb hr hX hS hlocks dX2_readMill_50 ?_
        have e9 := mlS_fz1 (d := d) hw1
        rw [e9]
        exact ⟨hD1, fun a a1 _ => (h_36.2 a a1).trans (hoz a a1), ⟨c, hc8, hc1⟩, fun z => absurd z hw1⟩
      · have hc7 : c < 8 := Nat.not_le.mp (of_decide_eq_false c_12)
        refine lv_aload_n hx hb dX2_readMill_43 rfl (lv_at hl 1 rfl) ?_
        refine x_get (w := (wX G B tt)) (a := 2) (v := .int (x_11 (2) 5)) hx hb hts iX2_readMill_X2 hown hK hX (Nat.le_of_ble_eq_true rfl) (shX_rd (G := G) (B := B)) rfl 5 (by decide) (hts _ kX2_readMill_22) (fun _ h9 => h9) rfl dX2_readMill_44 ?_
        refine lv_if_eq (tgt := 51) hx hb dX2_readMill_47 (by decide) (fun c_13 => ?_) (fun c_13 => ?_)
        · have hw1 : (ml1 f t (p, w) c).2 = 0 := hD1.2.2.2.1.symm.trans c_13
          have hR := hRR (ml1_0 (s := (p, w)) hw1)
          refine lv_aload_n hx hb dX2_readMill_51 rfl (lv_at hl 2 rfl) ?_
          refine x_get (w := (wX G B tt)) (a := 15) (v := .ref (B + (15 + 1))) hx hb hts iX2_readMill_X3 hown hK hX (rg_lt rg15) (shX_ri (G := G) (B := B) rg15) rfl 0 (by decide) (hts _ kX2_readMill_78) (fun _ h9 => h9) rfl dX2_readMill_52 ?_
          refine lv_aload_n hx hb dX2_readMill_55 rfl (lv_at hl 2 rfl) ?_
          refine x_get (w := (wX G B tt)) (a := 15) (v := .int (x_11 (15) 1)) hx hb hts iX2_readMill_X3 hown hK hX (rg_lt rg15) (shX_ri (G := G) (B := B) rg15) rfl 1 (by decide) (hts _ kX2_readMill_25) (fun _ h9 => h9) rfl dX2_readMill_56 ?_
          refine x_aald (w := (wX G B tt)) (a := 15 + 1) (n := 8) (j := c) (q := B + (15 + 1 + 1 + c)) (t0 := 2) hx hb hK hX (rg_lt1 rg15) (shX_ma (G := G) (B := B) (f := x_11 (15 + 1)) rg15) rfl hc1 (by omega) (by decide) rfl dX2_readMill_59 ?_
          refine lv_astore_n (lv' := [(3, .ref (B + (15 + 1 + 1 + c))), (2, .int (bI ((decide (8 ≤ c))))), (0, .ref (B + (2))), (1, .ref (B + (15)))]) hx hb dX2_readMill_60 rfl hl (by decide) rfl (fun ls hl => ?_)
          refine lv_aload_n hx hb dX2_readMill_61 rfl (lv_at hl 0 rfl) ?_
          refine lv_aload_n hx hb dX2_readMill_62 rfl (lv_at hl 3 rfl) ?_
          refine x_get (w := (wX G B tt)) (a := 15) (v := .int (x_11 (15) 1)) hx hb hts iX2_readMill_X3 hown hK hX (rg_lt rg15) (shX_ri (G := G) (B := B) rg15) rfl 1 (by decide) (hts _ kX2_readMill_25) (fun _ h9 => h9) rfl dX2_readMill_63 ?_
          refine lv_aload_n hx hb dX2_readMill_66 rfl (lv_at hl 2 rfl) ?_
          refine x_if (w := (wX G B tt)) (va_runV (As := []) (rest := [.int (x_11 (15) 1), .ref (B + (15 + 1 + 1 + c))]) ⟨hx, hb, hml, hown, hts⟩ (c_X2_takeSort (l := l) (G := G) (B := B) (tt := tt) (hW := hW) (x := x_11) (f := f) (t := t) (p := (ml1 f t (p, w) c).1) (w := (ml1 f t (p, w) c).2) (hRD := hD1) (ht400 := ht400) (hpt := (ml1_le (s := (p, w)) hpt))) (cwV 0 hts gX2_readMill_X2_takeSort rfl rfl rfl (by decide +kernel) ⟨Nat.le_of_ble_eq_true rfl, Nat.le_of_ble_eq_true rfl⟩) (x_pv (w := (wX G B tt)) (a := 2) hW hX hK hE hS [] (Nat.le_of_ble_eq_true rfl) (shX_rd (G := G) (B := B)) rfl) rfl rfl hl.1 rfl (lv_room (Nat.le_of_ble_eq_true rfl)) dX2_readMill_67 ⟨Nat.zero_le _, Nat.zero_le _⟩) hS (fun r_16 x_17 H_14 lo_15 h_67 hX hS => ?_)
          try dsimp only at h_67
          have hE2 : RD f t (ml2 f t (p, w) c).1 (ml2 f t (p, w) c).2 x_17 := h_67.2.1
          refine x_vf (w := (wX G B tt)) (va_runV (As := [.int (x_11 (15) 1), .int (r_16)]) (rest := []) ⟨hx, hb, hml, hown, hts⟩ (c_X0_begin (l := l) (G := G) (B := B) (tt := tt) (hW := hW) (x := x_17) (ρ := 15) (hρ := rg15) (j := c) (hj := (by omega)) (nu := x_11 (15) 1) (k := r_16)) (cwV 2 hts gX2_readMill_X0_begin rfl rfl rfl (by decide +kernel) ⟨Nat.le_of_ble_eq_true rfl, Nat.le_of_ble_eq_true rfl⟩) (x_pv (w := (wX G B tt)) (a := 15 + 1 + 1 + c) hW hX hK hE hS [.int (x_11 (15) 1), .int (r_16)] (rg_ltm rg15 (by omega)) (shX_mi (G := G) (B := B) rg15 (by omega)) rfl) rfl rfl hl.1 rfl (lv_room (Nat.le_of_ble_eq_true rfl)) dX2_readMill_70 ⟨Nat.zero_le _, Nat.zero_le _⟩) hS (fun x_20 H_18 lo_19 h_70 hX hS => ?_)
          try dsimp only at h_70
          have hD2 : RD f t (ml2 f t (p, w) c).1 (ml2 f t (p, w) c).2 x_20 := hE2.off (h_70.1 2 (by omega)) (h_70.1 3 (by omega)) (h_70.1 4 (by omega))
          have hb70 : x_20 (15 + 1 + 1 + c) 0 = nI c ∧ x_20 (15 + 1 + 1 + c) 1 = nI (srtN f t (ml1 f t (p, w) c).1) ∧ x_20 (15 + 1 + 1 + c) 8 = 0 ∧ x_20 (15 + 1 + 1 + c) 9 = 0 ∧ x_20 (15 + 1 + 1 + c) 10 = 0 ∧ x_20 (15 + 1 + 1 + c) 11 = 0 := ⟨by rw [h_70.2]; exact hc1, by rw [h_70.2]; exact h_67.1, by rw [h_70.2]; rfl, by rw [h_70.2]; rfl, by rw [h_70.2]; rfl, by rw [h_70.2]; rfl⟩
          refine lv_aload_n hx hb dX2_readMill_73 rfl (lv_at hl 0 rfl) ?_
          refine lv_aload_n hx hb dX2_readMill_74 rfl (lv_at hl 2 rfl) ?_
          refine lv_iconst (v := 0) hx hb dX2_readMill_75 (by decide) ?_
          refine lv_bipush (v := 20) hx hb dX2_readMill_76 (by decide) ?_
          refine x_if (w := (wX G B tt)) (va_runV (As := [.int (0), .int (20)]) (rest := [.ref (B + (15 + 1 + 1 + c))]) ⟨hx, hb, hml, hown, hts⟩ (c_X2_takeNumber (l := l) (G := G) (B := B) (tt := tt) (hW := hW) (x := x_20) (lo := 0) (hi := 20) (f := f) (t := t) (p := (ml2 f t (p, w) c).1) (w := (ml2 f t (p, w) c).2) (hRD := hD2) (ht400 := ht400) (hpt := (ml2_le (s := (p, w)) hpt))) (cwV 2 hts gX2_readMill_X2_takeNumber rfl rfl rfl (by decide +kernel) ⟨Nat.le_of_ble_eq_true rfl, Nat.le_of_ble_eq_true rfl⟩) (x_pv (w := (wX G B tt)) (a := 2) hW hX hK hE hS [.int (0), .int (20)] (Nat.le_of_ble_eq_true rfl) (shX_rd (G := G) (B := B)) rfl) rfl rfl hl.1 rfl (lv_room (Nat.le_of_ble_eq_true rfl)) dX2_readMill_78 ⟨Nat.zero_le _, Nat.zero_le _⟩) hS (fun r_23 x_24 H_21 lo_22 h_78 hX hS => ?_)
          try dsimp only at h_78
          have hE3 : RD f t (ml3 f t (p, w) c).1 (ml3 f t (p, w) c).2 x_24 := h_78.2.1
          refine x_put (w := (wX G B tt)) (a := 15 + 1 + 1 + c) (v := r_23) (ty := .int) hx hb hts iX2_readMill_X0 tyX0 tyX0_ok nmX0 hown hK hW hX hS (rg_ltm rg15 (by omega)) (shX_mi (G := G) (B := B) rg15 (by omega)) rfl 2 (by decide) (hts _ kX2_readMill_92) (fun _ h9 => h9) rfl (by decide +kernel) rfl rfl (Nat.le_of_ble_eq_true rfl) (shX_mi (G := G) (B := B) rg15 (by omega)) dX2_readMill_81 (fun H_26 lo_27 hX hS => ?_)
          obtain ⟨x_25, ex_25⟩ : ∃ z, z = mst x_24 (15 + 1 + 1 + c) 2 (r_23) := ⟨_, rfl⟩
          rw [← ex_25] at hX
          have hD3 : RD f t (ml3 f t (p, w) c).1 (ml3 f t (p, w) c).2 x_25 := by rw [ex_25]; exact hE3.w15 (by omega)
          have hx2 : (ml3 f t (p, w) c).2 = 0 → x_25 (15 + 1 + 1 + c) 2 = tvI f t (ml2 f t (p, w) c).1 := fun z => by rw [ex_25, mst_self, h_78.1]; exact hD2.2.2.1.2.2.2 (stN_0 z).2.1
          have ho81 : ∀ a, a ≠ 2 → a ≠ 15 + 1 + 1 + c → x_25 a = x a := fun a a1 a2 => by rw [ex_25, mst_ne a2, h_78.2.2 a a1, h_70.1 a a2, h_67.2.2 a a1, h_36.2 a a1, hoz a a1]
          have hb81 : x_25 (15 + 1 + 1 + c) 0 = nI c ∧ x_25 (15 + 1 + 1 + c) 1 = nI (srtN f t (ml1 f t (p, w) c).1) ∧ x_25 (15 + 1 + 1 + c) 8 = 0 ∧ x_25 (15 + 1 + 1 + c) 9 = 0 ∧ x_25 (15 + 1 + 1 + c) 10 = 0 ∧ x_25 (15 + 1 + 1 + c) 11 = 0 := by rw [ex_25]; simp only [mst_eq, upd_ne (show (0 : Nat) ≠ 2 by decide), upd_ne (show (1 : Nat) ≠ 2 by decide), upd_ne (show (8 : Nat) ≠ 2 by decide), upd_ne (show (9 : Nat) ≠ 2 by decide), upd_ne (show (10 : Nat) ≠ 2 by decide), upd_ne (show (11 : Nat) ≠ 2 by decide)]; rw [h_78.2.2 _ (by omega)]; exact hb70
          have hc3 : x_25 15 1 = nI c := by rw [ho81 15 (by decide) (by omega)]; exact hc
          have K_28 : ∀   (y4 : Mem) (_ : RD f t (ml4 f t (p, w) c d).1 (ml4 f t (p, w) c d).2 y4 ∧ ∀ a, a ≠ 2 → y4 a = x_25 a) (H_29 : Heap) (lo_30 : List Loc) (_ : MR G (wX G B tt) y4 H_29) (_ : va_S (blkA B (B + 117)) ss.heap H_29 lo_30) (ls : Array Slot) (_ : lv_has ls 4 [(3, .ref (B + (15 + 1 + 1 + c))), (2, .int (bI ((decide (8 ≤ c))))), (0, .ref (B + (2))), (1, .ref (B + (15)))]), W pp l ee rmX2_readMill ss mm aa bb mt cd H_29 lo_30 0 0 Q (F0 mm 112 ls []) := by
            intro y4 hI H_29 lo_30 hX hS ls hl
            obtain ⟨hD4, ho4⟩ := hI
            refine lv_aload_n hx hb dX2_readMill_112 rfl (lv_at hl 0 rfl) ?_
            refine lv_aload_n hx hb dX2_readMill_113 rfl (lv_at hl 2 rfl) ?_
            refine lv_iconst (v := 0) hx hb dX2_readMill_114 (by decide) ?_
            refine lv_bipush (v := 20) hx hb dX2_readMill_115 (by decide) ?_
            refine x_if (w := (wX G B tt)) (va_runV (As := [.int (0), .int (20)]) (rest := [.ref (B + (15 + 1 + 1 + c))]) ⟨hx, hb, hml, hown, hts⟩ (c_X2_takeNumber (l := l) (G := G) (B := B) (tt := tt) (hW := hW) (x := y4) (lo := 0) (hi := 20) (f := f) (t := t) (p := (ml4 f t (p, w) c d).1) (w := (ml4 f t (p, w) c d).2) (hRD := hD4) (ht400 := ht400) (hpt := (ml4_le (s := (p, w)) hpt))) (cwV 2 hts gX2_readMill_X2_takeNumber rfl rfl rfl (by decide +kernel) ⟨Nat.le_of_ble_eq_true rfl, Nat.le_of_ble_eq_true rfl⟩) (x_pv (w := (wX G B tt)) (a := 2) hW hX hK hE hS [.int (0), .int (20)] (Nat.le_of_ble_eq_true rfl) (shX_rd (G := G) (B := B)) rfl) rfl rfl hl.1 rfl (lv_room (Nat.le_of_ble_eq_true rfl)) dX2_readMill_117 ⟨Nat.zero_le _, Nat.zero_le _⟩) hS (fun r_33 x_34 H_31 lo_32 h_117 hX hS => ?_)
            try dsimp only at h_117
            have hE5 : RD f t (ml5 f t (p, w) c d).1 (ml5 f t (p, w) c d).2 x_34 := h_117.2.1
            refine x_put (w := (wX G B tt)) (a := 15 + 1 + 1 + c) (v := r_33) (ty := .int) hx hb hts iX2_readMill_X0 tyX0 tyX0_ok nmX0 hown hK hW hX hS (rg_ltm rg15 (by omega)) (shX_mi (G := G) (B := B) rg15 (by omega)) rfl 3 (by decide) (hts _ kX2_readMill_102) (fun _ h9 => h9) rfl (by decide +kernel) rfl rfl (Nat.le_of_ble_eq_true rfl) (shX_mi (G := G) (B := B) rg15 (by omega)) dX2_readMill_120 (fun H_36 lo_37 hX hS => ?_)
            obtain ⟨x_35, ex_35⟩ : ∃ z, z = mst x_34 (15 + 1 + 1 + c) 3 (r_33) := ⟨_, rfl⟩
            rw [← ex_35] at hX
            have hD5 : RD f t (ml5 f t (p, w) c d).1 (ml5 f t (p, w) c d).2 x_35 := by rw [ex_35]; exact hE5.w15 (by omega)
            refine lv_aload_n hx hb dX2_readMill_123 rfl (lv_at hl 0 rfl) ?_
            refine lv_aload_n hx hb dX2_readMill_124 rfl (lv_at hl 2 rfl) ?_
            refine lv_iconst (v := 1) hx hb dX2_readMill_125 (by decide) ?_
            refine lv_bipush (v := 9) hx hb dX2_readMill_126 (by decide) ?_
            refine x_if (w := (wX G B tt)) (va_runV (As := [.int (1), .int (9)]) (rest := [.ref (B + (15 + 1 + 1 + c))]) ⟨hx, hb, hml, hown, hts⟩ (c_X2_takeNumber (l := l) (G := G) (B := B) (tt := tt) (hW := hW) (x := x_35) (lo := 1) (hi := 9) (f := f) (t := t) (p := (ml5 f t (p, w) c d).1) (w := (ml5 f t (p, w) c d).2) (hRD := hD5) (ht400 := ht400) (hpt := (ml5_le (s := (p, w)) hpt))) (cwV 2 hts gX2_readMill_X2_takeNumber rfl rfl rfl (by decide +kernel) ⟨Nat.le_of_ble_eq_true rfl, Nat.le_of_ble_eq_true rfl⟩) (x_pv (w := (wX G B tt)) (a := 2) hW hX hK hE hS [.int (1), .int (9)] (Nat.le_of_ble_eq_true rfl) (shX_rd (G := G) (B := B)) rfl) rfl rfl hl.1 rfl (lv_room (Nat.le_of_ble_eq_true rfl)) dX2_readMill_128 ⟨Nat.zero_le _, Nat.zero_le _⟩) hS (fun r_40 x_41 H_38 lo_39 h_128 hX hS => ?_)
            try dsimp only at h_128
            have hE6 : RD f t (ml6 f t (p, w) c d).1 (ml6 f t (p, w) c d).2 x_41 := h_128.2.1
            refine x_put (w := (wX G B tt)) (a := 15 + 1 + 1 + c) (v := r_40) (ty := .int) hx hb hts iX2_readMill_X0 tyX0 tyX0_ok nmX0 hown hK hW hX hS (rg_ltm rg15 (by omega)) (shX_mi (G := G) (B := B) rg15 (by omega)) rfl 4 (by decide) (hts _ kX2_readMill_105) (fun _ h9 => h9) rfl (by decide +kernel) rfl rfl (Nat.le_of_ble_eq_true rfl) (shX_mi (G := G) (B := B) rg15 (by omega)) dX2_readMill_131 (fun H_43 lo_44 hX hS => ?_)
            obtain ⟨x_42, ex_42⟩ : ∃ z, z = mst x_41 (15 + 1 + 1 + c) 4 (r_40) := ⟨_, rfl⟩
            rw [← ex_42] at hX
            have hD6 : RD f t (ml6 f t (p, w) c d).1 (ml6 f t (p, w) c d).2 x_42 := by rw [ex_42]; exact hE6.w15 (by omega)
            refine lv_aload_n hx hb dX2_readMill_134 rfl (lv_at hl 0 rfl) ?_
            refine lv_aload_n hx hb dX2_readMill_135 rfl (lv_at hl 2 rfl) ?_
            refine lv_iconst (v := 1) hx hb dX2_readMill_136 (by decide) ?_
            refine lv_bipush (v := 9) hx hb dX2_readMill_137 (by decide) ?_
            refine x_if (w := (wX G B tt)) (va_runV (As := [.int (1), .int (9)]) (rest := [.ref (B + (15 + 1 + 1 + c))]) ⟨hx, hb, hml, hown, hts⟩ (c_X2_takeNumber (l := l) (G := G) (B := B) (tt := tt) (hW := hW) (x := x_42) (lo := 1) (hi := 9) (f := f) (t := t) (p := (ml6 f t (p, w) c d).1) (w := (ml6 f t (p, w) c d).2) (hRD := hD6) (ht400 := ht400) (hpt := (ml6_le (s := (p, w)) hpt))) (cwV 2 hts gX2_readMill_X2_takeNumber rfl rfl rfl (by decide +kernel) ⟨Nat.le_of_ble_eq_true rfl, Nat.le_of_ble_eq_true rfl⟩) (x_pv (w := (wX G B tt)) (a := 2) hW hX hK hE hS [.int (1), .int (9)] (Nat.le_of_ble_eq_true rfl) (shX_rd (G := G) (B := B)) rfl) rfl rfl hl.1 rfl (lv_room (Nat.le_of_ble_eq_true rfl)) dX2_readMill_139 ⟨Nat.zero_le _, Nat.zero_le _⟩) hS (fun r_47 x_48 H_45 lo_46 h_139 hX hS => ?_)
            try dsimp only at h_139
            have hE7 : RD f t (ml7 f t (p, w) c d).1 (ml7 f t (p, w) c d).2 x_48 := h_139.2.1
            refine x_put (w := (wX G B tt)) (a := 15 + 1 + 1 + c) (v := r_47) (ty := .int) hx hb hts iX2_readMill_X0 tyX0 tyX0_ok nmX0 hown hK hW hX hS (rg_ltm rg15 (by omega)) (shX_mi (G := G) (B := B) rg15 (by omega)) rfl 5 (by decide) (hts _ kX2_readMill_108) (fun _ h9 => h9) rfl (by decide +kernel) rfl rfl (Nat.le_of_ble_eq_true rfl) (shX_mi (G := G) (B := B) rg15 (by omega)) dX2_readMill_142 (fun H_50 lo_51 hX hS => ?_)
            obtain ⟨x_49, ex_49⟩ : ∃ z, z = mst x_48 (15 + 1 + 1 + c) 5 (r_47) := ⟨_, rfl⟩
            rw [← ex_49] at hX
            have hD7 : RD f t (ml7 f t (p, w) c d).1 (ml7 f t (p, w) c d).2 x_49 := by rw [ex_49]; exact hE7.w15 (by omega)
            refine lv_aload_n hx hb dX2_readMill_145 rfl (lv_at hl 0 rfl) ?_
            refine lv_aload_n hx hb dX2_readMill_146 rfl (lv_at hl 2 rfl) ?_
            refine lv_iconst (v := 0) hx hb dX2_readMill_147 (by decide) ?_
            refine lv_bipush (v := 99) hx hb dX2_readMill_148 (by decide) ?_
            refine x_if (w := (wX G B tt)) (va_runV (As := [.int (0), .int (99)]) (rest := [.ref (B + (15 + 1 + 1 + c))]) ⟨hx, hb, hml, hown, hts⟩ (c_X2_takeNumber (l := l) (G := G) (B := B) (tt := tt) (hW := hW) (x := x_49) (lo := 0) (hi := 99) (f := f) (t := t) (p := (ml7 f t (p, w) c d).1) (w := (ml7 f t (p, w) c d).2) (hRD := hD7) (ht400 := ht400) (hpt := (ml7_le (s := (p, w)) hpt))) (cwV 2 hts gX2_readMill_X2_takeNumber rfl rfl rfl (by decide +kernel) ⟨Nat.le_of_ble_eq_true rfl, Nat.le_of_ble_eq_true rfl⟩) (x_pv (w := (wX G B tt)) (a := 2) hW hX hK hE hS [.int (0), .int (99)] (Nat.le_of_ble_eq_true rfl) (shX_rd (G := G) (B := B)) rfl) rfl rfl hl.1 rfl (lv_room (Nat.le_of_ble_eq_true rfl)) dX2_readMill_150 ⟨Nat.zero_le _, Nat.zero_le _⟩) hS (fun r_54 x_55 H_52 lo_53 h_150 hX hS => ?_)
            try dsimp only at h_150
            have hE8 : RD f t (ml8 f t (p, w) c d).1 (ml8 f t (p, w) c d).2 x_55 := h_150.2.1
            refine x_put (w := (wX G B tt)) (a := 15 + 1 + 1 + c) (v := r_54) (ty := .int) hx hb hts iX2_readMill_X0 tyX0 tyX0_ok nmX0 hown hK hW hX hS (rg_ltm rg15 (by omega)) (shX_mi (G := G) (B := B) rg15 (by omega)) rfl 6 (by decide) (hts _ kX2_readMill_111) (fun _ h9 => h9) rfl (by decide +kernel) rfl rfl (Nat.le_of_ble_eq_true rfl) (shX_mi (G := G) (B := B) rg15 (by omega)) dX2_readMill_153 (fun H_57 lo_58 hX hS => ?_)
            obtain ⟨x_56, ex_56⟩ : ∃ z, z = mst x_55 (15 + 1 + 1 + c) 6 (r_54) := ⟨_, rfl⟩
            rw [← ex_56] at hX
            have hD8 : RD f t (ml8 f t (p, w) c d).1 (ml8 f t (p, w) c d).2 x_56 := by rw [ex_56]; exact hE8.w15 (by omega)
            refine lv_aload_n hx hb dX2_readMill_156 rfl (lv_at hl 0 rfl) ?_
            refine lv_aload_n hx hb dX2_readMill_157 rfl (lv_at hl 2 rfl) ?_
            refine lv_iconst (v := 0) hx hb dX2_readMill_158 (by decide) ?_
            refine lv_sipush (v := 999) hx hb dX2_readMill_159 (by decide) ?_
            refine x_if (w := (wX G B tt)) (va_runV (As := [.int (0), .int (999)]) (rest := [.ref (B + (15 + 1 + 1 + c))]) ⟨hx, hb, hml, hown, hts⟩ (c_X2_takeNumber (l := l) (G := G) (B := B) (tt := tt) (hW := hW) (x := x_56) (lo := 0) (hi := 999) (f := f) (t := t) (p := (ml8 f t (p, w) c d).1) (w := (ml8 f t (p, w) c d).2) (hRD := hD8) (ht400 := ht400) (hpt := (ml8_le (s := (p, w)) hpt))) (cwV 2 hts gX2_readMill_X2_takeNumber rfl rfl rfl (by decide +kernel) ⟨Nat.le_of_ble_eq_true rfl, Nat.le_of_ble_eq_true rfl⟩) (x_pv (w := (wX G B tt)) (a := 2) hW hX hK hE hS [.int (0), .int (999)] (Nat.le_of_ble_eq_true rfl) (shX_rd (G := G) (B := B)) rfl) rfl rfl hl.1 rfl (lv_room (Nat.le_of_ble_eq_true rfl)) dX2_readMill_162 ⟨Nat.zero_le _, Nat.zero_le _⟩) hS (fun r_61 x_62 H_59 lo_60 h_162 hX hS => ?_)
            try dsimp only at h_162
            have hE9 : RD f t (ml9 f t (p, w) c d).1 (ml9 f t (p, w) c d).2 x_62 := h_162.2.1
            refine x_put (w := (wX G B tt)) (a := 15 + 1 + 1 + c) (v := r_61) (ty := .int) hx hb hts iX2_readMill_X0 tyX0 tyX0_ok nmX0 hown hK hW hX hS (rg_ltm rg15 (by omega)) (shX_mi (G := G) (B := B) rg15 (by omega)) rfl 7 (by decide) (hts _ kX2_readMill_114) (fun _ h9 => h9) rfl (by decide +kernel) rfl rfl (Nat.le_of_ble_eq_true rfl) (shX_mi (G := G) (B := B) rg15 (by omega)) dX2_readMill_165 (fun H_64 lo_65 hX hS => ?_)
            obtain ⟨x_63, ex_63⟩ : ∃ z, z = mst x_62 (15 + 1 + 1 + c) 7 (r_61) := ⟨_, rfl⟩
            rw [← ex_63] at hX
            have hD9 : RD f t (ml9 f t (p, w) c d).1 (ml9 f t (p, w) c d).2 x_63 := by rw [ex_63]; exact hE9.w15 (by omega)
            refine lv_aload_n hx hb dX2_readMill_168 rfl (lv_at hl 2 rfl) ?_
            refine x_vf (w := (wX G B tt)) (va_runV (As := []) (rest := []) ⟨hx, hb, hml, hown, hts⟩ (c_X2_takeSign (l := l) (G := G) (B := B) (tt := tt) (hW := hW) (x := x_63) (f := f) (t := t) (p := (ml9 f t (p, w) c d).1) (w := (ml9 f t (p, w) c d).2) (hRD := hD9) (ht400 := ht400) (hpt := (ml9_le (s := (p, w)) hpt))) (cwV 0 hts gX2_readMill_X2_takeSign rfl rfl rfl (by decide +kernel) ⟨Nat.le_of_ble_eq_true rfl, Nat.le_of_ble_eq_true rfl⟩) (x_pv (w := (wX G B tt)) (a := 2) hW hX hK hE hS [] (Nat.le_of_ble_eq_true rfl) (shX_rd (G := G) (B := B)) rfl) rfl rfl hl.1 rfl (lv_room (Nat.le_of_ble_eq_true rfl)) dX2_readMill_169 ⟨Nat.zero_le _, Nat.zero_le _⟩) hS (fun x_68 H_66 lo_67 h_169 hX hS => ?_)
            try dsimp only at h_169
            have hc9 : x_68 (15) 1 = nI c := by rw [h_169.2 15 (by decide), ex_63, mst_ne (by omega), h_162.2.2 15 (by decide), ex_56, mst_ne (by omega), h_150.2.2 15 (by decide), ex_49, mst_ne (by omega), h_139.2.2 15 (by decide), ex_42, mst_ne (by omega), h_128.2.2 15 (by decide), ex_35, mst_ne (by omega), h_117.2.2 15 (by decide), ho4 15 (by decide)]; exact hc3
            refine lv_aload_n hx hb dX2_readMill_172 rfl (lv_at hl 3 rfl) ?_
            refine lv_dup hx hb dX2_readMill_173 rfl ?_
            refine x_get (w := (wX G B tt)) (a := 15) (v := .int (x_68 (15) 1)) hx hb hts iX2_readMill_X3 hown hK hX (rg_lt rg15) (shX_ri (G := G) (B := B) rg15) rfl 1 (by decide) (hts _ kX2_readMill_25) (fun _ h9 => h9) rfl dX2_readMill_174 ?_
            refine lv_iconst (v := 1) hx hb dX2_readMill_177 (by decide) ?_
            refine lv_iadd hx hb dX2_readMill_178 ?_
            refine x_put (w := (wX G B tt)) (a := 15) (v := (x_68 (15) 1) + 1) (ty := .int) hx hb hts iX2_readMill_X3 tyX3 tyX3_ok nmX3 hown hK hW hX hS (rg_lt rg15) (shX_ri (G := G) (B := B) rg15) rfl 1 (by decide) (hts _ kX2_readMill_25) (fun _ h9 => h9) rfl (by decide +kernel) rfl rfl (Nat.le_of_ble_eq_true rfl) (shX_ri (G := G) (B := B) rg15) dX2_readMill_179 (fun H_70 lo_71 hX hS => ?_)
            obtain ⟨x_69, ex_69⟩ : ∃ z, z = mst x_68 (15) 1 ((x_68 (15) 1) + 1) := ⟨_, rfl⟩
            rw [← ex_69] at hX
            have z_73 : x_69 (15) 1 = nI (c + 1) := by rw [ex_69, mst_self]; first | done | exact (n_add hc9 rfl)
            rw [← hQ]
            refine x_vret hx hb hr hX hS hlocks dX2_readMill_182 ?_
            have hDS : RD f t (mlS f t (p, w) c d).1 (mlS f t (p, w) c d).2 _ := h_169.1
            have hn : x_69 15 1 = nI (c + 1) := by rw [ex_69, mst_self]; exact n_add hc9 rfl
            have hA : ∀ a, a ≠ 2 → a ≠ 15 → a ≠ 15 + 1 + 1 + c → x_69 a = x a := fun a a1 a2 a3 => by rw [ex_69, mst_ne a2, h_169.2 a a1, ex_63, mst_ne a3, h_162.2.2 a a1, ex_56, mst_ne a3, h_150.2.2 a a1, ex_49, mst_ne a3, h_139.2.2 a a1, ex_42, mst_ne a3, h_128.2.2 a a1, ex_35, mst_ne a3, h_117.2.2 a a1, ho4 a a1, ho81 a a1 a3]
            have h15 : ∀ s, s ≠ 1 → x_69 15 s = x 15 s := fun s s1 => by rw [ex_69, mst_eq, upd_ne s1, h_169.2 15 (by decide), ex_63, mst_ne (by omega), h_162.2.2 15 (by decide), ex_56, mst_ne (by omega), h_150.2.2 15 (by decide), ex_49, mst_ne (by omega), h_139.2.2 15 (by decide), ex_42, mst_ne (by omega), h_128.2.2 15 (by decide), ex_35, mst_ne (by omega), h_117.2.2 15 (by decide), ho4 15 (by decide), ho81 15 (by decide) (by omega)]
            refine ⟨by rw [ex_69]; exact hDS.w15 (by decide), fun a a1 a2 => hA a a1 (by omega) (by omega), ⟨c + 1, by omega, hn⟩, fun z => ⟨hc7, ?_⟩⟩
            have hM := ho4 (15 + 1 + 1 + c) (by omega)
            have z9 := (stB_0 z).2
            obtain ⟨z8, y8, -⟩ := stN_0 (s := ml8 f t (p, w) c d) z9
            obtain ⟨z7, y7, -⟩ := stN_0 (s := ml7 f t (p, w) c d) z8
            obtain ⟨z6, y6, -⟩ := stN_0 (s := ml6 f t (p, w) c d) z7
            obtain ⟨z5, y5, -⟩ := stN_0 (s := ml5 f t (p, w) c d) z6
            obtain ⟨z4, y4t, -⟩ := stN_0 (s := ml4 f t (p, w) c d) z5
            obtain ⟨z3, e43⟩ := my_0 (s := ml3 f t (p, w) c) z4
            have e43p : (ml4 f t (p, w) c d).1 = (ml3 f t (p, w) c).1 := congrArg Prod.fst e43
            have hch : ∀ s, s ≠ 3 → s ≠ 4 → s ≠ 5 → s ≠ 6 → s ≠ 7 → x_69 (15 + 1 + 1 + c) s = x_25 (15 + 1 + 1 + c) s := fun s s3 s4 s5 s6 s7 => by rw [ex_69, mst_ne (by omega), h_169.2 _ (by omega), ex_63, mst_eq, upd_ne s7, h_162.2.2 _ (by omega), ex_56, mst_eq, upd_ne s6, h_150.2.2 _ (by omega), ex_49, mst_eq, upd_ne s5, h_139.2.2 _ (by omega), ex_42, mst_eq, upd_ne s4, h_128.2.2 _ (by omega), ex_35, mst_eq, upd_ne s3, h_117.2.2 _ (by omega), hM]
            obtain ⟨b0, b1, b8, b9, b10, b11⟩ := hb81
            refine RR_add hR hc7 (fun j hj => hA _ (by omega) (by omega) (by omega)) hn h15 ?_ ?_ ?_ ?_ ?_ ?_ ?_ ?_ ?_ ?_ ?_ ?_
            · rw [hch 0 (by decide) (by decide) (by decide) (by decide) (by decide)]; exact b0
            · rw [hch 1 (by decide) (by decide) (by decide) (by decide) (by decide)]; exact b1
            · rw [hch 2 (by decide) (by decide) (by decide) (by decide) (by decide)]; exact hx2 z3
            · rw [ex_69, mst_ne (by omega), h_169.2 _ (by omega), ex_63, mst_eq, upd_ne (by decide), h_162.2.2 _ (by omega), ex_56, mst_eq, upd_ne (by decide), h_150.2.2 _ (by omega), ex_49, mst_eq, upd_ne (by decide), h_139.2.2 _ (by omega), ex_42, mst_eq, upd_ne (by decide), h_128.2.2 _ (by omega), ex_35, mst_self, h_117.1, hD4.2.2.1.2.2.2 y4t, e43p]; rfl
            · rw [ex_69, mst_ne (by omega), h_169.2 _ (by omega), ex_63, mst_eq, upd_ne (by decide), h_162.2.2 _ (by omega), ex_56, mst_eq, upd_ne (by decide), h_150.2.2 _ (by omega), ex_49, mst_eq, upd_ne (by decide), h_139.2.2 _ (by omega), ex_42, mst_self, h_128.1, hD5.2.2.1.2.2.2 y5]; rfl
            · rw [ex_69, mst_ne (by omega), h_169.2 _ (by omega), ex_63, mst_eq, upd_ne (by decide), h_162.2.2 _ (by omega), ex_56, mst_eq, upd_ne (by decide), h_150.2.2 _ (by omega), ex_49, mst_self, h_139.1, hD6.2.2.1.2.2.2 y6]; rfl
            · rw [ex_69, mst_ne (by omega), h_169.2 _ (by omega), ex_63, mst_eq, upd_ne (by decide), h_162.2.2 _ (by omega), ex_56, mst_self, h_150.1, hD7.2.2.1.2.2.2 y7]; rfl
            · rw [ex_69, mst_ne (by omega), h_169.2 _ (by omega), ex_63, mst_self, h_162.1, hD8.2.2.1.2.2.2 y8]; rfl
            · rw [hch 8 (by decide) (by decide) (by decide) (by decide) (by decide)]; exact b8
            · rw [hch 9 (by decide) (by decide) (by decide) (by decide) (by decide)]; exact b9
            · rw [hch 10 (by decide) (by decide) (by decide) (by decide) (by decide)]; exact b10
            · rw [hch 11 (by decide) (by decide) (by decide) (by decide) (by decide), b11]; rfl
          refine lv_aload_n hx hb dX2_readMill_84 rfl (lv_at hl 2 rfl) ?_
          refine x_get (w := (wX G B tt)) (a := 2) (v := .int (x_25 (2) 1)) hx hb hts iX2_readMill_X2 hown hK hX (Nat.le_of_ble_eq_true rfl) (shX_rd (G := G) (B := B)) rfl 1 (by decide) (hts _ kX2_readMill_43) (fun _ h9 => h9) rfl dX2_readMill_85 ?_
          refine lv_iconst (v := 2) hx hb dX2_readMill_88 (by decide) ?_
          refine lv_icmp_ne (tgt := 112) hx hb dX2_readMill_89 (by decide) (fun c_74 => ?_) (fun c_74 => ?_)
          · exact K_28 (x_25) (by first | exact ⟨by rw [show ml4 f t (p, w) c d = ml3 f t (p, w) c from my_a (fun z => c_74 (hD3.2.2.1.1.trans z))]; exact hD3, fun a _ => rfl⟩ | exact ⟨by rw [show ml4 f t (p, w) c d = ml3 f t (p, w) c from my_b (fun z => by rw [← hTk z]; exact c_74)]; exact hD3, fun a _ => rfl⟩ | exact ⟨by rw [show ml4 f t (p, w) c d = ((ml3 f t (p, w) c).1, rfW (ml3 f t (p, w) c).2 2) from my_c htk2 (fun z => by rw [← hTk z]; exact c_74)]; exact h_109.1, h_109.2.2⟩) _ _ hX hS ls (lv_sub hl [0, 1, 2, 3] rfl)
          · have htk2 : tkI f t (ml3 f t (p, w) c).1 = 2 := hD3.2.2.1.1.symm.trans c_74
            have hTk : (ml3 f t (p, w) c).2 = 0 → takB x_25 15 c (x_25 (15 + 1 + 1 + c) 2) (x_25 2 4) = takR d c (tvI f t (ml2 f t (p, w) c).1) (tvI f t (ml3 f t (p, w) c).1) := fun z => by rw [hR.tak (fun j hj => ho81 _ (by omega) (by omega)) _ _, hx2 z, hD3.2.2.1.2.2.2 htk2]
            refine lv_aload_n hx hb dX2_readMill_92 rfl (lv_at hl 3 rfl) ?_
            refine lv_aload_n hx hb dX2_readMill_93 rfl (lv_at hl 0 rfl) ?_
            refine x_get (w := (wX G B tt)) (a := 15 + 1 + 1 + c) (v := .int (x_25 (15 + 1 + 1 + c) 2)) hx hb hts iX2_readMill_X0 hown hK hX (rg_ltm rg15 (by omega)) (shX_mi (G := G) (B := B) rg15 (by omega)) rfl 2 (by decide) (hts _ kX2_readMill_92) (fun _ h9 => h9) rfl dX2_readMill_94 ?_
            refine lv_aload_n hx hb dX2_readMill_97 rfl (lv_at hl 2 rfl) ?_
            refine x_get (w := (wX G B tt)) (a := 2) (v := .int (x_25 (2) 4)) hx hb hts iX2_readMill_X2 hown hK hX (Nat.le_of_ble_eq_true rfl) (shX_rd (G := G) (B := B)) rfl 4 (by decide) (hts _ kX2_readMill_95) (fun _ h9 => h9) rfl dX2_readMill_98 ?_
            refine x_ip (w := (wX G B tt)) (x := x_25) (v := bI (takB x_25 15 c (x_25 (15 + 1 + 1 + c) 2) (x_25 (2) 4))) (va_runV (As := [.int (x_25 (15 + 1 + 1 + c) 2), .int (x_25 (2) 4)]) (rest := []) ⟨hx, hb, hml, hown, hts⟩ (c_X3_isTaken (l := l) (G := G) (B := B) (tt := tt) (hW := hW) (x := x_25) (ρ := 15) (hρ := rg15) (a := x_25 (15 + 1 + 1 + c) 2) (b9 := x_25 (2) 4) (n := c) (hn := hc3) (hn8 := hc8)) (cwV 2 hts gX2_readMill_X3_isTaken rfl rfl rfl (by decide +kernel) ⟨Nat.le_of_ble_eq_true rfl, Nat.le_of_ble_eq_true rfl⟩) (x_pv (w := (wX G B tt)) (a := 15) hW hX hK hE hS [.int (x_25 (15 + 1 + 1 + c) 2), .int (x_25 (2) 4)] (rg_lt rg15) (shX_ri (G := G) (B := B) rg15) rfl) rfl rfl hl.1 rfl (lv_room (Nat.le_of_ble_eq_true rfl)) dX2_readMill_101 ⟨Nat.zero_le _, Nat.zero_le _⟩) hS (fun H_75 lo_76 hX hS => ?_)
            refine x_ifeq (tgt := 112) hx hb dX2_readMill_104 (by decide) (fun c_77 => ?_) (fun c_77 => ?_)
            · exact K_28 (x_25) (by first | exact ⟨by rw [show ml4 f t (p, w) c d = ml3 f t (p, w) c from my_a (fun z => c_77 (hD3.2.2.1.1.trans z))]; exact hD3, fun a _ => rfl⟩ | exact ⟨by rw [show ml4 f t (p, w) c d = ml3 f t (p, w) c from my_b (fun z => by rw [← hTk z]; exact c_77)]; exact hD3, fun a _ => rfl⟩ | exact ⟨by rw [show ml4 f t (p, w) c d = ((ml3 f t (p, w) c).1, rfW (ml3 f t (p, w) c).2 2) from my_c htk2 (fun z => by rw [← hTk z]; exact c_77)]; exact h_109.1, h_109.2.2⟩) _ _ hX hS ls (lv_sub hl [0, 1, 2, 3] rfl)
            · refine lv_aload_n hx hb dX2_readMill_107 rfl (lv_at hl 2 rfl) ?_
              refine lv_iconst (v := 2) hx hb dX2_readMill_108 (by decide) ?_
              refine x_vf (w := (wX G B tt)) (va_runV (As := [.int (2)]) (rest := []) ⟨hx, hb, hml, hown, hts⟩ (c_X2_refuse (l := l) (G := G) (B := B) (tt := tt) (hW := hW) (x := x_25) (k := 2) (f := f) (t := t) (p := (ml3 f t (p, w) c).1) (w := (ml3 f t (p, w) c).2) (hRD := hD3) (hk0 := (by decide))) (cwV 1 hts gX2_readMill_X2_refuse rfl rfl rfl (by decide +kernel) ⟨Nat.le_of_ble_eq_true rfl, Nat.le_of_ble_eq_true rfl⟩) (x_pv (w := (wX G B tt)) (a := 2) hW hX hK hE hS [.int (2)] (Nat.le_of_ble_eq_true rfl) (shX_rd (G := G) (B := B)) rfl) rfl rfl hl.1 rfl (lv_room (Nat.le_of_ble_eq_true rfl)) dX2_readMill_109 ⟨Nat.zero_le _, Nat.zero_le _⟩) hS (fun x_80 H_78 lo_79 h_109 hX hS => ?_)
              try dsimp only at h_109
              exact K_28 (x_80) (by first | exact ⟨by rw [show ml4 f t (p, w) c d = ml3 f t (p, w) c from my_a (fun z => c_77 (hD3.2.2.1.1.trans z))]; exact hD3, fun a _ => rfl⟩ | exact ⟨by rw [show ml4 f t (p, w) c d = ml3 f t (p, w) c from my_b (fun z => by rw [← hTk z]; exact c_77)]; exact hD3, fun a _ => rfl⟩ | exact ⟨by rw [show ml4 f t (p, w) c d = ((ml3 f t (p, w) c).1, rfW (ml3 f t (p, w) c).2 2) from my_c htk2 (fun z => by rw [← hTk z]; exact c_77)]; exact h_109.1, h_109.2.2⟩) _ _ hX hS ls (lv_sub hl [0, 1, 2, 3] rfl)
        · have hw1 : (ml1 f t (p, w) c).2 ≠ 0 := fun z => c_13 (hD1.2.2.2.1.trans z)
          rw [← hQ]
          refine x_vret hx hb hr hX hS hlocks dX2_readMill_50 ?_
          have e9 := mlS_fz1 (d := d) hw1
          rw [e9]
          exact ⟨hD1, fun a a1 _ => (h_36.2 a a1).trans (hoz a a1), ⟨c, hc8, hc1⟩, fun z => absurd z hw1⟩
    refine lv_iload_n hx hb dX2_readMill_15 rfl (lv_at hl 0 rfl) ?_
    refine x_ifeq (tgt := 33) hx hb dX2_readMill_16 (by decide) (fun c_81 => ?_) (fun c_81 => ?_)
    · exact K_6 (x) (by first | exact ⟨by rw [mz_y (by rw [rfl, c_81]; rfl)]; exact h_30.1, h_30.2.2⟩ | exact ⟨by rw [mz_n (s := (p, w)) (by rw [c_81]; rfl)]; exact hRD, fun a _ => rfl⟩ | exact ⟨by rw [mz_n (s := (p, w)) (by rw [c_81, Bool.and_false])]; exact hRD, fun a _ => rfl⟩) _ _ hX hS ls (lv_sub hl [0, 1, 2] rfl)
    · refine lv_aload_n hx hb dX2_readMill_19 rfl (lv_at hl 1 rfl) ?_
      refine va_ldcS hx hb hown (hE.2.2.1 1 _ _ rfl) dX2_readMill_20 ?_
      refine x_ip (w := (wX G B tt)) (x := x) (v := bI (nmB f t p 1)) (va_runV (As := [.ref (tt (100 + 1))]) (rest := []) ⟨hx, hb, hml, hown, hts⟩ (c_X2_isName (l := l) (G := G) (B := B) (tt := tt) (hW := hW) (x := x) (sq := 1) (f := f) (t := t) (p := p) (w := w) (hRD := hRD) (ht400 := ht400) (hpt := hpt) (hq7 := (by omega))) (cwV 1 hts gX2_readMill_X2_isName rfl rfl rfl (by decide +kernel) ⟨Nat.le_of_ble_eq_true rfl, Nat.le_of_ble_eq_true rfl⟩) (x_pv (w := (wX G B tt)) (a := 2) hW hX hK hE hS [.ref (tt (100 + 1))] (Nat.le_of_ble_eq_true rfl) (shX_rd (G := G) (B := B)) rfl) rfl rfl hl.1 rfl (lv_room (Nat.le_of_ble_eq_true rfl)) dX2_readMill_22 ⟨Nat.zero_le _, Nat.zero_le _⟩) hS (fun H_82 lo_83 hX hS => ?_)
      refine x_ifeq (tgt := 33) hx hb dX2_readMill_25 (by decide) (fun c_84 => ?_) (fun c_84 => ?_)
      · exact K_6 (x) (by first | exact ⟨by rw [mz_y (by rw [c_81, c_84]; rfl)]; exact h_30.1, h_30.2.2⟩ | exact ⟨by rw [mz_n (s := (p, w)) (by rw [c_84]; rfl)]; exact hRD, fun a _ => rfl⟩ | exact ⟨by rw [mz_n (s := (p, w)) (by rw [c_84, Bool.and_false])]; exact hRD, fun a _ => rfl⟩) _ _ hX hS ls (lv_sub hl [0, 1, 2] rfl)
      · refine lv_aload_n hx hb dX2_readMill_28 rfl (lv_at hl 1 rfl) ?_
        refine lv_iconst (v := 3) hx hb dX2_readMill_29 (by decide) ?_
        refine x_vf (w := (wX G B tt)) (va_runV (As := [.int (3)]) (rest := []) ⟨hx, hb, hml, hown, hts⟩ (c_X2_refuse (l := l) (G := G) (B := B) (tt := tt) (hW := hW) (x := x) (k := 3) (f := f) (t := t) (p := p) (w := w) (hRD := hRD) (hk0 := (by decide))) (cwV 1 hts gX2_readMill_X2_refuse rfl rfl rfl (by decide +kernel) ⟨Nat.le_of_ble_eq_true rfl, Nat.le_of_ble_eq_true rfl⟩) (x_pv (w := (wX G B tt)) (a := 2) hW hX hK hE hS [.int (3)] (Nat.le_of_ble_eq_true rfl) (shX_rd (G := G) (B := B)) rfl) rfl rfl hl.1 rfl (lv_room (Nat.le_of_ble_eq_true rfl)) dX2_readMill_30 ⟨Nat.zero_le _, Nat.zero_le _⟩) hS (fun x_87 H_85 lo_86 h_30 hX hS => ?_)
        try dsimp only at h_30
        exact K_6 (x_87) (by first | exact ⟨by rw [mz_y (by rw [c_81, c_84]; rfl)]; exact h_30.1, h_30.2.2⟩ | exact ⟨by rw [mz_n (s := (p, w)) (by rw [c_84]; rfl)]; exact hRD, fun a _ => rfl⟩ | exact ⟨by rw [mz_n (s := (p, w)) (by rw [c_84, Bool.and_false])]; exact hRD, fun a _ => rfl⟩) _ _ hX hS ls (lv_sub hl [0, 1, 2] rfl)
  refine lv_icmp_lt (tgt := 13) hx hb dX2_readMill_6 (by decide) (fun c_1 => ?_) (fun c_1 => ?_)
  · refine lv_iconst (v := 0) hx hb dX2_readMill_13 (by decide) ?_
    exact kJ_3 (false) (by rw [if_pos c_1]) _ _ hX hS ls (lv_sub hl [0, 1] rfl)
  · refine lv_iconst (v := 1) hx hb dX2_readMill_9 (by decide) ?_
    refine lv_goto (tgt := 14) hx hb dX2_readMill_10 (by decide) ?_
    exact kJ_3 (true) (by rw [if_neg c_1]) _ _ hX hS ls (lv_sub hl [0, 1] rfl)
