def PT_X7_higher (x : Mem) (q : Int32) (w : Int32) (ml : Int32) (wh : Int32) (n : Nat) (nw : Nat → Int32) (r : Int32) (u : Mem) : Prop := (if ((decide (0 ≤ q) && decide (q ≤ 3)) && (decide (0 ≤ w) && decide (w ≤ 100))) = false then (r = (-1000001) ∧ u = x) else (if (decide (0 ≤ ml) && decide (ml < x 5 1)) = false then (r = (-1000001) ∧ u = x) else (if (decide (((0 : Int32)) ≤ wh) && decide (wh ≤ ((2 : Int32)))) = true then (if wh = 2 then (r = sMade nw n (tn q) w (2 ^ tn ml) - (sMade nw n (tn q) w 0 - sGr nw n (tn ml) (tn q) w 0 hNo) ∧ offQ (tn q) x u) else (if wh = 0 then (r = sGr nw n (tn ml) (tn q) w 0 (sUp nw ml) - sGr nw n (tn ml) (tn q) w 0 hNo ∧ offQ (tn q) x u) else (r = (sMade nw n (tn q) w 0 - sGr nw n (tn ml) (tn q) w 0 hNo) - (sumN (fun k => sGr nw n k (tn q) w 0 (sUp nw ml)) n - sGr nw n (tn ml) (tn q) w 0 (sUp nw ml)) ∧ offQ (tn q) x u))) else (r = (-1000001) ∧ u = x))))
theorem kX7_higher_59 : (.constant RX7 59 (-1000001) : Cond) ∈ wsX7_higher := by decide +kernel
theorem kX7_higher_25 : (.fieldLink RX7 25 "WindTaken" "ridge" "LWindTaken$Ridge;" : Cond) ∈ wsX7_higher := by decide +kernel
theorem iX7_higher_X7 : ∀ w ∈ wsX70, w ∈ wsX7_higher := by decide +kernel
abbrev rmX7_higher : Room := { frames := 5, cells := 0, slots := 0, locals := 117 }
set_option maxHeartbeats 4000000 in
set_option maxRecDepth 100000 in
theorem c_X7_higher (l : Launch) (G : GG) (B : Nat) (tt : Nat → Nat) (hW : WOK (wX G B tt)) (x : Mem) (q : Int32) (w : Int32) (ml : Int32) (wh : Int32) {n : Nat} {nw : Nat → Int32} (hR : RR n x 5 nw) (hfl : ∀ j, j < n → sF nw j 0 ≤ 9) : Met l yX7_higher wsX7_higher rmX7_higher (XP G (wX G B tt) [.ref (B + (0)), .int (q), .int (w), .int (ml), .int (wh)] x) (va_Qi (fun r u => PT_X7_higher x q w ml wh n nw r u) (XB G (wX G B tt)) (blkA B (B + 117))) 0 0 (blkA B (B + 117)) := by
  refine Met.ofW (cc := cX7_higher) (maxL := 10) (ret := (some .int)) (by decide) rfl ?_
  intro pp ee ss mm aa bb mt cd s1 Bd hml hv
  obtain ⟨hae, hX, hK, hE⟩ := hv
  have hx := Bd.exec
  have hb := Bd.bytes
  have hr := Bd.returns
  have hts := atoms_spec (ws := wsX7_higher) Bd.pre
  have hown : ss.vm.findClass RX7 = some mm.cls := findClass_of_methodNamed Bd.named
  have hlocks := Bd.notSynchronized
  have hS : va_S (blkA B (B + 117)) ss.heap ss.heap [] := va_S.rf
  have hl := lv_entry ([.ref (B + (0)), .int (q), .int (w), .int (ml), .int (wh)]) (n := 10) (Nat.le_of_ble_eq_true rfl)
  subst hae
  rw [lg_entry_eq]
  generalize (lg_sl ([.ref (B + (0)), .int (q), .int (w), .int (ml), .int (wh)]) ++ List.replicate (10 - (lg_sl ([.ref (B + (0)), .int (q), .int (w), .int (ml), .int (wh)])).length) Slot.unset).toArray = ls at hl ⊢
  have hl : lv_has ls 10 [(0, .ref (B + (0))), (1, .int (q)), (2, .int (w)), (3, .int (ml)), (4, .int (wh))] := hl
  generalize ([.ref (B + (0)), .int (q), .int (w), .int (ml), .int (wh)] : List Value).toArray = aa at hts ⊢
  show W pp l ee rmX7_higher ss mm aa bb mt cd ss.heap [] 0 0 _ (F0 mm 0 ls [])
  generalize hQ : MQ bb (va_Qi (fun r u => PT_X7_higher x q w ml wh n nw r u) (XB G (wX G B tt)) (blkA B (B + 117))) aa ss 0 0 (blkA B (B + 117)) = Q
  have hn8 := hR.1
  refine lv_iload_n hx hb dX7_higher_0 rfl (lv_at hl 1 rfl) ?_
  refine lv_iload_n hx hb dX7_higher_1 rfl (lv_at hl 2 rfl) ?_
  refine x_ip (w := (wX G B tt)) (x := x) (v := bI ((decide (0 ≤ q) && decide (q ≤ 3)) && (decide (0 ≤ w) && decide (w ≤ 100)))) (va_runS (As := [.int (q), .int (w)]) (rest := []) ⟨hx, hb, hml, hown, hts⟩ (c_X7_isWind (l := l) (G := G) (B := B) (tt := tt) (hW := hW) (x := x) (q := q) (v := w)) (va_cwS 2 hts gX7_higher_X7_isWind rfl rfl rfl (by decide +kernel) ⟨Nat.le_of_ble_eq_true rfl, Nat.le_of_ble_eq_true rfl⟩) (x_ps (w := (wX G B tt)) hW hX hK hE hS [.int (q), .int (w)]) rfl rfl hl.1 rfl (lv_room (Nat.le_of_ble_eq_true rfl)) dX7_higher_2 ⟨Nat.zero_le _, Nat.zero_le _⟩) hS (fun H_1 lo_2 hX hS => ?_)
  refine x_ifeq (tgt := 29) hx hb dX7_higher_5 (by decide) (fun c_3 => ?_) (fun c_3 => ?_)
  · refine lv_ldc (v := (-1000001)) hx hb hown (hts _ kX7_higher_59) dX7_higher_29 ?_
    rw [← hQ]
    refine x_iret (v := (-1000001)) hx hb hr hX hS hlocks dX7_higher_31 ?_
    show PT_X7_higher _ _ _ _ _ _ _ _ _
    unfold PT_X7_higher
    rw [if_pos c_3]
    exact ⟨rfl, rfl⟩
  · obtain ⟨hqe, hq4⟩ := windQ c_3
    refine lv_aload_n hx hb dX7_higher_8 rfl (lv_at hl 0 rfl) ?_
    refine x_get (w := (wX G B tt)) (a := 0) (v := .ref (B + (5))) hx hb hts iX7_higher_X7 hown hK hX (Nat.le_of_ble_eq_true rfl) (shX_mn (G := G) (B := B)) rfl 2 (by decide) (hts _ kX7_higher_25) (fun _ h9 => h9) rfl dX7_higher_9 ?_
    refine lv_iload_n hx hb dX7_higher_12 rfl (lv_at hl 3 rfl) ?_
    refine x_ip (w := (wX G B tt)) (x := x) (v := bI (decide (0 ≤ ml) && decide (ml < x 5 1))) (va_runV (As := [.int (ml)]) (rest := []) ⟨hx, hb, hml, hown, hts⟩ (c_X3_has (l := l) (G := G) (B := B) (tt := tt) (hW := hW) (x := x) (ρ := 5) (hρ := rg5) (v := ml)) (cwV 1 hts gX7_higher_X3_has rfl rfl rfl (by decide +kernel) ⟨Nat.le_of_ble_eq_true rfl, Nat.le_of_ble_eq_true rfl⟩) (x_pv (w := (wX G B tt)) (a := 5) hW hX hK hE hS [.int (ml)] (rg_lt rg5) (shX_ri (G := G) (B := B) rg5) rfl) rfl rfl hl.1 rfl (lv_room (Nat.le_of_ble_eq_true rfl)) dX7_higher_13 ⟨Nat.zero_le _, Nat.zero_le _⟩) hS (fun H_4 lo_5 hX hS => ?_)
    refine x_ifeq (tgt := 29) hx hb dX7_higher_16 (by decide) (fun c_6 => ?_) (fun c_6 => ?_)
    · refine lv_ldc (v := (-1000001)) hx hb hown (hts _ kX7_higher_59) dX7_higher_29 ?_
      rw [← hQ]
      refine x_iret (v := (-1000001)) hx hb hr hX hS hlocks dX7_higher_31 ?_
      show PT_X7_higher _ _ _ _ _ _ _ _ _
      unfold PT_X7_higher
      rw [if_neg (ne_of_true c_3), if_pos c_6]
      exact ⟨rfl, rfl⟩
    · obtain ⟨hmle, hmln⟩ := hasM hR.cnt hn8 c_6
      have hsml := shla hmle (show tn ml < 8 by omega)
      refine lv_iload hx hb dX7_higher_19 (lv_at hl 4 rfl) ?_
      refine lv_iconst (v := 0) hx hb dX7_higher_21 (by decide) ?_
      refine lv_iconst (v := 2) hx hb dX7_higher_22 (by decide) ?_
      refine x_ip (w := (wX G B tt)) (x := x) (v := bI (decide (((0 : Int32)) ≤ wh) && decide (wh ≤ ((2 : Int32))))) (va_runS (As := [.int (wh), .int (0), .int (2)]) (rest := []) ⟨hx, hb, hml, hown, hts⟩ (c_X7_isWithin (l := l) (G := G) (B := B) (tt := tt) (hW := hW) (x := x) (v := wh) (lo := 0) (hi := 2)) (va_cwS 3 hts gX7_higher_X7_isWithin rfl rfl rfl (by decide +kernel) ⟨Nat.le_of_ble_eq_true rfl, Nat.le_of_ble_eq_true rfl⟩) (x_ps (w := (wX G B tt)) hW hX hK hE hS [.int (wh), .int (0), .int (2)]) rfl rfl hl.1 rfl (lv_room (Nat.le_of_ble_eq_true rfl)) dX7_higher_23 ⟨Nat.zero_le _, Nat.zero_le _⟩) hS (fun H_7 lo_8 hX hS => ?_)
      refine x_ifne (tgt := 32) hx hb dX7_higher_26 (by decide) (fun c_9 => ?_) (fun c_9 => ?_)
      · refine lv_aload_n hx hb dX7_higher_32 rfl (lv_at hl 0 rfl) ?_
        refine lv_iload_n hx hb dX7_higher_33 rfl (lv_at hl 1 rfl) ?_
        refine lv_iload_n hx hb dX7_higher_34 rfl (lv_at hl 2 rfl) ?_
        refine W.eq (g2 := F0 mm 35 ls [.int (w), .int (nI (tn q)), .ref (B + (0))]) (congrArg (fun z9 : Int32 => F0 mm 35 ls [.int (w), .int (z9), .ref (B + (0))]) hqe) ?_
        refine x_rf (w := (wX G B tt)) (va_runV (As := [.int (nI (tn q)), .int (w)]) (rest := []) ⟨hx, hb, hml, hown, hts⟩ (c_X7_windOf (l := l) (G := G) (B := B) (tt := tt) (hW := hW) (x := x) (q := tn q) (w := w) (n := n) (nw := nw) (hR := hR) (hq := (by omega))) (cwV 2 hts gX7_higher_X7_windOf rfl rfl rfl (by decide +kernel) ⟨Nat.le_of_ble_eq_true rfl, Nat.le_of_ble_eq_true rfl⟩) (x_pv (w := (wX G B tt)) (a := 0) hW hX hK hE hS [.int (nI (tn q)), .int (w)] (Nat.le_of_ble_eq_true rfl) (shX_mn (G := G) (B := B)) rfl) rfl rfl hl.1 rfl (lv_room (Nat.le_of_ble_eq_true rfl)) dX7_higher_35 ⟨Nat.zero_le _, Nat.zero_le _⟩) hS (fun x_12 H_10 lo_11 h_35 hX hS => ?_)
        try dsimp only at h_35
        obtain ⟨hof, hSV, hBL, hRq⟩ := h_35
        have hR1 := hR.off rc5 hof
        refine lv_astore (lv' := [(5, .ref (B + (65 + 13 * (tn q)))), (0, .ref (B + (0))), (1, .int (q)), (2, .int (w)), (3, .int (ml)), (4, .int (wh))]) hx hb dX7_higher_38 hl (by decide) rfl (fun ls hl => ?_)
        refine lv_aload hx hb dX7_higher_40 (lv_at hl 0 rfl) ?_
        refine lv_iload_n hx hb dX7_higher_42 rfl (lv_at hl 4 rfl) ?_
        refine lv_iconst (v := 0) hx hb dX7_higher_43 (by decide) ?_
        refine W.eq (g2 := F0 mm 44 ls [.int (0), .int (nI (tn ml)), .ref (B + (65 + 13 * (tn q)))]) (congrArg (fun z9 : Int32 => F0 mm 44 ls [.int (0), .int (z9), .ref (B + (65 + 13 * (tn q)))]) hmle) ?_
        refine x_ip (w := (wX G B tt)) (x := x_12) (v := sGr nw n (tn ml) (tn q) w 0 hNo) (va_runV (As := [.int (nI (tn ml)), .int (0)]) (rest := []) ⟨hx, hb, hml, hown, hts⟩ (c_X1_grindsBy (l := l) (G := G) (B := B) (tt := tt) (hW := hW) (x := x_12) (q := tn q) (hq := (by omega)) (m := tn ml) (s := 0) (n := n) (nw := nw) (h := hNo) (w := w) (hRq := hRq) (hSV := hSV) (hBL := hBL) (hm := (by omega))) (cwV 2 hts gX7_higher_X1_grindsBy rfl rfl rfl (by decide +kernel) ⟨Nat.le_of_ble_eq_true rfl, Nat.le_of_ble_eq_true rfl⟩) (x_pv (w := (wX G B tt)) (a := 65 + 13 * (tn q)) hW hX hK hE hS [.int (nI (tn ml)), .int (0)] (qu_lt (by omega)) (shX_qu (G := G) (B := B) (by omega)) rfl) rfl rfl hl.1 rfl (lv_room (Nat.le_of_ble_eq_true rfl)) dX7_higher_44 ⟨Nat.zero_le _, Nat.zero_le _⟩) hS (fun H_13 lo_14 hX hS => ?_)
        refine lv_istore (lv' := [(6, .int (sGr nw n (tn ml) (tn q) w 0 hNo)), (5, .ref (B + (65 + 13 * (tn q)))), (0, .ref (B + (0))), (1, .int (q)), (2, .int (w)), (3, .int (ml)), (4, .int (wh))]) hx hb dX7_higher_47 hl (by decide) rfl (fun ls hl => ?_)
        refine lv_aload hx hb dX7_higher_49 (lv_at hl 1 rfl) ?_
        refine lv_iconst (v := 0) hx hb dX7_higher_51 (by decide) ?_
        refine x_ip (w := (wX G B tt)) (x := x_12) (v := sumN (fun m => sGr nw n m (tn q) w 0 hNo) n) (va_runV (As := [.int (0)]) (rest := []) ⟨hx, hb, hml, hown, hts⟩ (c_X1_madeBy (l := l) (G := G) (B := B) (tt := tt) (hW := hW) (x := x_12) (q := tn q) (hq := (by omega)) (s := 0) (n := n) (nw := nw) (h := hNo) (w := w) (hRq := hRq) (hSV := hSV) (hBL := hBL)) (cwV 1 hts gX7_higher_X1_madeBy rfl rfl rfl (by decide +kernel) ⟨Nat.le_of_ble_eq_true rfl, Nat.le_of_ble_eq_true rfl⟩) (x_pv (w := (wX G B tt)) (a := 65 + 13 * (tn q)) hW hX hK hE hS [.int (0)] (qu_lt (by omega)) (shX_qu (G := G) (B := B) (by omega)) rfl) rfl rfl hl.1 rfl (lv_room (Nat.le_of_ble_eq_true rfl)) dX7_higher_52 ⟨Nat.zero_le _, Nat.zero_le _⟩) hS (fun H_15 lo_16 hX hS => ?_)
        refine lv_iload hx hb dX7_higher_55 (lv_at hl 0 rfl) ?_
        refine lv_isub hx hb dX7_higher_57 ?_
        refine lv_istore (lv' := [(7, .int ((sumN (fun m => sGr nw n m (tn q) w 0 hNo) n) - (sGr nw n (tn ml) (tn q) w 0 hNo))), (6, .int (sGr nw n (tn ml) (tn q) w 0 hNo)), (5, .ref (B + (65 + 13 * (tn q)))), (0, .ref (B + (0))), (1, .int (q)), (2, .int (w)), (3, .int (ml)), (4, .int (wh))]) hx hb dX7_higher_58 hl (by decide) rfl (fun ls hl => ?_)
        refine lv_iload hx hb dX7_higher_60 (lv_at hl 7 rfl) ?_
        refine lv_iconst (v := 2) hx hb dX7_higher_62 (by decide) ?_
        refine lv_icmp_ne (tgt := 78) hx hb dX7_higher_63 (by decide) (fun c_17 => ?_) (fun c_17 => ?_)
        · refine lv_aload hx hb dX7_higher_78 (lv_at hl 2 rfl) ?_
          refine lv_aload_n hx hb dX7_higher_80 rfl (lv_at hl 3 rfl) ?_
          refine x_get (w := (wX G B tt)) (a := 0) (v := .ref (B + (5))) hx hb hts iX7_higher_X7 hown hK hX (Nat.le_of_ble_eq_true rfl) (shX_mn (G := G) (B := B)) rfl 2 (by decide) (hts _ kX7_higher_25) (fun _ h9 => h9) rfl dX7_higher_81 ?_
          refine lv_iload_n hx hb dX7_higher_84 rfl (lv_at hl 4 rfl) ?_
          refine lv_iload_n hx hb dX7_higher_85 rfl (lv_at hl 6 rfl) ?_
          refine W.eq (g2 := F0 mm 86 ls [.int (ml), .int (nI (tn q)), .ref (B + (5)), .ref (B + (65 + 13 * (tn q)))]) (congrArg (fun z9 : Int32 => F0 mm 86 ls [.int (ml), .int (z9), .ref (B + (5)), .ref (B + (65 + 13 * (tn q)))]) hqe) ?_
          refine x_vf (w := (wX G B tt)) (va_runV (As := [.ref (B + (5)), .int (nI (tn q)), .int (ml)]) (rest := []) ⟨hx, hb, hml, hown, hts⟩ (c_X1_survey (l := l) (G := G) (B := B) (tt := tt) (hW := hW) (x := x_12) (q := tn q) (hq := (by omega)) (rz := ml) (n := n) (nw := nw) (h := (sUp nw ml)) (hR := hR1) (hh := (hh_up hn8 hfl))) (cwV 3 hts gX7_higher_X1_survey rfl rfl rfl (by decide +kernel) ⟨Nat.le_of_ble_eq_true rfl, Nat.le_of_ble_eq_true rfl⟩) (x_pv (w := (wX G B tt)) (a := 65 + 13 * (tn q)) hW hX hK hE hS [.ref (B + (5)), .int (nI (tn q)), .int (ml)] (qu_lt (by omega)) (shX_qu (G := G) (B := B) (by omega)) rfl) rfl rfl hl.1 rfl (lv_room (Nat.le_of_ble_eq_true rfl)) dX7_higher_86 ⟨Nat.zero_le _, Nat.zero_le _⟩) hS (fun x_20 H_18 lo_19 h_86 hX hS => ?_)
          try dsimp only at h_86
          obtain ⟨hoS, hSVS, hRqS, hzS⟩ := h_86
          have hR2 := hR1.off rc5 hoS
          have hBL2 : BL nw x_20 (tn q) w := fun k hk => by rw [hzS]; exact hBL k hk
          refine lv_aload hx hb dX7_higher_89 (lv_at hl 2 rfl) ?_
          refine lv_iload_n hx hb dX7_higher_91 rfl (lv_at hl 6 rfl) ?_
          refine lv_iconst (v := 0) hx hb dX7_higher_92 (by decide) ?_
          refine W.eq (g2 := F0 mm 93 ls [.int (0), .int (nI (tn ml)), .ref (B + (65 + 13 * (tn q)))]) (congrArg (fun z9 : Int32 => F0 mm 93 ls [.int (0), .int (z9), .ref (B + (65 + 13 * (tn q)))]) hmle) ?_
          refine x_ip (w := (wX G B tt)) (x := x_20) (v := sGr nw n (tn ml) (tn q) w 0 ((sUp nw ml))) (va_runV (As := [.int (nI (tn ml)), .int (0)]) (rest := []) ⟨hx, hb, hml, hown, hts⟩ (c_X1_grindsBy (l := l) (G := G) (B := B) (tt := tt) (hW := hW) (x := x_20) (q := tn q) (hq := (by omega)) (m := tn ml) (s := 0) (n := n) (nw := nw) (h := (sUp nw ml)) (w := w) (hRq := hRqS) (hSV := hSVS) (hBL := hBL2) (hm := (by omega))) (cwV 2 hts gX7_higher_X1_grindsBy rfl rfl rfl (by decide +kernel) ⟨Nat.le_of_ble_eq_true rfl, Nat.le_of_ble_eq_true rfl⟩) (x_pv (w := (wX G B tt)) (a := 65 + 13 * (tn q)) hW hX hK hE hS [.int (nI (tn ml)), .int (0)] (qu_lt (by omega)) (shX_qu (G := G) (B := B) (by omega)) rfl) rfl rfl hl.1 rfl (lv_room (Nat.le_of_ble_eq_true rfl)) dX7_higher_93 ⟨Nat.zero_le _, Nat.zero_le _⟩) hS (fun H_21 lo_22 hX hS => ?_)
          refine lv_istore (lv' := [(8, .int (sGr nw n (tn ml) (tn q) w 0 ((sUp nw ml)))), (7, .int ((sumN (fun m => sGr nw n m (tn q) w 0 hNo) n) - (sGr nw n (tn ml) (tn q) w 0 hNo))), (6, .int (sGr nw n (tn ml) (tn q) w 0 hNo)), (5, .ref (B + (65 + 13 * (tn q)))), (0, .ref (B + (0))), (1, .int (q)), (2, .int (w)), (3, .int (ml)), (4, .int (wh))]) hx hb dX7_higher_96 hl (by decide) rfl (fun ls hl => ?_)
          refine lv_aload hx hb dX7_higher_98 (lv_at hl 3 rfl) ?_
          refine lv_iconst (v := 0) hx hb dX7_higher_100 (by decide) ?_
          refine x_ip (w := (wX G B tt)) (x := x_20) (v := sumN (fun m => sGr nw n m (tn q) w 0 ((sUp nw ml))) n) (va_runV (As := [.int (0)]) (rest := []) ⟨hx, hb, hml, hown, hts⟩ (c_X1_madeBy (l := l) (G := G) (B := B) (tt := tt) (hW := hW) (x := x_20) (q := tn q) (hq := (by omega)) (s := 0) (n := n) (nw := nw) (h := (sUp nw ml)) (w := w) (hRq := hRqS) (hSV := hSVS) (hBL := hBL2)) (cwV 1 hts gX7_higher_X1_madeBy rfl rfl rfl (by decide +kernel) ⟨Nat.le_of_ble_eq_true rfl, Nat.le_of_ble_eq_true rfl⟩) (x_pv (w := (wX G B tt)) (a := 65 + 13 * (tn q)) hW hX hK hE hS [.int (0)] (qu_lt (by omega)) (shX_qu (G := G) (B := B) (by omega)) rfl) rfl rfl hl.1 rfl (lv_room (Nat.le_of_ble_eq_true rfl)) dX7_higher_101 ⟨Nat.zero_le _, Nat.zero_le _⟩) hS (fun H_23 lo_24 hX hS => ?_)
          refine lv_iload hx hb dX7_higher_104 (lv_at hl 0 rfl) ?_
          refine lv_isub hx hb dX7_higher_106 ?_
          refine lv_istore (lv' := [(9, .int ((sumN (fun m => sGr nw n m (tn q) w 0 ((sUp nw ml))) n) - (sGr nw n (tn ml) (tn q) w 0 ((sUp nw ml))))), (8, .int (sGr nw n (tn ml) (tn q) w 0 ((sUp nw ml)))), (7, .int ((sumN (fun m => sGr nw n m (tn q) w 0 hNo) n) - (sGr nw n (tn ml) (tn q) w 0 hNo))), (6, .int (sGr nw n (tn ml) (tn q) w 0 hNo)), (5, .ref (B + (65 + 13 * (tn q)))), (0, .ref (B + (0))), (1, .int (q)), (2, .int (w)), (3, .int (ml)), (4, .int (wh))]) hx hb dX7_higher_107 hl (by decide) rfl (fun ls hl => ?_)
          refine lv_iload hx hb dX7_higher_109 (lv_at hl 9 rfl) ?_
          refine lv_if_ne (tgt := 122) hx hb dX7_higher_111 (by decide) (fun c_25 => ?_) (fun c_25 => ?_)
          · refine lv_iload hx hb dX7_higher_122 (lv_at hl 2 rfl) ?_
            refine lv_iload hx hb dX7_higher_124 (lv_at hl 0 rfl) ?_
            refine lv_isub hx hb dX7_higher_126 ?_
            rw [← hQ]
            refine x_iret (v := ((sumN (fun m => sGr nw n m (tn q) w 0 hNo) n) - (sGr nw n (tn ml) (tn q) w 0 hNo)) - ((sumN (fun m => sGr nw n m (tn q) w 0 ((sUp nw ml))) n) - (sGr nw n (tn ml) (tn q) w 0 ((sUp nw ml))))) hx hb hr hX hS hlocks dX7_higher_127 ?_
            show PT_X7_higher _ _ _ _ _ _ _ _ _
            unfold PT_X7_higher
            rw [if_neg (ne_of_true c_3), if_neg (ne_of_true c_6), if_pos c_9, if_neg c_17, if_neg c_25]
            exact ⟨rfl, offQ.tr hof hoS⟩
          · refine lv_iload hx hb dX7_higher_114 (lv_at hl 1 rfl) ?_
            refine lv_iload hx hb dX7_higher_116 (lv_at hl 3 rfl) ?_
            refine lv_isub hx hb dX7_higher_118 ?_
            refine lv_goto (tgt := 127) hx hb dX7_higher_119 (by decide) ?_
            rw [← hQ]
            refine x_iret (v := (sGr nw n (tn ml) (tn q) w 0 ((sUp nw ml))) - (sGr nw n (tn ml) (tn q) w 0 hNo)) hx hb hr hX hS hlocks dX7_higher_127 ?_
            show PT_X7_higher _ _ _ _ _ _ _ _ _
            unfold PT_X7_higher
            rw [if_neg (ne_of_true c_3), if_neg (ne_of_true c_6), if_pos c_9, if_neg c_17, if_pos c_25]
            exact ⟨rfl, offQ.tr hof hoS⟩
        · refine lv_aload hx hb dX7_higher_66 (lv_at hl 2 rfl) ?_
          refine lv_iconst (v := 1) hx hb dX7_higher_68 (by decide) ?_
          refine lv_iload_n hx hb dX7_higher_69 rfl (lv_at hl 6 rfl) ?_
          refine lv_ishl hx hb dX7_higher_70 ?_
          refine W.eq (g2 := F0 mm 71 ls [.int (nI (2 ^ tn ml)), .ref (B + (65 + 13 * (tn q)))]) (congrArg (fun z9 : Int32 => F0 mm 71 ls [.int (z9), .ref (B + (65 + 13 * (tn q)))]) hsml) ?_
          refine x_ip (w := (wX G B tt)) (x := x_12) (v := sumN (fun m => sGr nw n m (tn q) w (2 ^ tn ml) hNo) n) (va_runV (As := [.int (nI (2 ^ tn ml))]) (rest := []) ⟨hx, hb, hml, hown, hts⟩ (c_X1_madeBy (l := l) (G := G) (B := B) (tt := tt) (hW := hW) (x := x_12) (q := tn q) (hq := (by omega)) (s := 2 ^ tn ml) (n := n) (nw := nw) (h := hNo) (w := w) (hRq := hRq) (hSV := hSV) (hBL := hBL)) (cwV 1 hts gX7_higher_X1_madeBy rfl rfl rfl (by decide +kernel) ⟨Nat.le_of_ble_eq_true rfl, Nat.le_of_ble_eq_true rfl⟩) (x_pv (w := (wX G B tt)) (a := 65 + 13 * (tn q)) hW hX hK hE hS [.int (nI (2 ^ tn ml))] (qu_lt (by omega)) (shX_qu (G := G) (B := B) (by omega)) rfl) rfl rfl hl.1 rfl (lv_room (Nat.le_of_ble_eq_true rfl)) dX7_higher_71 ⟨Nat.zero_le _, Nat.zero_le _⟩) hS (fun H_26 lo_27 hX hS => ?_)
          refine lv_iload hx hb dX7_higher_74 (lv_at hl 0 rfl) ?_
          refine lv_isub hx hb dX7_higher_76 ?_
          rw [← hQ]
          refine x_iret (v := (sumN (fun m => sGr nw n m (tn q) w (2 ^ tn ml) hNo) n) - ((sumN (fun m => sGr nw n m (tn q) w 0 hNo) n) - (sGr nw n (tn ml) (tn q) w 0 hNo))) hx hb hr hX hS hlocks dX7_higher_77 ?_
          show PT_X7_higher _ _ _ _ _ _ _ _ _
          unfold PT_X7_higher
          rw [if_neg (ne_of_true c_3), if_neg (ne_of_true c_6), if_pos c_9, if_pos c_17]
          exact ⟨rfl, hof⟩
      · refine lv_ldc (v := (-1000001)) hx hb hown (hts _ kX7_higher_59) dX7_higher_29 ?_
        rw [← hQ]
        refine x_iret (v := (-1000001)) hx hb hr hX hS hlocks dX7_higher_31 ?_
        show PT_X7_higher _ _ _ _ _ _ _ _ _
        unfold PT_X7_higher
        rw [if_neg (ne_of_true c_3), if_neg (ne_of_true c_6), if_neg (ne_of_false c_9)]
        exact ⟨rfl, rfl⟩
