theorem kX1_bestSet_21 : (.fieldLink RX1 21 "WindTaken$Quarter" "ridge" "LWindTaken$Ridge;" : Cond) ∈ wsX1_bestSet := by decide +kernel
theorem iX1_bestSet_X1 : ∀ w ∈ wsX10, w ∈ wsX1_bestSet := by decide +kernel
theorem kX1_bestSet_58 : (.fieldLink RX1 58 "WindTaken$Ridge" "count" "I" : Cond) ∈ wsX1_bestSet := by decide +kernel
theorem iX1_bestSet_X3 : ∀ w ∈ wsX30, w ∈ wsX1_bestSet := by decide +kernel
abbrev rmX1_bestSet : Room := { frames := 5, cells := 0, slots := 0, locals := 111 }
set_option maxHeartbeats 4000000 in
set_option maxRecDepth 100000 in
theorem c_X1_bestSet (l : Launch) (G : GG) (B : Nat) (tt : Nat → Nat) (hW : WOK (wX G B tt)) (x : Mem) {q : Nat} (hq : q < 4) {n : Nat} {nw : Nat → Int32} {w : Int32} (hRq : RQ n x q nw) (hSV : SV n nw x q hNo) (hBL : BL nw x q w) : Met l yX1_bestSet wsX1_bestSet rmX1_bestSet (XP G (wX G B tt) [.ref (B + (65 + 13 * q))] x) (va_Qi (fun r u => r = (nI (sBest nw n q w)) ∧ u = x) (XB G (wX G B tt)) (blkA B (B + 117))) 0 0 (blkA B (B + 117)) := by
  refine Met.ofW (cc := cX1_bestSet) (maxL := 6) (ret := (some .int)) (by decide) rfl ?_
  intro pp ee ss mm aa bb mt cd s1 Bd hml hv
  obtain ⟨hae, hX, hK, hE⟩ := hv
  have hx := Bd.exec
  have hb := Bd.bytes
  have hr := Bd.returns
  have hts := atoms_spec (ws := wsX1_bestSet) Bd.pre
  have hown : ss.vm.findClass RX1 = some mm.cls := findClass_of_methodNamed Bd.named
  have hlocks := Bd.notSynchronized
  have hS : va_S (blkA B (B + 117)) ss.heap ss.heap [] := va_S.rf
  have hl := lv_entry ([.ref (B + (65 + 13 * q))]) (n := 6) (Nat.le_of_ble_eq_true rfl)
  subst hae
  rw [lg_entry_eq]
  generalize (lg_sl ([.ref (B + (65 + 13 * q))]) ++ List.replicate (6 - (lg_sl ([.ref (B + (65 + 13 * q))])).length) Slot.unset).toArray = ls at hl ⊢
  have hl : lv_has ls 6 [(0, .ref (B + (65 + 13 * q)))] := hl
  generalize ([.ref (B + (65 + 13 * q))] : List Value).toArray = aa at hts ⊢
  show W pp l ee rmX1_bestSet ss mm aa bb mt cd ss.heap [] 0 0 _ (F0 mm 0 ls [])
  generalize hQ : MQ bb (va_Qi (fun r u => r = (nI (sBest nw n q w)) ∧ u = x) (XB G (wX G B tt)) (blkA B (B + 117))) aa ss 0 0 (blkA B (B + 117)) = Q
  have hn8 := hRq.1
  have hp8 := pow8 hn8
  have hsh : (1 : Int32) <<< ((x (65 + 13 * q + 3) 1) &&& 31) = nI (2 ^ n) := by rw [hRq.cnt]; exact shln n hn8
  have hp0 : 0 < 2 ^ n := Nat.pow_pos (by decide)
  refine lv_iconst (v := 0) hx hb dX1_bestSet_0 (by decide) ?_
  refine lv_istore_n (lv' := [(1, .int (0)), (0, .ref (B + (65 + 13 * q)))]) hx hb dX1_bestSet_1 rfl hl (by decide) rfl (fun ls hl => ?_)
  refine lv_aload_n hx hb dX1_bestSet_2 rfl (lv_at hl 1 rfl) ?_
  refine lv_iconst (v := 0) hx hb dX1_bestSet_3 (by decide) ?_
  refine x_ip (w := (wX G B tt)) (x := x) (v := sumN (fun m => sGr nw n m q w 0 hNo) n) (va_runV (As := [.int (0)]) (rest := []) ⟨hx, hb, hml, hown, hts⟩ (c_X1_madeBy (l := l) (G := G) (B := B) (tt := tt) (hW := hW) (x := x) (q := q) (hq := hq) (s := 0) (n := n) (nw := nw) (h := hNo) (w := w) (hRq := hRq) (hSV := hSV) (hBL := hBL)) (cwV 1 hts gX1_bestSet_X1_madeBy rfl rfl rfl (by decide +kernel) ⟨Nat.le_of_ble_eq_true rfl, Nat.le_of_ble_eq_true rfl⟩) (x_pv (w := (wX G B tt)) (a := 65 + 13 * q) hW hX hK hE hS [.int (0)] (qu_lt hq) (shX_qu (G := G) (B := B) hq) rfl) rfl rfl hl.1 rfl (lv_room (Nat.le_of_ble_eq_true rfl)) dX1_bestSet_4 ⟨Nat.zero_le _, Nat.zero_le _⟩) hS (fun H_1 lo_2 hX hS => ?_)
  refine lv_istore_n (lv' := [(2, .int (sumN (fun m => sGr nw n m q w 0 hNo) n)), (1, .int (0)), (0, .ref (B + (65 + 13 * q)))]) hx hb dX1_bestSet_7 rfl hl (by decide) rfl (fun ls hl => ?_)
  refine lv_iconst (v := 1) hx hb dX1_bestSet_8 (by decide) ?_
  refine lv_istore_n (lv' := [(3, .int (1)), (2, .int (sumN (fun m => sGr nw n m q w 0 hNo) n)), (1, .int (0)), (0, .ref (B + (65 + 13 * q)))]) hx hb dX1_bestSet_9 rfl hl (by decide) rfl (fun ls hl => ?_)
  have L_3 : ∀ (n9 : Nat) (s : Nat) (bs : Nat) (ms : Int32)  (_ : n9 = 2 ^ n - s) (_ : 1 ≤ s ∧ s ≤ 2 ^ n ∧ bestP (fun s => sMade nw n q w s) (s - 1) = (bs, ms) ∧ bs < 256) (H_4 : Heap) (lo_5 : List Loc) (_ : MR G (wX G B tt) x H_4) (_ : va_S (blkA B (B + 117)) ss.heap H_4 lo_5) (ls : Array Slot) (_ : lv_has ls 6 [(3, .int (nI s)), (2, .int (ms)), (1, .int (nI bs)), (0, .ref (B + (65 + 13 * q)))]), W pp l ee rmX1_bestSet ss mm aa bb mt cd H_4 lo_5 0 0 Q (F0 mm 10 ls []) := by
    intro n9
    induction n9 using Nat.strongRecOn with
    | _ n9 ih => 
      have ih_10 := ih
      intro s bs ms hn9 hI H_4 lo_5 hX hS ls hl
      obtain ⟨hs1, hs2, hbp, hbs⟩ := hI
      refine lv_iload_n hx hb dX1_bestSet_10 rfl (lv_at hl 0 rfl) ?_
      refine lv_iconst (v := 1) hx hb dX1_bestSet_11 (by decide) ?_
      refine lv_aload_n hx hb dX1_bestSet_12 rfl (lv_at hl 3 rfl) ?_
      refine x_get (w := (wX G B tt)) (a := 65 + 13 * q) (v := .ref (B + (65 + 13 * q + 3))) hx hb hts iX1_bestSet_X1 hown hK hX (qu_lt hq) (shX_qu (G := G) (B := B) hq) rfl 2 (by decide) (hts _ kX1_bestSet_21) (fun _ h9 => h9) rfl dX1_bestSet_13 ?_
      refine x_get (w := (wX G B tt)) (a := 65 + 13 * q + 3) (v := .int (x (65 + 13 * q + 3) 1)) hx hb hts iX1_bestSet_X3 hown hK hX (rg_lt (rgQ hq)) (shX_ri (G := G) (B := B) (rgQ hq)) rfl 1 (by decide) (hts _ kX1_bestSet_58) (fun _ h9 => h9) rfl dX1_bestSet_16 ?_
      refine lv_ishl hx hb dX1_bestSet_19 ?_
      refine lv_icmp_ge (tgt := 76) hx hb dX1_bestSet_20 (by decide) (fun c_6 => ?_) (fun c_6 => ?_)
      · have nc_6 := (n_le (a := 2 ^ n) (b := s) hsh rfl (by omega) (by omega)).mp c_6
        refine lv_iload_n hx hb dX1_bestSet_76 rfl (lv_at hl 2 rfl) ?_
        rw [← hQ]
        refine x_iret (v := nI bs) hx hb hr hX hS hlocks dX1_bestSet_77 ?_
        have e9 : s = 2 ^ n := by omega
        subst e9
        exact ⟨by unfold sBest; rw [hbp], rfl⟩
      · have nc_6 := Nat.not_le.mp (fun q => c_6 ((n_le (a := 2 ^ n) (b := s) hsh rfl (by omega) (by omega)).mpr q))
        refine lv_aload_n hx hb dX1_bestSet_23 rfl (lv_at hl 3 rfl) ?_
        refine lv_iload_n hx hb dX1_bestSet_24 rfl (lv_at hl 0 rfl) ?_
        refine x_ip (w := (wX G B tt)) (x := x) (v := sumN (fun m => sGr nw n m q w s hNo) n) (va_runV (As := [.int (nI s)]) (rest := []) ⟨hx, hb, hml, hown, hts⟩ (c_X1_madeBy (l := l) (G := G) (B := B) (tt := tt) (hW := hW) (x := x) (q := q) (hq := hq) (s := s) (n := n) (nw := nw) (h := hNo) (w := w) (hRq := hRq) (hSV := hSV) (hBL := hBL)) (cwV 1 hts gX1_bestSet_X1_madeBy rfl rfl rfl (by decide +kernel) ⟨Nat.le_of_ble_eq_true rfl, Nat.le_of_ble_eq_true rfl⟩) (x_pv (w := (wX G B tt)) (a := 65 + 13 * q) hW hX hK hE hS [.int (nI s)] (qu_lt hq) (shX_qu (G := G) (B := B) hq) rfl) rfl rfl hl.1 rfl (lv_room (Nat.le_of_ble_eq_true rfl)) dX1_bestSet_25 ⟨Nat.zero_le _, Nat.zero_le _⟩) hS (fun H_7 lo_8 hX hS => ?_)
        refine lv_istore (lv' := [(4, .int (sumN (fun m => sGr nw n m q w s hNo) n)), (3, .int (nI s)), (2, .int (ms)), (1, .int (nI bs)), (0, .ref (B + (65 + 13 * q)))]) hx hb dX1_bestSet_28 hl (by decide) rfl (fun ls hl => ?_)
        refine lv_iload_n hx hb dX1_bestSet_30 rfl (lv_at hl 1 rfl) ?_
        refine x_ip (w := (wX G B tt)) (x := x) (v := bcI (nI s)) (va_runS (As := [.int (nI s)]) (rest := []) ⟨hx, hb, hml, hown, hts⟩ (c_J6_bitCount_0f7a4 (l := l) (G := G) (B := B) (tt := tt) (hW := hW) (x := x) (v := nI s)) (va_cwS 1 hts gX1_bestSet_J6_bitCount_0f7a4 rfl rfl rfl (by decide +kernel) ⟨Nat.le_of_ble_eq_true rfl, Nat.le_of_ble_eq_true rfl⟩) (x_ps (w := (wX G B tt)) hW hX hK hE hS [.int (nI s)]) rfl rfl hl.1 rfl (lv_room (Nat.le_of_ble_eq_true rfl)) dX1_bestSet_31 ⟨Nat.zero_le _, Nat.zero_le _⟩) hS (fun H_9 lo_10 hX hS => ?_)
        refine lv_iload_n hx hb dX1_bestSet_34 rfl (lv_at hl 3 rfl) ?_
        refine x_ip (w := (wX G B tt)) (x := x) (v := bcI (nI bs)) (va_runS (As := [.int (nI bs)]) (rest := [.int (bcI (nI s))]) ⟨hx, hb, hml, hown, hts⟩ (c_J6_bitCount_0f7a4 (l := l) (G := G) (B := B) (tt := tt) (hW := hW) (x := x) (v := nI bs)) (va_cwS 1 hts gX1_bestSet_J6_bitCount_0f7a4 rfl rfl rfl (by decide +kernel) ⟨Nat.le_of_ble_eq_true rfl, Nat.le_of_ble_eq_true rfl⟩) (x_ps (w := (wX G B tt)) hW hX hK hE hS [.int (nI bs)]) rfl rfl hl.1 rfl (lv_room (Nat.le_of_ble_eq_true rfl)) dX1_bestSet_35 ⟨Nat.zero_le _, Nat.zero_le _⟩) hS (fun H_11 lo_12 hX hS => ?_)
        have kJ_15 : ∀ (v_14 : Bool) (_ : v_14 = (if (bcI (nI bs)) ≤ (bcI (nI s)) then false else true)) (H_16 : Heap) (lo_17 : List Loc) (_ : MR G (wX G B tt) x H_16) (_ : va_S (blkA B (B + 117)) ss.heap H_16 lo_17) (ls : Array Slot) (_ : lv_has ls 6 [(4, .int (sumN (fun m => sGr nw n m q w s hNo) n)), (3, .int (nI s)), (2, .int (ms)), (1, .int (nI bs)), (0, .ref (B + (65 + 13 * q)))]), W pp l ee rmX1_bestSet ss mm aa bb mt cd H_16 lo_17 0 0 Q (F0 mm 46 ls [.int (bI (v_14))]) := by
          intro v_14 ev_14 H_16 lo_17 hX hS ls hl
          refine lv_istore (lv' := [(5, .int (bI (v_14))), (4, .int (sumN (fun m => sGr nw n m q w s hNo) n)), (3, .int (nI s)), (2, .int (ms)), (1, .int (nI bs)), (0, .ref (B + (65 + 13 * q)))]) hx hb dX1_bestSet_46 hl (by decide) rfl (fun ls hl => ?_)
          refine lv_iload hx hb dX1_bestSet_48 (lv_at hl 1 rfl) ?_
          refine lv_iload_n hx hb dX1_bestSet_50 rfl (lv_at hl 3 rfl) ?_
          have kJ_21 : ∀ (v_19 : Int32) (_ : v_19 = (if ms < (sumN (fun m => sGr nw n m q w s hNo) n) then nI s else (if (sumN (fun m => sGr nw n m q w s hNo) n) = ms then (if v_14 = false then nI bs else nI s) else nI bs))) (v_20 : Int32) (_ : v_20 = (if ms < (sumN (fun m => sGr nw n m q w s hNo) n) then (sumN (fun m => sGr nw n m q w s hNo) n) else (if (sumN (fun m => sGr nw n m q w s hNo) n) = ms then (if v_14 = false then ms else (sumN (fun m => sGr nw n m q w s hNo) n)) else ms))) (H_22 : Heap) (lo_23 : List Loc) (_ : MR G (wX G B tt) x H_22) (_ : va_S (blkA B (B + 117)) ss.heap H_22 lo_23) (ls : Array Slot) (_ : lv_has ls 6 [(1, .int (v_19)), (2, .int (v_20)), (5, .int (bI (v_14))), (4, .int (sumN (fun m => sGr nw n m q w s hNo) n)), (3, .int (nI s)), (0, .ref (B + (65 + 13 * q)))]), W pp l ee rmX1_bestSet ss mm aa bb mt cd H_22 lo_23 0 0 Q (F0 mm 70 ls []) := by
            intro v_19 ev_19 v_20 ev_20 H_22 lo_23 hX hS ls hl
            have hst : bestP (fun s => sMade nw n q w s) s = (if ms < sMade nw n q w s ∨ (sMade nw n q w s = ms ∧ cntN s.testBit 8 < cntN bs.testBit 8) then (s, sMade nw n q w s) else (bs, ms)) := by
              obtain ⟨s0, rfl⟩ : ∃ s0, s = s0 + 1 := ⟨s - 1, by omega⟩
              rw [Nat.add_sub_cancel] at hbp
              rw [bestP, hbp]
            have hc1 := cntN_le s.testBit 8
            have hc2 := cntN_le bs.testBit 8
            have hfw : v_14 = decide (cntN s.testBit 8 < cntN bs.testBit 8) := by
              rw [ev_14]
              by_cases h9 : cntN s.testBit 8 < cntN bs.testBit 8
              · rw [if_neg (by rw [bc_all s (by omega), bc_all bs hbs]; exact Int32.not_le.mpr (nI_lt h9 (by omega))), decide_eq_true h9]
              · rw [if_pos (by rw [bc_all s (by omega), bc_all bs hbs]; exact nI_le (by omega) (by omega)), decide_eq_false h9]
            have hb1 : v_19 = nI (bestP (fun s => sMade nw n q w s) s).1 := by
              rw [ev_19, hst, hfw]
              exact best_e1
            have hb2 : v_20 = (bestP (fun s => sMade nw n q w s) s).2 := by
              rw [ev_20, hst, hfw]
              exact best_e2
            subst hb1
            refine lv_iinc (v := nI (s + 1)) (lv' := [(3, .int (nI (s + 1))), (1, .int (nI (bestP (fun s => sMade nw n q w s) s).1)), (2, .int (v_20)), (5, .int (bI (v_14))), (4, .int (sumN (fun m => sGr nw n m q w s hNo) n)), (0, .ref (B + (65 + 13 * q)))]) hx hb dX1_bestSet_70 hl (k := 4) rfl (inc_nI _) (by decide) rfl (fun ls hl => ?_)
            refine lv_goto (tgt := 10) hx hb dX1_bestSet_73 (by decide) ?_
            exact ih_10 _ (by omega) (s + 1) ((bestP (fun s => sMade nw n q w s) s).1) (v_20) rfl ⟨by omega, by omega, by rw [Nat.add_sub_cancel, hb2], Nat.lt_of_le_of_lt (bestP_le _ s) (by omega)⟩ _ _ hX hS ls (lv_sub hl [0, 2, 1, 5] rfl)
          refine lv_icmp_gt (tgt := 65) hx hb dX1_bestSet_51 (by decide) (fun c_18 => ?_) (fun c_18 => ?_)
          · refine lv_iload hx hb dX1_bestSet_65 (lv_at hl 1 rfl) ?_
            refine lv_istore_n (lv' := [(2, .int (sumN (fun m => sGr nw n m q w s hNo) n)), (5, .int (bI (v_14))), (4, .int (sumN (fun m => sGr nw n m q w s hNo) n)), (3, .int (nI s)), (1, .int (nI bs)), (0, .ref (B + (65 + 13 * q)))]) hx hb dX1_bestSet_67 rfl hl (by decide) rfl (fun ls hl => ?_)
            refine lv_iload_n hx hb dX1_bestSet_68 rfl (lv_at hl 3 rfl) ?_
            refine lv_istore_n (lv' := [(1, .int (nI s)), (2, .int (sumN (fun m => sGr nw n m q w s hNo) n)), (5, .int (bI (v_14))), (4, .int (sumN (fun m => sGr nw n m q w s hNo) n)), (3, .int (nI s)), (0, .ref (B + (65 + 13 * q)))]) hx hb dX1_bestSet_69 rfl hl (by decide) rfl (fun ls hl => ?_)
            exact kJ_21 (nI s) (by rw [if_pos c_18]) (sumN (fun m => sGr nw n m q w s hNo) n) (by rw [if_pos c_18]) _ _ hX hS ls (lv_sub hl [0, 1, 2, 3, 4, 5] rfl)
          · refine lv_iload hx hb dX1_bestSet_54 (lv_at hl 1 rfl) ?_
            refine lv_iload_n hx hb dX1_bestSet_56 rfl (lv_at hl 3 rfl) ?_
            refine lv_icmp_ne (tgt := 70) hx hb dX1_bestSet_57 (by decide) (fun c_24 => ?_) (fun c_24 => ?_)
            · exact kJ_21 (nI bs) (by rw [if_neg c_18, if_neg c_24]) (ms) (by rw [if_neg c_18, if_neg c_24]) _ _ hX hS ls (lv_sub hl [4, 3, 0, 1, 2, 5] rfl)
            · refine lv_iload hx hb dX1_bestSet_60 (lv_at hl 0 rfl) ?_
              refine x_ifeq (tgt := 70) hx hb dX1_bestSet_62 (by decide) (fun c_25 => ?_) (fun c_25 => ?_)
              · exact kJ_21 (nI bs) (by rw [if_neg c_18, if_pos c_24, if_pos c_25]) (ms) (by rw [if_neg c_18, if_pos c_24, if_pos c_25]) _ _ hX hS ls (lv_sub hl [4, 3, 0, 1, 2, 5] rfl)
              · refine lv_iload hx hb dX1_bestSet_65 (lv_at hl 1 rfl) ?_
                refine lv_istore_n (lv' := [(2, .int (sumN (fun m => sGr nw n m q w s hNo) n)), (5, .int (bI (v_14))), (4, .int (sumN (fun m => sGr nw n m q w s hNo) n)), (3, .int (nI s)), (1, .int (nI bs)), (0, .ref (B + (65 + 13 * q)))]) hx hb dX1_bestSet_67 rfl hl (by decide) rfl (fun ls hl => ?_)
                refine lv_iload_n hx hb dX1_bestSet_68 rfl (lv_at hl 3 rfl) ?_
                refine lv_istore_n (lv' := [(1, .int (nI s)), (2, .int (sumN (fun m => sGr nw n m q w s hNo) n)), (5, .int (bI (v_14))), (4, .int (sumN (fun m => sGr nw n m q w s hNo) n)), (3, .int (nI s)), (0, .ref (B + (65 + 13 * q)))]) hx hb dX1_bestSet_69 rfl hl (by decide) rfl (fun ls hl => ?_)
                exact kJ_21 (nI s) (by rw [if_neg c_18, if_pos c_24, if_neg (ne_of_true c_25)]) (sumN (fun m => sGr nw n m q w s hNo) n) (by rw [if_neg c_18, if_pos c_24, if_neg (ne_of_true c_25)]) _ _ hX hS ls (lv_sub hl [0, 1, 2, 3, 4, 5] rfl)
        refine lv_icmp_ge (tgt := 45) hx hb dX1_bestSet_38 (by decide) (fun c_13 => ?_) (fun c_13 => ?_)
        · refine lv_iconst (v := 0) hx hb dX1_bestSet_45 (by decide) ?_
          exact kJ_15 (false) (by rw [if_pos c_13]) _ _ hX hS ls (lv_sub hl [0, 1, 2, 3, 4] rfl)
        · refine lv_iconst (v := 1) hx hb dX1_bestSet_41 (by decide) ?_
          refine lv_goto (tgt := 46) hx hb dX1_bestSet_42 (by decide) ?_
          exact kJ_15 (true) (by rw [if_neg c_13]) _ _ hX hS ls (lv_sub hl [0, 1, 2, 3, 4] rfl)
  exact L_3 _ (1) (0) (sumN (fun m => sGr nw n m q w 0 hNo) n) rfl ⟨Nat.le_refl 1, hp0, rfl, by decide⟩ _ _ hX hS ls (lv_sub hl [0, 1, 2, 3] rfl)
