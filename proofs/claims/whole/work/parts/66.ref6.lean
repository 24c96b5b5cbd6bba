def PT_X8_left (x : Mem) (m : Int32) (q : Int32) (w : Int32) (wh : Int32) (n : Nat) (r : Int32) (u : Mem) : Prop := (if (decide (0 ≤ m) && decide (m < nI n)) = false then (r = (-1000001) ∧ u = x) else (if ((decide (0 ≤ q) && decide (q ≤ 3)) && (decide (0 ≤ w) && decide (w ≤ 100))) = false then (r = (-1000001) ∧ u = x) else (if (decide (((0 : Int32)) ≤ ((wh : Int32))) && decide (((wh : Int32)) ≤ ((1 : Int32)))) = true then (if wh = 0 then (r = sLeft (x 5) n (tn m) (tn q) w 0 hNo ∧ u = x) else (r = nI (maskN (fun o => sBehind (x 5) (tn m) o (tn q) hNo) n) ∧ u = x)) else (r = (-1000001) ∧ u = x))))
theorem kX8_left_63 : (.constant RX8 63 (-1000001) : Cond) ∈ wsX8_left := by decide +kernel
theorem kX8_left_22 : (.fieldLink RX8 22 "WindTakenModel" "now" "[I" : Cond) ∈ wsX8_left := by decide +kernel
theorem iX8_left_X8 : ∀ w ∈ wsX80, w ∈ wsX8_left := by decide +kernel
theorem kX8_left_215 : (.constant RX8 215 (-1000000) : Cond) ∈ wsX8_left := by decide +kernel
abbrev rmX8_left : Room := { frames := 4, cells := 0, slots := 0, locals := 96 }
set_option maxHeartbeats 4000000 in
set_option maxRecDepth 100000 in
theorem c_X8_left (l : Launch) (G : GG) (B : Nat) (hW : WOK (wM G B)) (x : Mem) (m : Int32) (q : Int32) (w : Int32) (wh : Int32) {n : Nat} (hN : x 5 0 = nI n) (hn8 : n ≤ 8) : Met l yX8_left wsX8_left rmX8_left (XP G (wM G B) [.ref (B + (0)), .int (m), .int (q), .int (w), .int (wh)] x) (va_Qi (fun r u => PT_X8_left x m q w wh n r u) (XB G (wM G B)) (blkA B (B + 13))) 0 0 (blkA B (B + 13)) := by
  refine Met.ofW (cc := cX8_left) (maxL := 7) (ret := (some .int)) (by decide) rfl ?_
  intro pp ee ss mm aa bb mt cd s1 Bd hml hv
  obtain ⟨hae, hX, hK, hE⟩ := hv
  have hx := Bd.exec
  have hb := Bd.bytes
  have hr := Bd.returns
  have hts := atoms_spec (ws := wsX8_left) Bd.pre
  have hown : ss.vm.findClass RX8 = some mm.cls := findClass_of_methodNamed Bd.named
  have hlocks := Bd.notSynchronized
  have hS : va_S (blkA B (B + 13)) ss.heap ss.heap [] := va_S.rf
  have hl := lv_entry ([.ref (B + (0)), .int (m), .int (q), .int (w), .int (wh)]) (n := 7) (Nat.le_of_ble_eq_true rfl)
  subst hae
  rw [lg_entry_eq]
  generalize (lg_sl ([.ref (B + (0)), .int (m), .int (q), .int (w), .int (wh)]) ++ List.replicate (7 - (lg_sl ([.ref (B + (0)), .int (m), .int (q), .int (w), .int (wh)])).length) Slot.unset).toArray = ls at hl ⊢
  have hl : lv_has ls 7 [(0, .ref (B + (0))), (1, .int (m)), (2, .int (q)), (3, .int (w)), (4, .int (wh))] := hl
  generalize ([.ref (B + (0)), .int (m), .int (q), .int (w), .int (wh)] : List Value).toArray = aa at hts ⊢
  show W pp l ee rmX8_left ss mm aa bb mt cd ss.heap [] 0 0 _ (F0 mm 0 ls [])
  generalize hQ : MQ bb (va_Qi (fun r u => PT_X8_left x m q w wh n r u) (XB G (wM G B)) (blkA B (B + 13))) aa ss 0 0 (blkA B (B + 13)) = Q
  refine lv_aload_n hx hb dX8_left_0 rfl (lv_at hl 0 rfl) ?_
  refine lv_iload_n hx hb dX8_left_1 rfl (lv_at hl 1 rfl) ?_
  refine x_ip (w := (wM G B)) (x := x) (v := bI (decide (0 ≤ m) && decide (m < nI n))) (va_runV (As := [.int (m)]) (rest := []) ⟨hx, hb, hml, hown, hts⟩ (c_X8_isMill (l := l) (G := G) (B := B) (hW := hW) (x := x) (v := m) (n := n) (hN := hN) (hn8 := hn8)) (cwV 1 hts gX8_left_X8_isMill rfl rfl rfl (by decide +kernel) ⟨Nat.le_of_ble_eq_true rfl, Nat.le_of_ble_eq_true rfl⟩) (x_pv (w := (wM G B)) (a := 0) hW hX hK hE hS [.int (m)] (Nat.le_of_ble_eq_true rfl) (shM_0 (G := G) (B := B)) rfl) rfl rfl hl.1 rfl (lv_room (Nat.le_of_ble_eq_true rfl)) dX8_left_2 ⟨Nat.zero_le _, Nat.zero_le _⟩) hS (fun H_1 lo_2 hX hS => ?_)
  refine x_ifeq (tgt := 27) hx hb dX8_left_5 (by decide) (fun c_3 => ?_) (fun c_3 => ?_)
  · refine lv_ldc (v := (-1000001)) hx hb hown (hts _ kX8_left_63) dX8_left_27 ?_
    rw [← hQ]
    refine x_iret (v := (-1000001)) hx hb hr hX hS hlocks dX8_left_29 ?_
    show PT_X8_left _ _ _ _ _ _ _ _
    unfold PT_X8_left
    rw [if_pos c_3]
    exact ⟨rfl, rfl⟩
  · obtain ⟨hme, hmn⟩ := hasM (c := nI n) rfl hn8 c_3
    refine lv_iload_n hx hb dX8_left_8 rfl (lv_at hl 2 rfl) ?_
    refine lv_iload_n hx hb dX8_left_9 rfl (lv_at hl 3 rfl) ?_
    refine x_ip (w := (wM G B)) (x := x) (v := bI ((decide (0 ≤ q) && decide (q ≤ 3)) && (decide (0 ≤ w) && decide (w ≤ 100)))) (va_runS (As := [.int (q), .int (w)]) (rest := []) ⟨hx, hb, hml, hown, hts⟩ (c_X8_isWind (l := l) (G := G) (B := B) (hW := hW) (x := x) (q := q) (v := w)) (va_cwS 2 hts gX8_left_X8_isWind rfl rfl rfl (by decide +kernel) ⟨Nat.le_of_ble_eq_true rfl, Nat.le_of_ble_eq_true rfl⟩) (x_ps (w := (wM G B)) hW hX hK hE hS [.int (q), .int (w)]) rfl rfl hl.1 rfl (lv_room (Nat.le_of_ble_eq_true rfl)) dX8_left_10 ⟨Nat.zero_le _, Nat.zero_le _⟩) hS (fun H_4 lo_5 hX hS => ?_)
    refine x_ifeq (tgt := 27) hx hb dX8_left_13 (by decide) (fun c_6 => ?_) (fun c_6 => ?_)
    · refine lv_ldc (v := (-1000001)) hx hb hown (hts _ kX8_left_63) dX8_left_27 ?_
      rw [← hQ]
      refine x_iret (v := (-1000001)) hx hb hr hX hS hlocks dX8_left_29 ?_
      show PT_X8_left _ _ _ _ _ _ _ _
      unfold PT_X8_left
      rw [if_neg (ne_of_true c_3), if_pos c_6]
      exact ⟨rfl, rfl⟩
    · obtain ⟨hqe, hq4⟩ := windQ c_6
      refine lv_iload hx hb dX8_left_16 (lv_at hl 4 rfl) ?_
      refine lv_i2l (v := (wh : Int32).toInt64) hx hb dX8_left_18 rfl ?_
      refine lv_lconst (v := 0) hx hb dX8_left_19 (by decide) ?_
      refine lv_lconst (v := 1) hx hb dX8_left_20 (by decide) ?_
      refine x_ip (w := (wM G B)) (x := x) (v := bI (decide (((0 : Int32)) ≤ ((wh : Int32))) && decide (((wh : Int32)) ≤ ((1 : Int32))))) (va_runS (As := [.long ((wh : Int32).toInt64), .long (0), .long (1)]) (rest := []) ⟨hx, hb, hml, hown, hts⟩ (c_X8_in (l := l) (G := G) (B := B) (hW := hW) (x := x) (va := (wh : Int32).toInt64) (vb := 0) (vc := 1) (v1 := (wh : Int32)) (lo1 := (0 : Int32)) (hi1 := (1 : Int32)) (hv := (by first | rfl | decide)) (hlo := (by first | rfl | decide)) (hhi := (by first | rfl | decide))) (va_cwS 3 hts gX8_left_X8_in rfl rfl rfl (by decide +kernel) ⟨Nat.le_of_ble_eq_true rfl, Nat.le_of_ble_eq_true rfl⟩) (x_ps (w := (wM G B)) hW hX hK hE hS [.long ((wh : Int32).toInt64), .long (0), .long (1)]) rfl rfl hl.1 rfl (lv_room (Nat.le_of_ble_eq_true rfl)) dX8_left_21 ⟨Nat.zero_le _, Nat.zero_le _⟩) hS (fun H_7 lo_8 hX hS => ?_)
      refine x_ifne (tgt := 30) hx hb dX8_left_24 (by decide) (fun c_9 => ?_) (fun c_9 => ?_)
      · refine lv_iload hx hb dX8_left_30 (lv_at hl 4 rfl) ?_
        refine lv_if_ne (tgt := 46) hx hb dX8_left_32 (by decide) (fun c_10 => ?_) (fun c_10 => ?_)
        · refine lv_iconst (v := 0) hx hb dX8_left_46 (by decide) ?_
          refine lv_istore (lv' := [(5, .int (0)), (0, .ref (B + (0))), (1, .int (m)), (2, .int (q)), (3, .int (w)), (4, .int (wh))]) hx hb dX8_left_47 hl (by decide) rfl (fun ls hl => ?_)
          refine lv_iconst (v := 0) hx hb dX8_left_49 (by decide) ?_
          refine lv_istore (lv' := [(6, .int (0)), (5, .int (0)), (0, .ref (B + (0))), (1, .int (m)), (2, .int (q)), (3, .int (w)), (4, .int (wh))]) hx hb dX8_left_50 hl (by decide) rfl (fun ls hl => ?_)
          have L_11 : ∀ (n9 : Nat) (i : Nat) (st : Int32)  (_ : n9 = n - i) (_ : i ≤ n ∧ st = nI (maskN (fun o => sBehind (x 5) (tn m) o (tn q) hNo) i)) (H_12 : Heap) (lo_13 : List Loc) (_ : MR G (wM G B) x H_12) (_ : va_S (blkA B (B + 13)) ss.heap H_12 lo_13) (ls : Array Slot) (_ : lv_has ls 7 [(6, .int (nI i)), (5, .int (st)), (0, .ref (B + (0))), (1, .int (m)), (2, .int (q)), (3, .int (w)), (4, .int (wh))]), W pp l ee rmX8_left ss mm aa bb mt cd H_12 lo_13 0 0 Q (F0 mm 52 ls []) := by
            intro n9
            induction n9 using Nat.strongRecOn with
            | _ n9 ih => 
              have ih_52 := ih
              intro i st hn9 hI H_12 lo_13 hX hS ls hl
              obtain ⟨hi, hst⟩ := hI
              refine lv_iload hx hb dX8_left_52 (lv_at hl 0 rfl) ?_
              refine lv_aload_n hx hb dX8_left_54 rfl (lv_at hl 2 rfl) ?_
              refine x_get (w := (wM G B)) (a := 0) (v := .ref (B + (5))) hx hb hts iX8_left_X8 hown hK hX (Nat.le_of_ble_eq_true rfl) (shM_0 (G := G) (B := B)) rfl 7 (by decide) (hts _ kX8_left_22) (fun _ h9 => h9) rfl dX8_left_55 ?_
              refine lv_iconst (v := 0) hx hb dX8_left_58 (by decide) ?_
              refine x_iald (w := (wM G B)) (a := 5) (n := 93) (j := 0) hx hb hK hX (Nat.le_of_ble_eq_true rfl) (shM_a (G := G) (B := B) (a := 5) (f := x (5)) (by decide)) rfl (by decide) (by decide) dX8_left_59 ?_
              refine lv_icmp_ge (tgt := 95) hx hb dX8_left_60 (by decide) (fun c_14 => ?_) (fun c_14 => ?_)
              · have nc_14 := (n_le (a := n) (b := i) hN rfl (by omega) (by omega)).mp c_14
                refine lv_iload hx hb dX8_left_95 (lv_at hl 1 rfl) ?_
                rw [← hQ]
                refine x_iret (v := st) hx hb hr hX hS hlocks dX8_left_97 ?_
                show PT_X8_left _ _ _ _ _ _ _ _
                unfold PT_X8_left
                rw [if_neg (ne_of_true c_3), if_neg (ne_of_true c_6), if_pos c_9, if_neg c_10]
                have e9 : i = n := by omega
                exact ⟨by rw [hst, e9], rfl⟩
              · have nc_14 := Nat.not_le.mp (fun q => c_14 ((n_le (a := n) (b := i) hN rfl (by omega) (by omega)).mpr q))
                refine lv_iload hx hb dX8_left_63 (lv_at hl 1 rfl) ?_
                refine lv_aload_n hx hb dX8_left_65 rfl (lv_at hl 2 rfl) ?_
                refine lv_iload_n hx hb dX8_left_66 rfl (lv_at hl 3 rfl) ?_
                refine lv_iload hx hb dX8_left_67 (lv_at hl 0 rfl) ?_
                refine lv_iload_n hx hb dX8_left_69 rfl (lv_at hl 4 rfl) ?_
                refine lv_ldc (v := (-1000000)) hx hb hown (hts _ kX8_left_215) dX8_left_70 ?_
                refine W.eq (g2 := F0 mm 72 ls [.int ((-1000000)), .int (q), .int (nI i), .int (nI (tn m)), .ref (B + (0)), .int (st)]) (congrArg (fun z9 : Int32 => F0 mm 72 ls [.int ((-1000000)), .int (q), .int (nI i), .int (z9), .ref (B + (0)), .int (st)]) hme) ?_
                refine W.eq (g2 := F0 mm 72 ls [.int ((-1000000)), .int (nI (tn q)), .int (nI i), .int (nI (tn m)), .ref (B + (0)), .int (st)]) (congrArg (fun z9 : Int32 => F0 mm 72 ls [.int ((-1000000)), .int (z9), .int (nI i), .int (nI (tn m)), .ref (B + (0)), .int (st)]) hqe) ?_
                refine x_ip (w := (wM G B)) (x := x) (v := bI (sBehind (x 5) (tn m) i (tn q) hNo)) (va_runV (As := [.int (nI (tn m)), .int (nI i), .int (nI (tn q)), .int ((-1000000))]) (rest := [.int (st)]) ⟨hx, hb, hml, hown, hts⟩ (c_X8_isBehind (l := l) (G := G) (B := B) (hW := hW) (x := x) (ml := tn m) (o := i) (q := tn q) (h := hNo) (hml9 := (by omega)) (ho9 := (by omega)) (hq := (by omega))) (cwV 4 hts gX8_left_X8_isBehind rfl rfl rfl (by decide +kernel) ⟨Nat.le_of_ble_eq_true rfl, Nat.le_of_ble_eq_true rfl⟩) (x_pv (w := (wM G B)) (a := 0) hW hX hK hE hS [.int (nI (tn m)), .int (nI i), .int (nI (tn q)), .int ((-1000000))] (Nat.le_of_ble_eq_true rfl) (shM_0 (G := G) (B := B)) rfl) rfl rfl hl.1 rfl (lv_room (Nat.le_of_ble_eq_true rfl)) dX8_left_72 ⟨Nat.zero_le _, Nat.zero_le _⟩) hS (fun H_15 lo_16 hX hS => ?_)
                have kJ_19 : ∀ (v_18 : Int32) (_ : v_18 = (if (sBehind (x 5) (tn m) i (tn q) hNo) = false then (0 : Int32) else (1 <<< (nI i &&& 31)))) (H_20 : Heap) (lo_21 : List Loc) (_ : MR G (wM G B) x H_20) (_ : va_S (blkA B (B + 13)) ss.heap H_20 lo_21) (ls : Array Slot) (_ : lv_has ls 7 [(6, .int (nI i)), (5, .int (st)), (0, .ref (B + (0))), (1, .int (m)), (2, .int (q)), (3, .int (w)), (4, .int (wh))]), W pp l ee rmX8_left ss mm aa bb mt cd H_20 lo_21 0 0 Q (F0 mm 86 ls [.int (v_18), .int (st)]) := by
                  intro v_18 ev_18 H_20 lo_21 hX hS ls hl
                  refine lv_ior hx hb dX8_left_86 ?_
                  refine lv_istore (lv' := [(5, .int (st ||| v_18)), (6, .int (nI i)), (0, .ref (B + (0))), (1, .int (m)), (2, .int (q)), (3, .int (w)), (4, .int (wh))]) hx hb dX8_left_87 hl (by decide) rfl (fun ls hl => ?_)
                  refine lv_iinc (v := nI (i + 1)) (lv' := [(6, .int (nI (i + 1))), (5, .int (st ||| v_18)), (0, .ref (B + (0))), (1, .int (m)), (2, .int (q)), (3, .int (w)), (4, .int (wh))]) hx hb dX8_left_89 hl (k := 1) rfl (inc_nI _) (by decide) rfl (fun ls hl => ?_)
                  refine lv_goto (tgt := 52) hx hb dX8_left_92 (by decide) ?_
                  exact ih_52 _ (by omega) (i + 1) (st ||| v_18) rfl ⟨by omega, by rw [ev_18, hst]; exact mask_or2 _ (by omega)⟩ _ _ hX hS ls (lv_sub hl [0, 1, 2, 3, 4, 5, 6] rfl)
                refine x_ifeq (tgt := 85) hx hb dX8_left_75 (by decide) (fun c_17 => ?_) (fun c_17 => ?_)
                · refine lv_iconst (v := 0) hx hb dX8_left_85 (by decide) ?_
                  exact kJ_19 (0) (by rw [if_pos c_17]) _ _ hX hS ls (lv_sub hl [0, 1, 2, 3, 4, 5, 6] rfl)
                · refine lv_iconst (v := 1) hx hb dX8_left_78 (by decide) ?_
                  refine lv_iload hx hb dX8_left_79 (lv_at hl 0 rfl) ?_
                  refine lv_ishl hx hb dX8_left_81 ?_
                  refine lv_goto (tgt := 86) hx hb dX8_left_82 (by decide) ?_
                  exact kJ_19 (1 <<< (nI i &&& 31)) (by rw [if_neg (ne_of_true c_17)]) _ _ hX hS ls (lv_sub hl [0, 1, 2, 3, 4, 5, 6] rfl)
          exact L_11 _ (0) (0) rfl ⟨Nat.zero_le _, rfl⟩ _ _ hX hS ls (lv_sub hl [0, 1, 2, 3, 4, 5, 6] rfl)
        · refine lv_aload_n hx hb dX8_left_35 rfl (lv_at hl 0 rfl) ?_
          refine lv_iload_n hx hb dX8_left_36 rfl (lv_at hl 1 rfl) ?_
          refine lv_iload_n hx hb dX8_left_37 rfl (lv_at hl 2 rfl) ?_
          refine lv_iload_n hx hb dX8_left_38 rfl (lv_at hl 3 rfl) ?_
          refine lv_iconst (v := 0) hx hb dX8_left_39 (by decide) ?_
          refine lv_ldc (v := (-1000000)) hx hb hown (hts _ kX8_left_215) dX8_left_40 ?_
          refine W.eq (g2 := F0 mm 42 ls [.int ((-1000000)), .int (0), .int (w), .int (q), .int (nI (tn m)), .ref (B + (0))]) (congrArg (fun z9 : Int32 => F0 mm 42 ls [.int ((-1000000)), .int (0), .int (w), .int (q), .int (z9), .ref (B + (0))]) hme) ?_
          refine W.eq (g2 := F0 mm 42 ls [.int ((-1000000)), .int (0), .int (w), .int (nI (tn q)), .int (nI (tn m)), .ref (B + (0))]) (congrArg (fun z9 : Int32 => F0 mm 42 ls [.int ((-1000000)), .int (0), .int (w), .int (z9), .int (nI (tn m)), .ref (B + (0))]) hqe) ?_
          refine x_ip (w := (wM G B)) (x := x) (v := sLeft (x 5) n (tn m) (tn q) w 0 hNo) (va_runV (As := [.int (nI (tn m)), .int (nI (tn q)), .int (w), .int (0), .int ((-1000000))]) (rest := []) ⟨hx, hb, hml, hown, hts⟩ (c_X8_leftAt (l := l) (G := G) (B := B) (hW := hW) (x := x) (ml := tn m) (q := tn q) (w := w) (s := 0) (h := hNo) (n := n) (hN := hN) (hn8 := hn8) (hml9 := (by omega)) (hq := (by omega)) (hs := (by omega))) (cwV 5 hts gX8_left_X8_leftAt rfl rfl rfl (by decide +kernel) ⟨Nat.le_of_ble_eq_true rfl, Nat.le_of_ble_eq_true rfl⟩) (x_pv (w := (wM G B)) (a := 0) hW hX hK hE hS [.int (nI (tn m)), .int (nI (tn q)), .int (w), .int (0), .int ((-1000000))] (Nat.le_of_ble_eq_true rfl) (shM_0 (G := G) (B := B)) rfl) rfl rfl hl.1 rfl (lv_room (Nat.le_of_ble_eq_true rfl)) dX8_left_42 ⟨Nat.zero_le _, Nat.zero_le _⟩) hS (fun H_22 lo_23 hX hS => ?_)
          rw [← hQ]
          refine x_iret (v := sLeft (x 5) n (tn m) (tn q) w 0 hNo) hx hb hr hX hS hlocks dX8_left_45 ?_
          show PT_X8_left _ _ _ _ _ _ _ _
          unfold PT_X8_left
          rw [if_neg (ne_of_true c_3), if_neg (ne_of_true c_6), if_pos c_9, if_pos c_10]
          exact ⟨rfl, rfl⟩
      · refine lv_ldc (v := (-1000001)) hx hb hown (hts _ kX8_left_63) dX8_left_27 ?_
        rw [← hQ]
        refine x_iret (v := (-1000001)) hx hb hr hX hS hlocks dX8_left_29 ?_
        show PT_X8_left _ _ _ _ _ _ _ _
        unfold PT_X8_left
        rw [if_neg (ne_of_true c_3), if_neg (ne_of_true c_6), if_neg (ne_of_false c_9)]
        exact ⟨rfl, rfl⟩

theorem kX8_madeBy_22 : (.fieldLink RX8 22 "WindTakenModel" "now" "[I" : Cond) ∈ wsX8_madeBy := by decide +kernel
theorem iX8_madeBy_X8 : ∀ w ∈ wsX80, w ∈ wsX8_madeBy := by decide +kernel
theorem kX8_madeBy_215 : (.constant RX8 215 (-1000000) : Cond) ∈ wsX8_madeBy := by decide +kernel
abbrev rmX8_madeBy : Room := { frames := 6, cells := 0, slots := 0, locals := 148 }
set_option maxHeartbeats 4000000 in
set_option maxRecDepth 100000 in
theorem c_X8_madeBy (l : Launch) (G : GG) (B : Nat) (hW : WOK (wM G B)) (x : Mem) {q : Nat} (w : Int32) {s : Nat} {n : Nat} (hN : x 5 0 = nI n) (hn8 : n ≤ 8) (hq : q < 4) (hs : s < 256) : Met l yX8_madeBy wsX8_madeBy rmX8_madeBy (XP G (wM G B) [.ref (B + (0)), .int (nI q), .int (w), .int (nI s)] x) (va_Qi (fun r u => r = (sMade (x 5) n q w s) ∧ u = x) (XB G (wM G B)) (blkA B (B + 13))) 0 0 (blkA B (B + 13)) := by
  refine Met.ofW (cc := cX8_madeBy) (maxL := 6) (ret := (some .int)) (by decide) rfl ?_
  intro pp ee ss mm aa bb mt cd s1 Bd hml hv
  obtain ⟨hae, hX, hK, hE⟩ := hv
  have hx := Bd.exec
  have hb := Bd.bytes
  have hr := Bd.returns
  have hts := atoms_spec (ws := wsX8_madeBy) Bd.pre
  have hown : ss.vm.findClass RX8 = some mm.cls := findClass_of_methodNamed Bd.named
  have hlocks := Bd.notSynchronized
  have hS : va_S (blkA B (B + 13)) ss.heap ss.heap [] := va_S.rf
  have hl := lv_entry ([.ref (B + (0)), .int (nI q), .int (w), .int (nI s)]) (n := 6) (Nat.le_of_ble_eq_true rfl)
  subst hae
  rw [lg_entry_eq]
  generalize (lg_sl ([.ref (B + (0)), .int (nI q), .int (w), .int (nI s)]) ++ List.replicate (6 - (lg_sl ([.ref (B + (0)), .int (nI q), .int (w), .int (nI s)])).length) Slot.unset).toArray = ls at hl ⊢
  have hl : lv_has ls 6 [(0, .ref (B + (0))), (1, .int (nI q)), (2, .int (w)), (3, .int (nI s))] := hl
  generalize ([.ref (B + (0)), .int (nI q), .int (w), .int (nI s)] : List Value).toArray = aa at hts ⊢
  show W pp l ee rmX8_madeBy ss mm aa bb mt cd ss.heap [] 0 0 _ (F0 mm 0 ls [])
  generalize hQ : MQ bb (va_Qi (fun r u => r = (sMade (x 5) n q w s) ∧ u = x) (XB G (wM G B)) (blkA B (B + 13))) aa ss 0 0 (blkA B (B + 13)) = Q
  refine lv_iconst (v := 0) hx hb dX8_madeBy_0 (by decide) ?_
  refine lv_istore (lv' := [(4, .int (0)), (0, .ref (B + (0))), (1, .int (nI q)), (2, .int (w)), (3, .int (nI s))]) hx hb dX8_madeBy_1 hl (by decide) rfl (fun ls hl => ?_)
  refine lv_iconst (v := 0) hx hb dX8_madeBy_3 (by decide) ?_
  refine lv_istore (lv' := [(5, .int (0)), (4, .int (0)), (0, .ref (B + (0))), (1, .int (nI q)), (2, .int (w)), (3, .int (nI s))]) hx hb dX8_madeBy_4 hl (by decide) rfl (fun ls hl => ?_)
  have L_1 : ∀ (n9 : Nat) (i : Nat) (sm : Int32)  (_ : n9 = n - i) (_ : i ≤ n ∧ sm = sumN (fun m => sGr (x 5) n m q w s hNo) i) (H_2 : Heap) (lo_3 : List Loc) (_ : MR G (wM G B) x H_2) (_ : va_S (blkA B (B + 13)) ss.heap H_2 lo_3) (ls : Array Slot) (_ : lv_has ls 6 [(5, .int (nI i)), (4, .int (sm)), (0, .ref (B + (0))), (1, .int (nI q)), (2, .int (w)), (3, .int (nI s))]), W pp l ee rmX8_madeBy ss mm aa bb mt cd H_2 lo_3 0 0 Q (F0 mm 6 ls []) := by
    intro n9
    induction n9 using Nat.strongRecOn with
    | _ n9 ih => 
      have ih_6 := ih
      intro i sm hn9 hI H_2 lo_3 hX hS ls hl
      obtain ⟨hi, hsm⟩ := hI
      refine lv_iload hx hb dX8_madeBy_6 (lv_at hl 0 rfl) ?_
      refine lv_aload_n hx hb dX8_madeBy_8 rfl (lv_at hl 2 rfl) ?_
      refine x_get (w := (wM G B)) (a := 0) (v := .ref (B + (5))) hx hb hts iX8_madeBy_X8 hown hK hX (Nat.le_of_ble_eq_true rfl) (shM_0 (G := G) (B := B)) rfl 7 (by decide) (hts _ kX8_madeBy_22) (fun _ h9 => h9) rfl dX8_madeBy_9 ?_
      refine lv_iconst (v := 0) hx hb dX8_madeBy_12 (by decide) ?_
      refine x_iald (w := (wM G B)) (a := 5) (n := 93) (j := 0) hx hb hK hX (Nat.le_of_ble_eq_true rfl) (shM_a (G := G) (B := B) (a := 5) (f := x (5)) (by decide)) rfl (by decide) (by decide) dX8_madeBy_13 ?_
      refine lv_icmp_ge (tgt := 39) hx hb dX8_madeBy_14 (by decide) (fun c_4 => ?_) (fun c_4 => ?_)
      · have nc_4 := (n_le (a := n) (b := i) hN rfl (by omega) (by omega)).mp c_4
        refine lv_iload hx hb dX8_madeBy_39 (lv_at hl 1 rfl) ?_
        rw [← hQ]
        refine x_iret (v := sm) hx hb hr hX hS hlocks dX8_madeBy_41 ?_
        have e9 : i = n := by omega
        exact ⟨by rw [hsm, e9]; rfl, rfl⟩
      · have nc_4 := Nat.not_le.mp (fun q => c_4 ((n_le (a := n) (b := i) hN rfl (by omega) (by omega)).mpr q))
        refine lv_iload hx hb dX8_madeBy_17 (lv_at hl 1 rfl) ?_
        refine lv_aload_n hx hb dX8_madeBy_19 rfl (lv_at hl 2 rfl) ?_
        refine lv_iload hx hb dX8_madeBy_20 (lv_at hl 0 rfl) ?_
        refine lv_iload_n hx hb dX8_madeBy_22 rfl (lv_at hl 3 rfl) ?_
        refine lv_iload_n hx hb dX8_madeBy_23 rfl (lv_at hl 4 rfl) ?_
        refine lv_iload_n hx hb dX8_madeBy_24 rfl (lv_at hl 5 rfl) ?_
        refine lv_ldc (v := (-1000000)) hx hb hown (hts _ kX8_madeBy_215) dX8_madeBy_25 ?_
        refine x_ip (w := (wM G B)) (x := x) (v := sGr (x 5) n i q w s hNo) (va_runV (As := [.int (nI i), .int (nI q), .int (w), .int (nI s), .int ((-1000000))]) (rest := [.int (sm)]) ⟨hx, hb, hml, hown, hts⟩ (c_X8_grinds (l := l) (G := G) (B := B) (hW := hW) (x := x) (ml := i) (q := q) (w := w) (s := s) (h := hNo) (n := n) (hN := hN) (hn8 := hn8) (hml9 := (by omega)) (hq := (by omega)) (hs := (by omega))) (cwV 5 hts gX8_madeBy_X8_grinds rfl rfl rfl (by decide +kernel) ⟨Nat.le_of_ble_eq_true rfl, Nat.le_of_ble_eq_true rfl⟩) (x_pv (w := (wM G B)) (a := 0) hW hX hK hE hS [.int (nI i), .int (nI q), .int (w), .int (nI s), .int ((-1000000))] (Nat.le_of_ble_eq_true rfl) (shM_0 (G := G) (B := B)) rfl) rfl rfl hl.1 rfl (lv_room (Nat.le_of_ble_eq_true rfl)) dX8_madeBy_27 ⟨Nat.zero_le _, Nat.zero_le _⟩) hS (fun H_5 lo_6 hX hS => ?_)
        refine lv_iadd hx hb dX8_madeBy_30 ?_
        refine lv_istore (lv' := [(4, .int (sm + (sGr (x 5) n i q w s hNo))), (5, .int (nI i)), (0, .ref (B + (0))), (1, .int (nI q)), (2, .int (w)), (3, .int (nI s))]) hx hb dX8_madeBy_31 hl (by decide) rfl (fun ls hl => ?_)
        refine lv_iinc (v := nI (i + 1)) (lv' := [(5, .int (nI (i + 1))), (4, .int (sm + (sGr (x 5) n i q w s hNo))), (0, .ref (B + (0))), (1, .int (nI q)), (2, .int (w)), (3, .int (nI s))]) hx hb dX8_madeBy_33 hl (k := 1) rfl (inc_nI _) (by decide) rfl (fun ls hl => ?_)
        refine lv_goto (tgt := 6) hx hb dX8_madeBy_36 (by decide) ?_
        exact ih_6 _ (by omega) (i + 1) (sm + (sGr (x 5) n i q w s hNo)) rfl ⟨by omega, by rw [sumN, ← hsm]⟩ _ _ hX hS ls (lv_sub hl [0, 1, 2, 3, 4, 5] rfl)
  exact L_1 _ (0) (0) rfl ⟨Nat.zero_le _, rfl⟩ _ _ hX hS ls (lv_sub hl [0, 1, 2, 3, 4, 5] rfl)

def PT_X8_made (x : Mem) (q : Int32) (w : Int32) (s : Int32) (n : Nat) (r : Int32) (u : Mem) : Prop := (if (decide (x 5 0 = 0)) = false then (if ((decide (0 ≤ q) && decide (q ≤ 3)) && (decide (0 ≤ w) && decide (w ≤ 100))) = false then (r = (-1000001) ∧ u = x) else (if (decide (((0 : Int32)) ≤ ((s : Int32))) && decide (((s : Int32)) ≤ ((255 : Int32)))) = false then (r = (-1000001) ∧ u = x) else (r = sMade (x 5) n (tn q) w (tn s) ∧ u = x))) else (r = (-1000002) ∧ u = x))
theorem kX8_made_63 : (.constant RX8 63 (-1000001) : Cond) ∈ wsX8_made := by decide +kernel
theorem kX8_made_86 : (.constantLong RX8 86 (255) : Cond) ∈ wsX8_made := by decide +kernel
theorem kX8_made_185 : (.constant RX8 185 (-1000002) : Cond) ∈ wsX8_made := by decide +kernel
abbrev rmX8_made : Room := { frames := 7, cells := 0, slots := 0, locals := 173 }
set_option maxHeartbeats 4000000 in
set_option maxRecDepth 100000 in
theorem c_X8_made (l : Launch) (G : GG) (B : Nat) (hW : WOK (wM G B)) (x : Mem) (q : Int32) (w : Int32) (s : Int32) {n : Nat} (hN : x 5 0 = nI n) (hn8 : n ≤ 8) : Met l yX8_made wsX8_made rmX8_made (XP G (wM G B) [.ref (B + (0)), .int (q), .int (w), .int (s)] x) (va_Qi (fun r u => PT_X8_made x q w s n r u) (XB G (wM G B)) (blkA B (B + 13))) 0 0 (blkA B (B + 13)) := by
  refine Met.ofW (cc := cX8_made) (maxL := 4) (ret := (some .int)) (by decide) rfl ?_
  intro pp ee ss mm aa bb mt cd s1 Bd hml hv
  obtain ⟨hae, hX, hK, hE⟩ := hv
  have hx := Bd.exec
  have hb := Bd.bytes
  have hr := Bd.returns
  have hts := atoms_spec (ws := wsX8_made) Bd.pre
  have hown : ss.vm.findClass RX8 = some mm.cls := findClass_of_methodNamed Bd.named
  have hlocks := Bd.notSynchronized
  have hS : va_S (blkA B (B + 13)) ss.heap ss.heap [] := va_S.rf
  have hl := lv_entry ([.ref (B + (0)), .int (q), .int (w), .int (s)]) (n := 4) (Nat.le_of_ble_eq_true rfl)
  subst hae
  rw [lg_entry_eq]
  generalize (lg_sl ([.ref (B + (0)), .int (q), .int (w), .int (s)]) ++ List.replicate (4 - (lg_sl ([.ref (B + (0)), .int (q), .int (w), .int (s)])).length) Slot.unset).toArray = ls at hl ⊢
  have hl : lv_has ls 4 [(0, .ref (B + (0))), (1, .int (q)), (2, .int (w)), (3, .int (s))] := hl
  generalize ([.ref (B + (0)), .int (q), .int (w), .int (s)] : List Value).toArray = aa at hts ⊢
  show W pp l ee rmX8_made ss mm aa bb mt cd ss.heap [] 0 0 _ (F0 mm 0 ls [])
  generalize hQ : MQ bb (va_Qi (fun r u => PT_X8_made x q w s n r u) (XB G (wM G B)) (blkA B (B + 13))) aa ss 0 0 (blkA B (B + 13)) = Q
  refine lv_aload_n hx hb dX8_made_0 rfl (lv_at hl 0 rfl) ?_
  refine x_ip (w := (wM G B)) (x := x) (v := bI (decide (x 5 0 = 0))) (va_runV (As := []) (rest := []) ⟨hx, hb, hml, hown, hts⟩ (c_X8_isNoRidge (l := l) (G := G) (B := B) (hW := hW) (x := x) ) (cwV 0 hts gX8_made_X8_isNoRidge rfl rfl rfl (by decide +kernel) ⟨Nat.le_of_ble_eq_true rfl, Nat.le_of_ble_eq_true rfl⟩) (x_pv (w := (wM G B)) (a := 0) hW hX hK hE hS [] (Nat.le_of_ble_eq_true rfl) (shM_0 (G := G) (B := B)) rfl) rfl rfl hl.1 rfl (lv_room (Nat.le_of_ble_eq_true rfl)) dX8_made_1 ⟨Nat.zero_le _, Nat.zero_le _⟩) hS (fun H_1 lo_2 hX hS => ?_)
  refine x_ifeq (tgt := 10) hx hb dX8_made_4 (by decide) (fun c_3 => ?_) (fun c_3 => ?_)
  · refine lv_iload_n hx hb dX8_made_10 rfl (lv_at hl 1 rfl) ?_
    refine lv_iload_n hx hb dX8_made_11 rfl (lv_at hl 2 rfl) ?_
    refine x_ip (w := (wM G B)) (x := x) (v := bI ((decide (0 ≤ q) && decide (q ≤ 3)) && (decide (0 ≤ w) && decide (w ≤ 100)))) (va_runS (As := [.int (q), .int (w)]) (rest := []) ⟨hx, hb, hml, hown, hts⟩ (c_X8_isWind (l := l) (G := G) (B := B) (hW := hW) (x := x) (q := q) (v := w)) (va_cwS 2 hts gX8_made_X8_isWind rfl rfl rfl (by decide +kernel) ⟨Nat.le_of_ble_eq_true rfl, Nat.le_of_ble_eq_true rfl⟩) (x_ps (w := (wM G B)) hW hX hK hE hS [.int (q), .int (w)]) rfl rfl hl.1 rfl (lv_room (Nat.le_of_ble_eq_true rfl)) dX8_made_12 ⟨Nat.zero_le _, Nat.zero_le _⟩) hS (fun H_4 lo_5 hX hS => ?_)
    refine x_ifeq (tgt := 40) hx hb dX8_made_15 (by decide) (fun c_6 => ?_) (fun c_6 => ?_)
    · refine lv_ldc (v := (-1000001)) hx hb hown (hts _ kX8_made_63) dX8_made_40 ?_
      rw [← hQ]
      refine x_iret (v := (-1000001)) hx hb hr hX hS hlocks dX8_made_42 ?_
      show PT_X8_made _ _ _ _ _ _ _
      unfold PT_X8_made
      rw [if_pos c_3, if_pos c_6]
      exact ⟨rfl, rfl⟩
    · obtain ⟨hqe, hq4⟩ := windQ c_6
      refine lv_iload_n hx hb dX8_made_18 rfl (lv_at hl 3 rfl) ?_
      refine lv_i2l (v := (s : Int32).toInt64) hx hb dX8_made_19 rfl ?_
      refine lv_lconst (v := 0) hx hb dX8_made_20 (by decide) ?_
      refine lv_ldc2 (v := 255) hx hb hown (hts _ kX8_made_86) dX8_made_21 ?_
      refine x_ip (w := (wM G B)) (x := x) (v := bI (decide (((0 : Int32)) ≤ ((s : Int32))) && decide (((s : Int32)) ≤ ((255 : Int32))))) (va_runS (As := [.long ((s : Int32).toInt64), .long (0), .long (255)]) (rest := []) ⟨hx, hb, hml, hown, hts⟩ (c_X8_in (l := l) (G := G) (B := B) (hW := hW) (x := x) (va := (s : Int32).toInt64) (vb := 0) (vc := 255) (v1 := (s : Int32)) (lo1 := (0 : Int32)) (hi1 := (255 : Int32)) (hv := (by first | rfl | decide)) (hlo := (by first | rfl | decide)) (hhi := (by first | rfl | decide))) (va_cwS 3 hts gX8_made_X8_in rfl rfl rfl (by decide +kernel) ⟨Nat.le_of_ble_eq_true rfl, Nat.le_of_ble_eq_true rfl⟩) (x_ps (w := (wM G B)) hW hX hK hE hS [.long ((s : Int32).toInt64), .long (0), .long (255)]) rfl rfl hl.1 rfl (lv_room (Nat.le_of_ble_eq_true rfl)) dX8_made_24 ⟨Nat.zero_le _, Nat.zero_le _⟩) hS (fun H_7 lo_8 hX hS => ?_)
      refine x_ifeq (tgt := 40) hx hb dX8_made_27 (by decide) (fun c_9 => ?_) (fun c_9 => ?_)
      · refine lv_ldc (v := (-1000001)) hx hb hown (hts _ kX8_made_63) dX8_made_40 ?_
        rw [← hQ]
        refine x_iret (v := (-1000001)) hx hb hr hX hS hlocks dX8_made_42 ?_
        show PT_X8_made _ _ _ _ _ _ _
        unfold PT_X8_made
        rw [if_pos c_3, if_neg (ne_of_true c_6), if_pos c_9]
        exact ⟨rfl, rfl⟩
      · obtain ⟨hse, hs255⟩ := within_nI (k := 255) rfl (by decide) c_9
        refine lv_aload_n hx hb dX8_made_30 rfl (lv_at hl 0 rfl) ?_
        refine lv_iload_n hx hb dX8_made_31 rfl (lv_at hl 1 rfl) ?_
        refine lv_iload_n hx hb dX8_made_32 rfl (lv_at hl 2 rfl) ?_
        refine lv_iload_n hx hb dX8_made_33 rfl (lv_at hl 3 rfl) ?_
        refine W.eq (g2 := F0 mm 34 ls [.int (s), .int (w), .int (nI (tn q)), .ref (B + (0))]) (congrArg (fun z9 : Int32 => F0 mm 34 ls [.int (s), .int (w), .int (z9), .ref (B + (0))]) hqe) ?_
        refine W.eq (g2 := F0 mm 34 ls [.int (nI (tn s)), .int (w), .int (nI (tn q)), .ref (B + (0))]) (congrArg (fun z9 : Int32 => F0 mm 34 ls [.int (z9), .int (w), .int (nI (tn q)), .ref (B + (0))]) hse) ?_
        refine x_ip (w := (wM G B)) (x := x) (v := sMade (x 5) n (tn q) w (tn s)) (va_runV (As := [.int (nI (tn q)), .int (w), .int (nI (tn s))]) (rest := []) ⟨hx, hb, hml, hown, hts⟩ (c_X8_madeBy (l := l) (G := G) (B := B) (hW := hW) (x := x) (q := tn q) (w := w) (s := tn s) (n := n) (hN := hN) (hn8 := hn8) (hq := (by omega)) (hs := (by omega))) (cwV 3 hts gX8_made_X8_madeBy rfl rfl rfl (by decide +kernel) ⟨Nat.le_of_ble_eq_true rfl, Nat.le_of_ble_eq_true rfl⟩) (x_pv (w := (wM G B)) (a := 0) hW hX hK hE hS [.int (nI (tn q)), .int (w), .int (nI (tn s))] (Nat.le_of_ble_eq_true rfl) (shM_0 (G := G) (B := B)) rfl) rfl rfl hl.1 rfl (lv_room (Nat.le_of_ble_eq_true rfl)) dX8_made_34 ⟨Nat.zero_le _, Nat.zero_le _⟩) hS (fun H_10 lo_11 hX hS => ?_)
        refine lv_goto (tgt := 42) hx hb dX8_made_37 (by decide) ?_
        rw [← hQ]
        refine x_iret (v := sMade (x 5) n (tn q) w (tn s)) hx hb hr hX hS hlocks dX8_made_42 ?_
        show PT_X8_made _ _ _ _ _ _ _
        unfold PT_X8_made
        rw [if_pos c_3, if_neg (ne_of_true c_6), if_neg (ne_of_true c_9)]
        exact ⟨rfl, rfl⟩
  · refine lv_ldc (v := (-1000002)) hx hb hown (hts _ kX8_made_185) dX8_made_7 ?_
    rw [← hQ]
    refine x_iret (v := (-1000002)) hx hb hr hX hS hlocks dX8_made_9 ?_
    show PT_X8_made _ _ _ _ _ _ _
    unfold PT_X8_made
    rw [if_neg (ne_of_true c_3)]
    exact ⟨rfl, rfl⟩

abbrev rmX8_bits : Room := { frames := 0, cells := 0, slots := 0, locals := 0 }
set_option maxHeartbeats 4000000 in
set_option maxRecDepth 100000 in
theorem c_X8_bits (l : Launch) (G : GG) (B : Nat) (hW : WOK (wM G B)) (x : Mem) {s : Nat} (hs : s < 256) : Met l yX8_bits wsX8_bits rmX8_bits (XP G (wM G B) [.int (nI s)] x) (va_Qi (fun r u => r = (nI (cntN s.testBit 8)) ∧ u = x) (XB G (wM G B)) (blkA B (B + 13))) 0 0 (blkA B (B + 13)) := by
  refine Met.ofW (cc := cX8_bits) (maxL := 3) (ret := (some .int)) (by decide) rfl ?_
  intro pp ee ss mm aa bb mt cd s1 Bd hml hv
  obtain ⟨hae, hX, hK, hE⟩ := hv
  have hx := Bd.exec
  have hb := Bd.bytes
  have hr := Bd.returns
  have hts := atoms_spec (ws := wsX8_bits) Bd.pre
  have hown : ss.vm.findClass RX8 = some mm.cls := findClass_of_methodNamed Bd.named
  have hlocks := Bd.notSynchronized
  have hS : va_S (blkA B (B + 13)) ss.heap ss.heap [] := va_S.rf
  have hl := lv_entry ([.int (nI s)]) (n := 3) (Nat.le_of_ble_eq_true rfl)
  subst hae
  rw [lg_entry_eq]
  generalize (lg_sl ([.int (nI s)]) ++ List.replicate (3 - (lg_sl ([.int (nI s)])).length) Slot.unset).toArray = ls at hl ⊢
  have hl : lv_has ls 3 [(0, .int (nI s))] := hl
  generalize ([.int (nI s)] : List Value).toArray = aa at hts ⊢
  show W pp l ee rmX8_bits ss mm aa bb mt cd ss.heap [] 0 0 _ (F0 mm 0 ls [])
  generalize hQ : MQ bb (va_Qi (fun r u => r = (nI (cntN s.testBit 8)) ∧ u = x) (XB G (wM G B)) (blkA B (B + 13))) aa ss 0 0 (blkA B (B + 13)) = Q
  refine lv_iconst (v := 0) hx hb dX8_bits_0 (by decide) ?_
  refine lv_istore_n (lv' := [(1, .int (0)), (0, .int (nI s))]) hx hb dX8_bits_1 rfl hl (by decide) rfl (fun ls hl => ?_)
  refine lv_iload_n hx hb dX8_bits_2 rfl (lv_at hl 1 rfl) ?_
  refine lv_istore_n (lv' := [(2, .int (nI s)), (1, .int (0)), (0, .int (nI s))]) hx hb dX8_bits_3 rfl hl (by decide) rfl (fun ls hl => ?_)
  have L_1 : ∀ (n9 : Nat) (k : Nat) (b : Nat)  (_ : n9 = k) (_ : k < 256 ∧ b + cntN k.testBit 8 = cntN s.testBit 8) (H_2 : Heap) (lo_3 : List Loc) (_ : MR G (wM G B) x H_2) (_ : va_S (blkA B (B + 13)) ss.heap H_2 lo_3) (ls : Array Slot) (_ : lv_has ls 3 [(2, .int (nI k)), (1, .int (nI b)), (0, .int (nI s))]), W pp l ee rmX8_bits ss mm aa bb mt cd H_2 lo_3 0 0 Q (F0 mm 4 ls []) := by
    intro n9
    induction n9 using Nat.strongRecOn with
    | _ n9 ih => 
      have ih_4 := ih
      intro k b hn9 hI H_2 lo_3 hX hS ls hl
      obtain ⟨hk, hb9⟩ := hI
      refine lv_iload_n hx hb dX8_bits_4 rfl (lv_at hl 0 rfl) ?_
      refine lv_if_eq (tgt := 20) hx hb dX8_bits_5 (by decide) (fun c_4 => ?_) (fun c_4 => ?_)
      · have nc_4 := (n_eq (a := k) (b := 0) rfl rfl (by omega) (by omega)).mp c_4
        refine lv_iload_n hx hb dX8_bits_20 rfl (lv_at hl 1 rfl) ?_
        rw [← hQ]
        refine x_iret (v := nI b) hx hb hr hX hS hlocks dX8_bits_21 ?_
        have e9 : k = 0 := by omega
        subst e9
        exact ⟨by rw [← hb9]; rfl, rfl⟩
      · have nc_4 : ¬ k = 0 := fun q => c_4 ((n_eq (a := k) (b := 0) rfl rfl (by omega) (by omega)).mpr q)
        refine lv_iinc (v := nI (b + 1)) (lv' := [(1, .int (nI (b + 1))), (2, .int (nI k)), (0, .int (nI s))]) hx hb dX8_bits_8 hl (k := 1) rfl (inc_nI _) (by decide) rfl (fun ls hl => ?_)
        refine lv_iload_n hx hb dX8_bits_11 rfl (lv_at hl 1 rfl) ?_
        refine lv_iload_n hx hb dX8_bits_12 rfl (lv_at hl 1 rfl) ?_
        refine lv_iconst (v := 1) hx hb dX8_bits_13 (by decide) ?_
        refine lv_isub hx hb dX8_bits_14 ?_
        refine lv_iand hx hb dX8_bits_15 ?_
        refine W.eq (g2 := F0 mm 16 ls [.int (nI (k &&& (k - 1)))]) (congrArg (fun z9 : Int32 => F0 mm 16 ls [.int (z9)]) (bit_low k hk (by omega)).1) ?_
        refine lv_istore_n (lv' := [(2, .int (nI (k &&& (k - 1)))), (1, .int (nI (b + 1))), (0, .int (nI s))]) hx hb dX8_bits_16 rfl hl (by decide) rfl (fun ls hl => ?_)
        refine lv_goto (tgt := 4) hx hb dX8_bits_17 (by decide) ?_
        have hlo := bit_low k hk (by omega)
        exact ih_4 _ (by omega) (k &&& (k - 1)) (b + 1) rfl ⟨by omega, by omega⟩ _ _ hX hS ls (lv_sub hl [0, 1, 2] rfl)
  exact L_1 _ (s) (0) rfl ⟨hs, Nat.zero_add _⟩ _ _ hX hS ls (lv_sub hl [0, 1, 2] rfl)

theorem kX8_bestSet_22 : (.fieldLink RX8 22 "WindTakenModel" "now" "[I" : Cond) ∈ wsX8_bestSet := by decide +kernel
theorem iX8_bestSet_X8 : ∀ w ∈ wsX80, w ∈ wsX8_bestSet := by decide +kernel
abbrev rmX8_bestSet : Room := { frames := 7, cells := 0, slots := 0, locals := 173 }
set_option maxHeartbeats 4000000 in
set_option maxRecDepth 100000 in
theorem c_X8_bestSet (l : Launch) (G : GG) (B : Nat) (hW : WOK (wM G B)) (x : Mem) {q : Nat} (w : Int32) {n : Nat} (hN : x 5 0 = nI n) (hn8 : n ≤ 8) (hq : q < 4) : Met l yX8_bestSet wsX8_bestSet rmX8_bestSet (XP G (wM G B) [.ref (B + (0)), .int (nI q), .int (w)] x) (va_Qi (fun r u => r = (nI (sBest (x 5) n q w)) ∧ u = x) (XB G (wM G B)) (blkA B (B + 13))) 0 0 (blkA B (B + 13)) := by
  refine Met.ofW (cc := cX8_bestSet) (maxL := 8) (ret := (some .int)) (by decide) rfl ?_
  intro pp ee ss mm aa bb mt cd s1 Bd hml hv
  obtain ⟨hae, hX, hK, hE⟩ := hv
  have hx := Bd.exec
  have hb := Bd.bytes
  have hr := Bd.returns
  have hts := atoms_spec (ws := wsX8_bestSet) Bd.pre
  have hown : ss.vm.findClass RX8 = some mm.cls := findClass_of_methodNamed Bd.named
  have hlocks := Bd.notSynchronized
  have hS : va_S (blkA B (B + 13)) ss.heap ss.heap [] := va_S.rf
  have hl := lv_entry ([.ref (B + (0)), .int (nI q), .int (w)]) (n := 8) (Nat.le_of_ble_eq_true rfl)
  subst hae
  rw [lg_entry_eq]
  generalize (lg_sl ([.ref (B + (0)), .int (nI q), .int (w)]) ++ List.replicate (8 - (lg_sl ([.ref (B + (0)), .int (nI q), .int (w)])).length) Slot.unset).toArray = ls at hl ⊢
  have hl : lv_has ls 8 [(0, .ref (B + (0))), (1, .int (nI q)), (2, .int (w))] := hl
  generalize ([.ref (B + (0)), .int (nI q), .int (w)] : List Value).toArray = aa at hts ⊢
  show W pp l ee rmX8_bestSet ss mm aa bb mt cd ss.heap [] 0 0 _ (F0 mm 0 ls [])
  generalize hQ : MQ bb (va_Qi (fun r u => r = (nI (sBest (x 5) n q w)) ∧ u = x) (XB G (wM G B)) (blkA B (B + 13))) aa ss 0 0 (blkA B (B + 13)) = Q
  have hp8 := pow8 hn8
  have hsh : (1 : Int32) <<< ((x (5) 0) &&& 31) = nI (2 ^ n) := by rw [hN]; exact shln n hn8
  have hp0 : 0 < 2 ^ n := Nat.pow_pos (by decide)
  refine lv_iconst (v := 0) hx hb dX8_bestSet_0 (by decide) ?_
  refine lv_istore_n (lv' := [(3, .int (0)), (0, .ref (B + (0))), (1, .int (nI q)), (2, .int (w))]) hx hb dX8_bestSet_1 rfl hl (by decide) rfl (fun ls hl => ?_)
  refine lv_aload_n hx hb dX8_bestSet_2 rfl (lv_at hl 1 rfl) ?_
  refine lv_iload_n hx hb dX8_bestSet_3 rfl (lv_at hl 2 rfl) ?_
  refine lv_iload_n hx hb dX8_bestSet_4 rfl (lv_at hl 3 rfl) ?_
  refine lv_iconst (v := 0) hx hb dX8_bestSet_5 (by decide) ?_
  refine x_ip (w := (wM G B)) (x := x) (v := sMade (x 5) n q w 0) (va_runV (As := [.int (nI q), .int (w), .int (0)]) (rest := []) ⟨hx, hb, hml, hown, hts⟩ (c_X8_madeBy (l := l) (G := G) (B := B) (hW := hW) (x := x) (q := q) (w := w) (s := 0) (n := n) (hN := hN) (hn8 := hn8) (hq := (by omega)) (hs := (by omega))) (cwV 3 hts gX8_bestSet_X8_madeBy rfl rfl rfl (by decide +kernel) ⟨Nat.le_of_ble_eq_true rfl, Nat.le_of_ble_eq_true rfl⟩) (x_pv (w := (wM G B)) (a := 0) hW hX hK hE hS [.int (nI q), .int (w), .int (0)] (Nat.le_of_ble_eq_true rfl) (shM_0 (G := G) (B := B)) rfl) rfl rfl hl.1 rfl (lv_room (Nat.le_of_ble_eq_true rfl)) dX8_bestSet_6 ⟨Nat.zero_le _, Nat.zero_le _⟩) hS (fun H_1 lo_2 hX hS => ?_)
  refine lv_istore (lv' := [(4, .int (sMade (x 5) n q w 0)), (3, .int (0)), (0, .ref (B + (0))), (1, .int (nI q)), (2, .int (w))]) hx hb dX8_bestSet_9 hl (by decide) rfl (fun ls hl => ?_)
  refine lv_iconst (v := 1) hx hb dX8_bestSet_11 (by decide) ?_
  refine lv_istore (lv' := [(5, .int (1)), (4, .int (sMade (x 5) n q w 0)), (3, .int (0)), (0, .ref (B + (0))), (1, .int (nI q)), (2, .int (w))]) hx hb dX8_bestSet_12 hl (by decide) rfl (fun ls hl => ?_)
  have L_3 : ∀ (n9 : Nat) (s : Nat) (bs : Nat) (ms : Int32)  (_ : n9 = 2 ^ n - s) (_ : 1 ≤ s ∧ s ≤ 2 ^ n ∧ bestP (fun s => sMade (x 5) n q w s) (s - 1) = (bs, ms) ∧ bs < 256) (H_4 : Heap) (lo_5 : List Loc) (_ : MR G (wM G B) x H_4) (_ : va_S (blkA B (B + 13)) ss.heap H_4 lo_5) (ls : Array Slot) (_ : lv_has ls 8 [(5, .int (nI s)), (4, .int (ms)), (3, .int (nI bs)), (0, .ref (B + (0))), (1, .int (nI q)), (2, .int (w))]), W pp l ee rmX8_bestSet ss mm aa bb mt cd H_4 lo_5 0 0 Q (F0 mm 14 ls []) := by
    intro n9
    induction n9 using Nat.strongRecOn with
    | _ n9 ih => 
      have ih_14 := ih
      intro s bs ms hn9 hI H_4 lo_5 hX hS ls hl
      obtain ⟨hs1, hs2, hbp, hbs⟩ := hI
      refine lv_iload hx hb dX8_bestSet_14 (lv_at hl 0 rfl) ?_
      refine lv_iconst (v := 1) hx hb dX8_bestSet_16 (by decide) ?_
      refine lv_aload_n hx hb dX8_bestSet_17 rfl (lv_at hl 3 rfl) ?_
      refine x_get (w := (wM G B)) (a := 0) (v := .ref (B + (5))) hx hb hts iX8_bestSet_X8 hown hK hX (Nat.le_of_ble_eq_true rfl) (shM_0 (G := G) (B := B)) rfl 7 (by decide) (hts _ kX8_bestSet_22) (fun _ h9 => h9) rfl dX8_bestSet_18 ?_
      refine lv_iconst (v := 0) hx hb dX8_bestSet_21 (by decide) ?_
      refine x_iald (w := (wM G B)) (a := 5) (n := 93) (j := 0) hx hb hK hX (Nat.le_of_ble_eq_true rfl) (shM_a (G := G) (B := B) (a := 5) (f := x (5)) (by decide)) rfl (by decide) (by decide) dX8_bestSet_22 ?_
      refine lv_ishl hx hb dX8_bestSet_23 ?_
      refine lv_icmp_ge (tgt := 102) hx hb dX8_bestSet_24 (by decide) (fun c_6 => ?_) (fun c_6 => ?_)
      · have nc_6 := (n_le (a := 2 ^ n) (b := s) hsh rfl (by omega) (by omega)).mp c_6
        refine lv_iload_n hx hb dX8_bestSet_102 rfl (lv_at hl 2 rfl) ?_
        rw [← hQ]
        refine x_iret (v := nI bs) hx hb hr hX hS hlocks dX8_bestSet_103 ?_
        have e9 : s = 2 ^ n := by omega
        subst e9
        exact ⟨by unfold sBest; rw [hbp], rfl⟩
      · have nc_6 := Nat.not_le.mp (fun q => c_6 ((n_le (a := 2 ^ n) (b := s) hsh rfl (by omega) (by omega)).mpr q))
        refine lv_aload_n hx hb dX8_bestSet_27 rfl (lv_at hl 3 rfl) ?_
        refine lv_iload_n hx hb dX8_bestSet_28 rfl (lv_at hl 4 rfl) ?_
        refine lv_iload_n hx hb dX8_bestSet_29 rfl (lv_at hl 5 rfl) ?_
        refine lv_iload hx hb dX8_bestSet_30 (lv_at hl 0 rfl) ?_
        refine x_ip (w := (wM G B)) (x := x) (v := sMade (x 5) n q w s) (va_runV (As := [.int (nI q), .int (w), .int (nI s)]) (rest := []) ⟨hx, hb, hml, hown, hts⟩ (c_X8_madeBy (l := l) (G := G) (B := B) (hW := hW) (x := x) (q := q) (w := w) (s := s) (n := n) (hN := hN) (hn8 := hn8) (hq := (by omega)) (hs := (by omega))) (cwV 3 hts gX8_bestSet_X8_madeBy rfl rfl rfl (by decide +kernel) ⟨Nat.le_of_ble_eq_true rfl, Nat.le_of_ble_eq_true rfl⟩) (x_pv (w := (wM G B)) (a := 0) hW hX hK hE hS [.int (nI q), .int (w), .int (nI s)] (Nat.le_of_ble_eq_true rfl) (shM_0 (G := G) (B := B)) rfl) rfl rfl hl.1 rfl (lv_room (Nat.le_of_ble_eq_true rfl)) dX8_bestSet_32 ⟨Nat.zero_le _, Nat.zero_le _⟩) hS (fun H_7 lo_8 hX hS => ?_)
        refine lv_istore (lv' := [(6, .int (sMade (x 5) n q w s)), (5, .int (nI s)), (4, .int (ms)), (3, .int (nI bs)), (0, .ref (B + (0))), (1, .int (nI q)), (2, .int (w))]) hx hb dX8_bestSet_35 hl (by decide) rfl (fun ls hl => ?_)
        refine lv_iload hx hb dX8_bestSet_37 (lv_at hl 0 rfl) ?_
        refine lv_iload hx hb dX8_bestSet_39 (lv_at hl 2 rfl) ?_
        have kJ_11 : ∀ (v_10 : Bool) (_ : v_10 = (if ms < (sMade (x 5) n q w s) then true else (if (sMade (x 5) n q w s) = ms then (if (nI (cntN bs.testBit 8)) ≤ (nI (cntN s.testBit 8)) then false else true) else false))) (H_12 : Heap) (lo_13 : List Loc) (_ : MR G (wM G B) x H_12) (_ : va_S (blkA B (B + 13)) ss.heap H_12 lo_13) (ls : Array Slot) (_ : lv_has ls 8 [(6, .int (sMade (x 5) n q w s)), (5, .int (nI s)), (4, .int (ms)), (3, .int (nI bs)), (0, .ref (B + (0))), (1, .int (nI q)), (2, .int (w))]), W pp l ee rmX8_bestSet ss mm aa bb mt cd H_12 lo_13 0 0 Q (F0 mm 68 ls [.int (bI (v_10))]) := by
          intro v_10 ev_10 H_12 lo_13 hX hS ls hl
          have hv : v_10 = decide (ms < sMade (x 5) n q w s ∨ (sMade (x 5) n q w s = ms ∧ cntN s.testBit 8 < cntN bs.testBit 8)) := by rw [ev_10]; exact more_ref (cntN_le _ 8) (cntN_le _ 8)
          subst hv
          have hst : bestP (fun s => sMade (x 5) n q w s) s = (if ms < sMade (x 5) n q w s ∨ (sMade (x 5) n q w s = ms ∧ cntN s.testBit 8 < cntN bs.testBit 8) then (s, sMade (x 5) n q w s) else (bs, ms)) := by
            obtain ⟨s0, rfl⟩ : ∃ s0, s = s0 + 1 := ⟨s - 1, by omega⟩
            rw [Nat.add_sub_cancel] at hbp
            rw [bestP, hbp]
          refine lv_istore (lv' := [(7, .int (bI ((decide (ms < sMade (x 5) n q w s ∨ (sMade (x 5) n q w s = ms ∧ cntN s.testBit 8 < cntN bs.testBit 8)))))), (6, .int (sMade (x 5) n q w s)), (5, .int (nI s)), (4, .int (ms)), (3, .int (nI bs)), (0, .ref (B + (0))), (1, .int (nI q)), (2, .int (w))]) hx hb dX8_bestSet_68 hl (by decide) rfl (fun ls hl => ?_)
          refine lv_iload hx hb dX8_bestSet_70 (lv_at hl 0 rfl) ?_
          have kJ_16 : ∀ (v_15 : Int32) (_ : v_15 = (if ((decide (ms < sMade (x 5) n q w s ∨ (sMade (x 5) n q w s = ms ∧ cntN s.testBit 8 < cntN bs.testBit 8)))) = false then nI bs else nI s)) (H_17 : Heap) (lo_18 : List Loc) (_ : MR G (wM G B) x H_17) (_ : va_S (blkA B (B + 13)) ss.heap H_17 lo_18) (ls : Array Slot) (_ : lv_has ls 8 [(7, .int (bI ((decide (ms < sMade (x 5) n q w s ∨ (sMade (x 5) n q w s = ms ∧ cntN s.testBit 8 < cntN bs.testBit 8)))))), (6, .int (sMade (x 5) n q w s)), (5, .int (nI s)), (4, .int (ms)), (3, .int (nI bs)), (0, .ref (B + (0))), (1, .int (nI q)), (2, .int (w))]), W pp l ee rmX8_bestSet ss mm aa bb mt cd H_17 lo_18 0 0 Q (F0 mm 81 ls [.int (v_15)]) := by
            intro v_15 ev_15 H_17 lo_18 hX hS ls hl
            have hv1 : v_15 = nI (bestP (fun s => sMade (x 5) n q w s) s).1 := by rw [ev_15, hst]; exact best_ref1
            subst hv1
            refine lv_istore_n (lv' := [(3, .int (nI (bestP (fun s => sMade (x 5) n q w s) s).1)), (7, .int (bI ((decide (ms < sMade (x 5) n q w s ∨ (sMade (x 5) n q w s = ms ∧ cntN s.testBit 8 < cntN bs.testBit 8)))))), (6, .int (sMade (x 5) n q w s)), (5, .int (nI s)), (4, .int (ms)), (0, .ref (B + (0))), (1, .int (nI q)), (2, .int (w))]) hx hb dX8_bestSet_81 rfl hl (by decide) rfl (fun ls hl => ?_)
            refine lv_iload hx hb dX8_bestSet_82 (lv_at hl 1 rfl) ?_
            have kJ_21 : ∀ (v_20 : Int32) (_ : v_20 = (if ((decide (ms < sMade (x 5) n q w s ∨ (sMade (x 5) n q w s = ms ∧ cntN s.testBit 8 < cntN bs.testBit 8)))) = false then ms else (sMade (x 5) n q w s))) (H_22 : Heap) (lo_23 : List Loc) (_ : MR G (wM G B) x H_22) (_ : va_S (blkA B (B + 13)) ss.heap H_22 lo_23) (ls : Array Slot) (_ : lv_has ls 8 [(3, .int (nI (bestP (fun s => sMade (x 5) n q w s) s).1)), (7, .int (bI ((decide (ms < sMade (x 5) n q w s ∨ (sMade (x 5) n q w s = ms ∧ cntN s.testBit 8 < cntN bs.testBit 8)))))), (6, .int (sMade (x 5) n q w s)), (5, .int (nI s)), (4, .int (ms)), (0, .ref (B + (0))), (1, .int (nI q)), (2, .int (w))]), W pp l ee rmX8_bestSet ss mm aa bb mt cd H_22 lo_23 0 0 Q (F0 mm 94 ls [.int (v_20)]) := by
              intro v_20 ev_20 H_22 lo_23 hX hS ls hl
              have hv2 : v_20 = (bestP (fun s => sMade (x 5) n q w s) s).2 := by rw [ev_20, hst]; exact best_ref2
              subst hv2
              refine lv_istore (lv' := [(4, .int ((bestP (fun s => sMade (x 5) n q w s) s).2)), (3, .int (nI (bestP (fun s => sMade (x 5) n q w s) s).1)), (7, .int (bI ((decide (ms < sMade (x 5) n q w s ∨ (sMade (x 5) n q w s = ms ∧ cntN s.testBit 8 < cntN bs.testBit 8)))))), (6, .int (sMade (x 5) n q w s)), (5, .int (nI s)), (0, .ref (B + (0))), (1, .int (nI q)), (2, .int (w))]) hx hb dX8_bestSet_94 hl (by decide) rfl (fun ls hl => ?_)
              refine lv_iinc (v := nI (s + 1)) (lv' := [(5, .int (nI (s + 1))), (4, .int ((bestP (fun s => sMade (x 5) n q w s) s).2)), (3, .int (nI (bestP (fun s => sMade (x 5) n q w s) s).1)), (7, .int (bI ((decide (ms < sMade (x 5) n q w s ∨ (sMade (x 5) n q w s = ms ∧ cntN s.testBit 8 < cntN bs.testBit 8)))))), (6, .int (sMade (x 5) n q w s)), (0, .ref (B + (0))), (1, .int (nI q)), (2, .int (w))]) hx hb dX8_bestSet_96 hl (k := 4) rfl (inc_nI _) (by decide) rfl (fun ls hl => ?_)
              refine lv_goto (tgt := 14) hx hb dX8_bestSet_99 (by decide) ?_
              exact ih_14 _ (by omega) (s + 1) ((bestP (fun s => sMade (x 5) n q w s) s).1) ((bestP (fun s => sMade (x 5) n q w s) s).2) rfl ⟨by omega, by omega, by rw [Nat.add_sub_cancel], Nat.lt_of_le_of_lt (bestP_le _ s) (by omega)⟩ _ _ hX hS ls (lv_sub hl [0, 1, 2, 5, 6, 7] rfl)
            refine x_ifeq (tgt := 92) hx hb dX8_bestSet_84 (by decide) (fun c_19 => ?_) (fun c_19 => ?_)
            · refine lv_iload hx hb dX8_bestSet_92 (lv_at hl 4 rfl) ?_
              exact kJ_21 (ms) (by rw [if_pos c_19]) _ _ hX hS ls (lv_sub hl [0, 1, 2, 3, 4, 5, 6, 7] rfl)
            · refine lv_iload hx hb dX8_bestSet_87 (lv_at hl 2 rfl) ?_
              refine lv_goto (tgt := 94) hx hb dX8_bestSet_89 (by decide) ?_
              exact kJ_21 (sMade (x 5) n q w s) (by rw [if_neg (ne_of_true c_19)]) _ _ hX hS ls (lv_sub hl [0, 1, 2, 3, 4, 5, 6, 7] rfl)
          refine x_ifeq (tgt := 80) hx hb dX8_bestSet_72 (by decide) (fun c_14 => ?_) (fun c_14 => ?_)
          · refine lv_iload_n hx hb dX8_bestSet_80 rfl (lv_at hl 4 rfl) ?_
            exact kJ_16 (nI bs) (by rw [if_pos c_14]) _ _ hX hS ls (lv_sub hl [0, 1, 2, 3, 4, 5, 6, 7] rfl)
          · refine lv_iload hx hb dX8_bestSet_75 (lv_at hl 2 rfl) ?_
            refine lv_goto (tgt := 81) hx hb dX8_bestSet_77 (by decide) ?_
            exact kJ_16 (nI s) (by rw [if_neg (ne_of_true c_14)]) _ _ hX hS ls (lv_sub hl [0, 1, 2, 3, 4, 5, 6, 7] rfl)
        refine lv_icmp_gt (tgt := 63) hx hb dX8_bestSet_41 (by decide) (fun c_9 => ?_) (fun c_9 => ?_)
        · refine lv_iconst (v := 1) hx hb dX8_bestSet_63 (by decide) ?_
          refine lv_goto (tgt := 68) hx hb dX8_bestSet_64 (by decide) ?_
          exact kJ_11 (true) (by rw [if_pos c_9]) _ _ hX hS ls (lv_sub hl [0, 1, 2, 3, 4, 5, 6] rfl)
        · refine lv_iload hx hb dX8_bestSet_44 (lv_at hl 0 rfl) ?_
          refine lv_iload hx hb dX8_bestSet_46 (lv_at hl 2 rfl) ?_
          refine lv_icmp_ne (tgt := 67) hx hb dX8_bestSet_48 (by decide) (fun c_24 => ?_) (fun c_24 => ?_)
          · refine lv_iconst (v := 0) hx hb dX8_bestSet_67 (by decide) ?_
            exact kJ_11 (false) (by rw [if_neg c_9, if_neg c_24]) _ _ hX hS ls (lv_sub hl [0, 1, 2, 3, 4, 5, 6] rfl)
          · refine lv_iload hx hb dX8_bestSet_51 (lv_at hl 1 rfl) ?_
            refine x_ip (w := (wM G B)) (x := x) (v := nI (cntN s.testBit 8)) (va_runS (As := [.int (nI s)]) (rest := []) ⟨hx, hb, hml, hown, hts⟩ (c_X8_bits (l := l) (G := G) (B := B) (hW := hW) (x := x) (s := s) (hs := (by omega))) (va_cwS 1 hts gX8_bestSet_X8_bits rfl rfl rfl (by decide +kernel) ⟨Nat.le_of_ble_eq_true rfl, Nat.le_of_ble_eq_true rfl⟩) (x_ps (w := (wM G B)) hW hX hK hE hS [.int (nI s)]) rfl rfl hl.1 rfl (lv_room (Nat.le_of_ble_eq_true rfl)) dX8_bestSet_53 ⟨Nat.zero_le _, Nat.zero_le _⟩) hS (fun H_25 lo_26 hX hS => ?_)
            refine lv_iload_n hx hb dX8_bestSet_56 rfl (lv_at hl 3 rfl) ?_
            refine x_ip (w := (wM G B)) (x := x) (v := nI (cntN bs.testBit 8)) (va_runS (As := [.int (nI bs)]) (rest := [.int (nI (cntN s.testBit 8))]) ⟨hx, hb, hml, hown, hts⟩ (c_X8_bits (l := l) (G := G) (B := B) (hW := hW) (x := x) (s := bs) (hs := (by omega))) (va_cwS 1 hts gX8_bestSet_X8_bits rfl rfl rfl (by decide +kernel) ⟨Nat.le_of_ble_eq_true rfl, Nat.le_of_ble_eq_true rfl⟩) (x_ps (w := (wM G B)) hW hX hK hE hS [.int (nI bs)]) rfl rfl hl.1 rfl (lv_room (Nat.le_of_ble_eq_true rfl)) dX8_bestSet_57 ⟨Nat.zero_le _, Nat.zero_le _⟩) hS (fun H_27 lo_28 hX hS => ?_)
            refine lv_icmp_ge (tgt := 67) hx hb dX8_bestSet_60 (by decide) (fun c_29 => ?_) (fun c_29 => ?_)
            · refine lv_iconst (v := 0) hx hb dX8_bestSet_67 (by decide) ?_
              exact kJ_11 (false) (by rw [if_neg c_9, if_pos c_24, if_pos c_29]) _ _ hX hS ls (lv_sub hl [0, 1, 2, 3, 4, 5, 6] rfl)
            · refine lv_iconst (v := 1) hx hb dX8_bestSet_63 (by decide) ?_
              refine lv_goto (tgt := 68) hx hb dX8_bestSet_64 (by decide) ?_
              exact kJ_11 (true) (by rw [if_neg c_9, if_pos c_24, if_neg c_29]) _ _ hX hS ls (lv_sub hl [0, 1, 2, 3, 4, 5, 6] rfl)
  exact L_3 _ (1) (0) (sMade (x 5) n q w 0) rfl ⟨Nat.le_refl 1, hp0, rfl, by decide⟩ _ _ hX hS ls (lv_sub hl [0, 1, 2, 3, 4, 5] rfl)

def PT_X8_best (x : Mem) (q : Int32) (w : Int32) (wh : Int32) (n : Nat) (r : Int32) (u : Mem) : Prop := (if (decide (x 5 0 = 0)) = false then (if ((decide (0 ≤ q) && decide (q ≤ 3)) && (decide (0 ≤ w) && decide (w ≤ 100))) = false then (r = (-1000001) ∧ u = x) else (if (decide (((0 : Int32)) ≤ ((wh : Int32))) && decide (((wh : Int32)) ≤ ((1 : Int32)))) = true then (if wh = 0 then (r = sMade (x 5) n (tn q) w (sBest (x 5) n (tn q) w) ∧ u = x) else (r = nI (sBest (x 5) n (tn q) w) ∧ u = x)) else (r = (-1000001) ∧ u = x))) else (r = (-1000002) ∧ u = x))
theorem kX8_best_63 : (.constant RX8 63 (-1000001) : Cond) ∈ wsX8_best := by decide +kernel
theorem kX8_best_185 : (.constant RX8 185 (-1000002) : Cond) ∈ wsX8_best := by decide +kernel
abbrev rmX8_best : Room := { frames := 8, cells := 0, slots := 0, locals := 200 }
set_option maxHeartbeats 4000000 in
set_option maxRecDepth 100000 in
theorem c_X8_best (l : Launch) (G : GG) (B : Nat) (hW : WOK (wM G B)) (x : Mem) (q : Int32) (w : Int32) (wh : Int32) {n : Nat} (hN : x 5 0 = nI n) (hn8 : n ≤ 8) : Met l yX8_best wsX8_best rmX8_best (XP G (wM G B) [.ref (B + (0)), .int (q), .int (w), .int (wh)] x) (va_Qi (fun r u => PT_X8_best x q w wh n r u) (XB G (wM G B)) (blkA B (B + 13))) 0 0 (blkA B (B + 13)) := by
  refine Met.ofW (cc := cX8_best) (maxL := 5) (ret := (some .int)) (by decide) rfl ?_
  intro pp ee ss mm aa bb mt cd s1 Bd hml hv
  obtain ⟨hae, hX, hK, hE⟩ := hv
  have hx := Bd.exec
  have hb := Bd.bytes
  have hr := Bd.returns
  have hts := atoms_spec (ws := wsX8_best) Bd.pre
  have hown : ss.vm.findClass RX8 = some mm.cls := findClass_of_methodNamed Bd.named
  have hlocks := Bd.notSynchronized
  have hS : va_S (blkA B (B + 13)) ss.heap ss.heap [] := va_S.rf
  have hl := lv_entry ([.ref (B + (0)), .int (q), .int (w), .int (wh)]) (n := 5) (Nat.le_of_ble_eq_true rfl)
  subst hae
  rw [lg_entry_eq]
  generalize (lg_sl ([.ref (B + (0)), .int (q), .int (w), .int (wh)]) ++ List.replicate (5 - (lg_sl ([.ref (B + (0)), .int (q), .int (w), .int (wh)])).length) Slot.unset).toArray = ls at hl ⊢
  have hl : lv_has ls 5 [(0, .ref (B + (0))), (1, .int (q)), (2, .int (w)), (3, .int (wh))] := hl
  generalize ([.ref (B + (0)), .int (q), .int (w), .int (wh)] : List Value).toArray = aa at hts ⊢
  show W pp l ee rmX8_best ss mm aa bb mt cd ss.heap [] 0 0 _ (F0 mm 0 ls [])
  generalize hQ : MQ bb (va_Qi (fun r u => PT_X8_best x q w wh n r u) (XB G (wM G B)) (blkA B (B + 13))) aa ss 0 0 (blkA B (B + 13)) = Q
  refine lv_aload_n hx hb dX8_best_0 rfl (lv_at hl 0 rfl) ?_
  refine x_ip (w := (wM G B)) (x := x) (v := bI (decide (x 5 0 = 0))) (va_runV (As := []) (rest := []) ⟨hx, hb, hml, hown, hts⟩ (c_X8_isNoRidge (l := l) (G := G) (B := B) (hW := hW) (x := x) ) (cwV 0 hts gX8_best_X8_isNoRidge rfl rfl rfl (by decide +kernel) ⟨Nat.le_of_ble_eq_true rfl, Nat.le_of_ble_eq_true rfl⟩) (x_pv (w := (wM G B)) (a := 0) hW hX hK hE hS [] (Nat.le_of_ble_eq_true rfl) (shM_0 (G := G) (B := B)) rfl) rfl rfl hl.1 rfl (lv_room (Nat.le_of_ble_eq_true rfl)) dX8_best_1 ⟨Nat.zero_le _, Nat.zero_le _⟩) hS (fun H_1 lo_2 hX hS => ?_)
  refine x_ifeq (tgt := 10) hx hb dX8_best_4 (by decide) (fun c_3 => ?_) (fun c_3 => ?_)
  · refine lv_iload_n hx hb dX8_best_10 rfl (lv_at hl 1 rfl) ?_
    refine lv_iload_n hx hb dX8_best_11 rfl (lv_at hl 2 rfl) ?_
    refine x_ip (w := (wM G B)) (x := x) (v := bI ((decide (0 ≤ q) && decide (q ≤ 3)) && (decide (0 ≤ w) && decide (w ≤ 100)))) (va_runS (As := [.int (q), .int (w)]) (rest := []) ⟨hx, hb, hml, hown, hts⟩ (c_X8_isWind (l := l) (G := G) (B := B) (hW := hW) (x := x) (q := q) (v := w)) (va_cwS 2 hts gX8_best_X8_isWind rfl rfl rfl (by decide +kernel) ⟨Nat.le_of_ble_eq_true rfl, Nat.le_of_ble_eq_true rfl⟩) (x_ps (w := (wM G B)) hW hX hK hE hS [.int (q), .int (w)]) rfl rfl hl.1 rfl (lv_room (Nat.le_of_ble_eq_true rfl)) dX8_best_12 ⟨Nat.zero_le _, Nat.zero_le _⟩) hS (fun H_4 lo_5 hX hS => ?_)
    refine x_ifeq (tgt := 28) hx hb dX8_best_15 (by decide) (fun c_6 => ?_) (fun c_6 => ?_)
    · refine lv_ldc (v := (-1000001)) hx hb hown (hts _ kX8_best_63) dX8_best_28 ?_
      rw [← hQ]
      refine x_iret (v := (-1000001)) hx hb hr hX hS hlocks dX8_best_30 ?_
      show PT_X8_best _ _ _ _ _ _ _
      unfold PT_X8_best
      rw [if_pos c_3, if_pos c_6]
      exact ⟨rfl, rfl⟩
    · obtain ⟨hqe, hq4⟩ := windQ c_6
      refine lv_iload_n hx hb dX8_best_18 rfl (lv_at hl 3 rfl) ?_
      refine lv_i2l (v := (wh : Int32).toInt64) hx hb dX8_best_19 rfl ?_
      refine lv_lconst (v := 0) hx hb dX8_best_20 (by decide) ?_
      refine lv_lconst (v := 1) hx hb dX8_best_21 (by decide) ?_
      refine x_ip (w := (wM G B)) (x := x) (v := bI (decide (((0 : Int32)) ≤ ((wh : Int32))) && decide (((wh : Int32)) ≤ ((1 : Int32))))) (va_runS (As := [.long ((wh : Int32).toInt64), .long (0), .long (1)]) (rest := []) ⟨hx, hb, hml, hown, hts⟩ (c_X8_in (l := l) (G := G) (B := B) (hW := hW) (x := x) (va := (wh : Int32).toInt64) (vb := 0) (vc := 1) (v1 := (wh : Int32)) (lo1 := (0 : Int32)) (hi1 := (1 : Int32)) (hv := (by first | rfl | decide)) (hlo := (by first | rfl | decide)) (hhi := (by first | rfl | decide))) (va_cwS 3 hts gX8_best_X8_in rfl rfl rfl (by decide +kernel) ⟨Nat.le_of_ble_eq_true rfl, Nat.le_of_ble_eq_true rfl⟩) (x_ps (w := (wM G B)) hW hX hK hE hS [.long ((wh : Int32).toInt64), .long (0), .long (1)]) rfl rfl hl.1 rfl (lv_room (Nat.le_of_ble_eq_true rfl)) dX8_best_22 ⟨Nat.zero_le _, Nat.zero_le _⟩) hS (fun H_7 lo_8 hX hS => ?_)
      refine x_ifne (tgt := 31) hx hb dX8_best_25 (by decide) (fun c_9 => ?_) (fun c_9 => ?_)
      · refine lv_aload_n hx hb dX8_best_31 rfl (lv_at hl 0 rfl) ?_
        refine lv_iload_n hx hb dX8_best_32 rfl (lv_at hl 1 rfl) ?_
        refine lv_iload_n hx hb dX8_best_33 rfl (lv_at hl 2 rfl) ?_
        refine W.eq (g2 := F0 mm 34 ls [.int (w), .int (nI (tn q)), .ref (B + (0))]) (congrArg (fun z9 : Int32 => F0 mm 34 ls [.int (w), .int (z9), .ref (B + (0))]) hqe) ?_
        refine x_ip (w := (wM G B)) (x := x) (v := nI (sBest (x 5) n (tn q) w)) (va_runV (As := [.int (nI (tn q)), .int (w)]) (rest := []) ⟨hx, hb, hml, hown, hts⟩ (c_X8_bestSet (l := l) (G := G) (B := B) (hW := hW) (x := x) (q := tn q) (w := w) (n := n) (hN := hN) (hn8 := hn8) (hq := (by omega))) (cwV 2 hts gX8_best_X8_bestSet rfl rfl rfl (by decide +kernel) ⟨Nat.le_of_ble_eq_true rfl, Nat.le_of_ble_eq_true rfl⟩) (x_pv (w := (wM G B)) (a := 0) hW hX hK hE hS [.int (nI (tn q)), .int (w)] (Nat.le_of_ble_eq_true rfl) (shM_0 (G := G) (B := B)) rfl) rfl rfl hl.1 rfl (lv_room (Nat.le_of_ble_eq_true rfl)) dX8_best_34 ⟨Nat.zero_le _, Nat.zero_le _⟩) hS (fun H_10 lo_11 hX hS => ?_)
        have hbs9 : sBest (x 5) n (tn q) w < 256 := Nat.lt_of_le_of_lt (bestP_le _ _) (by have := pow8 hn8; omega)
        refine W.eq (g2 := F0 mm 37 ls [.int (nI (sBest (x 5) n (tn q) w))]) (congrArg (fun z9 : Int32 => F0 mm 37 ls [.int (z9)]) rfl) ?_
        refine lv_istore (lv' := [(4, .int (nI (sBest (x 5) n (tn q) w))), (0, .ref (B + (0))), (1, .int (q)), (2, .int (w)), (3, .int (wh))]) hx hb dX8_best_37 hl (by decide) rfl (fun ls hl => ?_)
        refine lv_iload_n hx hb dX8_best_39 rfl (lv_at hl 4 rfl) ?_
        refine lv_if_ne (tgt := 54) hx hb dX8_best_40 (by decide) (fun c_12 => ?_) (fun c_12 => ?_)
        · refine lv_iload hx hb dX8_best_54 (lv_at hl 0 rfl) ?_
          rw [← hQ]
          refine x_iret (v := nI (sBest (x 5) n (tn q) w)) hx hb hr hX hS hlocks dX8_best_56 ?_
          show PT_X8_best _ _ _ _ _ _ _
          unfold PT_X8_best
          rw [if_pos c_3, if_neg (ne_of_true c_6), if_pos c_9, if_neg c_12]
          exact ⟨rfl, rfl⟩
        · refine lv_aload_n hx hb dX8_best_43 rfl (lv_at hl 1 rfl) ?_
          refine lv_iload_n hx hb dX8_best_44 rfl (lv_at hl 2 rfl) ?_
          refine lv_iload_n hx hb dX8_best_45 rfl (lv_at hl 3 rfl) ?_
          refine lv_iload hx hb dX8_best_46 (lv_at hl 0 rfl) ?_
          refine W.eq (g2 := F0 mm 48 ls [.int (nI (sBest (x 5) n (tn q) w)), .int (w), .int (nI (tn q)), .ref (B + (0))]) (congrArg (fun z9 : Int32 => F0 mm 48 ls [.int (nI (sBest (x 5) n (tn q) w)), .int (w), .int (z9), .ref (B + (0))]) hqe) ?_
          refine x_ip (w := (wM G B)) (x := x) (v := sMade (x 5) n (tn q) w (sBest (x 5) n (tn q) w)) (va_runV (As := [.int (nI (tn q)), .int (w), .int (nI (sBest (x 5) n (tn q) w))]) (rest := []) ⟨hx, hb, hml, hown, hts⟩ (c_X8_madeBy (l := l) (G := G) (B := B) (hW := hW) (x := x) (q := tn q) (w := w) (s := sBest (x 5) n (tn q) w) (n := n) (hN := hN) (hn8 := hn8) (hq := (by omega)) (hs := (by omega))) (cwV 3 hts gX8_best_X8_madeBy rfl rfl rfl (by decide +kernel) ⟨Nat.le_of_ble_eq_true rfl, Nat.le_of_ble_eq_true rfl⟩) (x_pv (w := (wM G B)) (a := 0) hW hX hK hE hS [.int (nI (tn q)), .int (w), .int (nI (sBest (x 5) n (tn q) w))] (Nat.le_of_ble_eq_true rfl) (shM_0 (G := G) (B := B)) rfl) rfl rfl hl.1 rfl (lv_room (Nat.le_of_ble_eq_true rfl)) dX8_best_48 ⟨Nat.zero_le _, Nat.zero_le _⟩) hS (fun H_13 lo_14 hX hS => ?_)
          refine lv_goto (tgt := 56) hx hb dX8_best_51 (by decide) ?_
          rw [← hQ]
          refine x_iret (v := sMade (x 5) n (tn q) w (sBest (x 5) n (tn q) w)) hx hb hr hX hS hlocks dX8_best_56 ?_
          show PT_X8_best _ _ _ _ _ _ _
          unfold PT_X8_best
          rw [if_pos c_3, if_neg (ne_of_true c_6), if_pos c_9, if_pos c_12]
          exact ⟨rfl, rfl⟩
      · refine lv_ldc (v := (-1000001)) hx hb hown (hts _ kX8_best_63) dX8_best_28 ?_
        rw [← hQ]
        refine x_iret (v := (-1000001)) hx hb hr hX hS hlocks dX8_best_30 ?_
        show PT_X8_best _ _ _ _ _ _ _
        unfold PT_X8_best
        rw [if_pos c_3, if_neg (ne_of_true c_6), if_neg (ne_of_false c_9)]
        exact ⟨rfl, rfl⟩
  · refine lv_ldc (v := (-1000002)) hx hb hown (hts _ kX8_best_185) dX8_best_7 ?_
    rw [← hQ]
    refine x_iret (v := (-1000002)) hx hb hr hX hS hlocks dX8_best_9 ?_
    show PT_X8_best _ _ _ _ _ _ _
    unfold PT_X8_best
    rw [if_neg (ne_of_true c_3)]
    exact ⟨rfl, rfl⟩

theorem kX8_loses_215 : (.constant RX8 215 (-1000000) : Cond) ∈ wsX8_loses := by decide +kernel
abbrev rmX8_loses : Room := { frames := 6, cells := 0, slots := 0, locals := 148 }
set_option maxHeartbeats 4000000 in
set_option maxRecDepth 100000 in
theorem c_X8_loses (l : Launch) (G : GG) (B : Nat) (hW : WOK (wM G B)) (x : Mem) {ml : Nat} {q : Nat} (w : Int32) {s : Nat} {n : Nat} (hN : x 5 0 = nI n) (hn8 : n ≤ 8) (hml9 : ml < 8) (hq : q < 4) (hs : s < 256) : Met l yX8_loses wsX8_loses rmX8_loses (XP G (wM G B) [.ref (B + (0)), .int (nI ml), .int (nI q), .int (w), .int (nI s)] x) (va_Qi (fun r u => r = (sLoss (x 5) n ml q w s) ∧ u = x) (XB G (wM G B)) (blkA B (B + 13))) 0 0 (blkA B (B + 13)) := by
  refine Met.ofW (cc := cX8_loses) (maxL := 6) (ret := (some .int)) (by decide) rfl ?_
  intro pp ee ss mm aa bb mt cd s1 Bd hml hv
  obtain ⟨hae, hX, hK, hE⟩ := hv
  have hx := Bd.exec
  have hb := Bd.bytes
  have hr := Bd.returns
  have hts := atoms_spec (ws := wsX8_loses) Bd.pre
  have hown : ss.vm.findClass RX8 = some mm.cls := findClass_of_methodNamed Bd.named
  have hlocks := Bd.notSynchronized
  have hS : va_S (blkA B (B + 13)) ss.heap ss.heap [] := va_S.rf
  have hl := lv_entry ([.ref (B + (0)), .int (nI ml), .int (nI q), .int (w), .int (nI s)]) (n := 6) (Nat.le_of_ble_eq_true rfl)
  subst hae
  rw [lg_entry_eq]
  generalize (lg_sl ([.ref (B + (0)), .int (nI ml), .int (nI q), .int (w), .int (nI s)]) ++ List.replicate (6 - (lg_sl ([.ref (B + (0)), .int (nI ml), .int (nI q), .int (w), .int (nI s)])).length) Slot.unset).toArray = ls at hl ⊢
  have hl : lv_has ls 6 [(0, .ref (B + (0))), (1, .int (nI ml)), (2, .int (nI q)), (3, .int (w)), (4, .int (nI s))] := hl
  generalize ([.ref (B + (0)), .int (nI ml), .int (nI q), .int (w), .int (nI s)] : List Value).toArray = aa at hts ⊢
  show W pp l ee rmX8_loses ss mm aa bb mt cd ss.heap [] 0 0 _ (F0 mm 0 ls [])
  generalize hQ : MQ bb (va_Qi (fun r u => r = (sLoss (x 5) n ml q w s) ∧ u = x) (XB G (wM G B)) (blkA B (B + 13))) aa ss 0 0 (blkA B (B + 13)) = Q
  refine lv_aload_n hx hb dX8_loses_0 rfl (lv_at hl 0 rfl) ?_
  refine lv_iload_n hx hb dX8_loses_1 rfl (lv_at hl 1 rfl) ?_
  refine lv_iload_n hx hb dX8_loses_2 rfl (lv_at hl 2 rfl) ?_
  refine lv_iload_n hx hb dX8_loses_3 rfl (lv_at hl 3 rfl) ?_
  refine lv_iconst (v := 0) hx hb dX8_loses_4 (by decide) ?_
  refine lv_ldc (v := (-1000000)) hx hb hown (hts _ kX8_loses_215) dX8_loses_5 ?_
  refine x_ip (w := (wM G B)) (x := x) (v := sGr (x 5) n ml q w 0 hNo) (va_runV (As := [.int (nI ml), .int (nI q), .int (w), .int (0), .int ((-1000000))]) (rest := []) ⟨hx, hb, hml, hown, hts⟩ (c_X8_grinds (l := l) (G := G) (B := B) (hW := hW) (x := x) (ml := ml) (q := q) (w := w) (s := 0) (h := hNo) (n := n) (hN := hN) (hn8 := hn8) (hml9 := (by omega)) (hq := (by omega)) (hs := (by omega))) (cwV 5 hts gX8_loses_X8_grinds rfl rfl rfl (by decide +kernel) ⟨Nat.le_of_ble_eq_true rfl, Nat.le_of_ble_eq_true rfl⟩) (x_pv (w := (wM G B)) (a := 0) hW hX hK hE hS [.int (nI ml), .int (nI q), .int (w), .int (0), .int ((-1000000))] (Nat.le_of_ble_eq_true rfl) (shM_0 (G := G) (B := B)) rfl) rfl rfl hl.1 rfl (lv_room (Nat.le_of_ble_eq_true rfl)) dX8_loses_7 ⟨Nat.zero_le _, Nat.zero_le _⟩) hS (fun H_1 lo_2 hX hS => ?_)
  refine lv_aload_n hx hb dX8_loses_10 rfl (lv_at hl 0 rfl) ?_
  refine lv_iload_n hx hb dX8_loses_11 rfl (lv_at hl 1 rfl) ?_
  refine lv_iload_n hx hb dX8_loses_12 rfl (lv_at hl 2 rfl) ?_
  refine lv_iload_n hx hb dX8_loses_13 rfl (lv_at hl 3 rfl) ?_
  refine lv_iload hx hb dX8_loses_14 (lv_at hl 4 rfl) ?_
  refine lv_ldc (v := (-1000000)) hx hb hown (hts _ kX8_loses_215) dX8_loses_16 ?_
  refine x_ip (w := (wM G B)) (x := x) (v := sGr (x 5) n ml q w s hNo) (va_runV (As := [.int (nI ml), .int (nI q), .int (w), .int (nI s), .int ((-1000000))]) (rest := [.int (sGr (x 5) n ml q w 0 hNo)]) ⟨hx, hb, hml, hown, hts⟩ (c_X8_grinds (l := l) (G := G) (B := B) (hW := hW) (x := x) (ml := ml) (q := q) (w := w) (s := s) (h := hNo) (n := n) (hN := hN) (hn8 := hn8) (hml9 := (by omega)) (hq := (by omega)) (hs := (by omega))) (cwV 5 hts gX8_loses_X8_grinds rfl rfl rfl (by decide +kernel) ⟨Nat.le_of_ble_eq_true rfl, Nat.le_of_ble_eq_true rfl⟩) (x_pv (w := (wM G B)) (a := 0) hW hX hK hE hS [.int (nI ml), .int (nI q), .int (w), .int (nI s), .int ((-1000000))] (Nat.le_of_ble_eq_true rfl) (shM_0 (G := G) (B := B)) rfl) rfl rfl hl.1 rfl (lv_room (Nat.le_of_ble_eq_true rfl)) dX8_loses_18 ⟨Nat.zero_le _, Nat.zero_le _⟩) hS (fun H_3 lo_4 hX hS => ?_)
  refine lv_isub hx hb dX8_loses_21 ?_
  refine lv_istore (lv' := [(5, .int ((sGr (x 5) n ml q w 0 hNo) - (sGr (x 5) n ml q w s hNo))), (0, .ref (B + (0))), (1, .int (nI ml)), (2, .int (nI q)), (3, .int (w)), (4, .int (nI s))]) hx hb dX8_loses_22 hl (by decide) rfl (fun ls hl => ?_)
  refine lv_iload hx hb dX8_loses_24 (lv_at hl 0 rfl) ?_
  have kJ_7 : ∀ (v_6 : Int32) (_ : v_6 = (if 0 ≤ ((sGr (x 5) n ml q w 0 hNo) - (sGr (x 5) n ml q w s hNo)) then ((sGr (x 5) n ml q w 0 hNo) - (sGr (x 5) n ml q w s hNo)) else (0 : Int32))) (H_8 : Heap) (lo_9 : List Loc) (_ : MR G (wM G B) x H_8) (_ : va_S (blkA B (B + 13)) ss.heap H_8 lo_9) (ls : Array Slot) (_ : lv_has ls 6 [(5, .int ((sGr (x 5) n ml q w 0 hNo) - (sGr (x 5) n ml q w s hNo))), (0, .ref (B + (0))), (1, .int (nI ml)), (2, .int (nI q)), (3, .int (w)), (4, .int (nI s))]), W pp l ee rmX8_loses ss mm aa bb mt cd H_8 lo_9 0 0 Q (F0 mm 35 ls [.int (v_6)]) := by
    intro v_6 ev_6 H_8 lo_9 hX hS ls hl
    rw [← hQ]
    refine x_iret (v := v_6) hx hb hr hX hS hlocks dX8_loses_35 ?_
    refine ⟨?_, rfl⟩
    rw [ev_6]
    exact jmax_ref
  refine lv_if_ge (tgt := 33) hx hb dX8_loses_26 (by decide) (fun c_5 => ?_) (fun c_5 => ?_)
  · refine lv_iload hx hb dX8_loses_33 (lv_at hl 0 rfl) ?_
    exact kJ_7 ((sGr (x 5) n ml q w 0 hNo) - (sGr (x 5) n ml q w s hNo)) (by rw [if_pos c_5]) _ _ hX hS ls (lv_sub hl [0, 1, 2, 3, 4, 5] rfl)
  · refine lv_iconst (v := 0) hx hb dX8_loses_29 (by decide) ?_
    refine lv_goto (tgt := 35) hx hb dX8_loses_30 (by decide) ?_
    exact kJ_7 (0) (by rw [if_neg c_5]) _ _ hX hS ls (lv_sub hl [0, 1, 2, 3, 4, 5] rfl)

def PT_X8_part (x : Mem) (q : Int32) (w : Int32) (m : Int32) (n : Nat) (r : Int32) (u : Mem) : Prop := (if ((decide (0 ≤ q) && decide (q ≤ 3)) && (decide (0 ≤ w) && decide (w ≤ 100))) = false then (r = (-1000001) ∧ u = x) else (if (decide (0 ≤ m) && decide (m < nI n)) = true then (if 0 ≤ (sRest (x 5) n (tn q) w n) then (if m = 0 then (r = (sLoss (x 5) n (tn m) (tn q) w (sBest (x 5) n (tn q) w)) + (sRest (x 5) n (tn q) w n) ∧ u = x) else (r = (sLoss (x 5) n (tn m) (tn q) w (sBest (x 5) n (tn q) w)) + 0 ∧ u = x)) else (r = (-1000000) ∧ u = x)) else (r = (-1000001) ∧ u = x)))
theorem kX8_part_63 : (.constant RX8 63 (-1000001) : Cond) ∈ wsX8_part := by decide +kernel
theorem kX8_part_22 : (.fieldLink RX8 22 "WindTakenModel" "now" "[I" : Cond) ∈ wsX8_part := by decide +kernel
theorem iX8_part_X8 : ∀ w ∈ wsX80, w ∈ wsX8_part := by decide +kernel
theorem kX8_part_215 : (.constant RX8 215 (-1000000) : Cond) ∈ wsX8_part := by decide +kernel
abbrev rmX8_part : Room := { frames := 8, cells := 0, slots := 0, locals := 200 }
set_option maxHeartbeats 4000000 in
set_option maxRecDepth 100000 in
theorem c_X8_part (l : Launch) (G : GG) (B : Nat) (hW : WOK (wM G B)) (x : Mem) (q : Int32) (w : Int32) (m : Int32) {n : Nat} (hN : x 5 0 = nI n) (hn8 : n ≤ 8) : Met l yX8_part wsX8_part rmX8_part (XP G (wM G B) [.ref (B + (0)), .int (q), .int (w), .int (m)] x) (va_Qi (fun r u => PT_X8_part x q w m n r u) (XB G (wM G B)) (blkA B (B + 13))) 0 0 (blkA B (B + 13)) := by
  refine Met.ofW (cc := cX8_part) (maxL := 7) (ret := (some .int)) (by decide) rfl ?_
  intro pp ee ss mm aa bb mt cd s1 Bd hml hv
  obtain ⟨hae, hX, hK, hE⟩ := hv
  have hx := Bd.exec
  have hb := Bd.bytes
  have hr := Bd.returns
  have hts := atoms_spec (ws := wsX8_part) Bd.pre
  have hown : ss.vm.findClass RX8 = some mm.cls := findClass_of_methodNamed Bd.named
  have hlocks := Bd.notSynchronized
  have hS : va_S (blkA B (B + 13)) ss.heap ss.heap [] := va_S.rf
  have hl := lv_entry ([.ref (B + (0)), .int (q), .int (w), .int (m)]) (n := 7) (Nat.le_of_ble_eq_true rfl)
  subst hae
  rw [lg_entry_eq]
  generalize (lg_sl ([.ref (B + (0)), .int (q), .int (w), .int (m)]) ++ List.replicate (7 - (lg_sl ([.ref (B + (0)), .int (q), .int (w), .int (m)])).length) Slot.unset).toArray = ls at hl ⊢
  have hl : lv_has ls 7 [(0, .ref (B + (0))), (1, .int (q)), (2, .int (w)), (3, .int (m))] := hl
  generalize ([.ref (B + (0)), .int (q), .int (w), .int (m)] : List Value).toArray = aa at hts ⊢
  show W pp l ee rmX8_part ss mm aa bb mt cd ss.heap [] 0 0 _ (F0 mm 0 ls [])
  generalize hQ : MQ bb (va_Qi (fun r u => PT_X8_part x q w m n r u) (XB G (wM G B)) (blkA B (B + 13))) aa ss 0 0 (blkA B (B + 13)) = Q
  refine lv_iload_n hx hb dX8_part_0 rfl (lv_at hl 1 rfl) ?_
  refine lv_iload_n hx hb dX8_part_1 rfl (lv_at hl 2 rfl) ?_
  refine x_ip (w := (wM G B)) (x := x) (v := bI ((decide (0 ≤ q) && decide (q ≤ 3)) && (decide (0 ≤ w) && decide (w ≤ 100)))) (va_runS (As := [.int (q), .int (w)]) (rest := []) ⟨hx, hb, hml, hown, hts⟩ (c_X8_isWind (l := l) (G := G) (B := B) (hW := hW) (x := x) (q := q) (v := w)) (va_cwS 2 hts gX8_part_X8_isWind rfl rfl rfl (by decide +kernel) ⟨Nat.le_of_ble_eq_true rfl, Nat.le_of_ble_eq_true rfl⟩) (x_ps (w := (wM G B)) hW hX hK hE hS [.int (q), .int (w)]) rfl rfl hl.1 rfl (lv_room (Nat.le_of_ble_eq_true rfl)) dX8_part_2 ⟨Nat.zero_le _, Nat.zero_le _⟩) hS (fun H_1 lo_2 hX hS => ?_)
  refine x_ifeq (tgt := 16) hx hb dX8_part_5 (by decide) (fun c_3 => ?_) (fun c_3 => ?_)
  · refine lv_ldc (v := (-1000001)) hx hb hown (hts _ kX8_part_63) dX8_part_16 ?_
    rw [← hQ]
    refine x_iret (v := (-1000001)) hx hb hr hX hS hlocks dX8_part_18 ?_
    show PT_X8_part _ _ _ _ _ _ _
    unfold PT_X8_part
    rw [if_pos c_3]
    exact ⟨rfl, rfl⟩
  · obtain ⟨hqe, hq4⟩ := windQ c_3
    refine lv_aload_n hx hb dX8_part_8 rfl (lv_at hl 0 rfl) ?_
    refine lv_iload_n hx hb dX8_part_9 rfl (lv_at hl 3 rfl) ?_
    refine x_ip (w := (wM G B)) (x := x) (v := bI (decide (0 ≤ m) && decide (m < nI n))) (va_runV (As := [.int (m)]) (rest := []) ⟨hx, hb, hml, hown, hts⟩ (c_X8_isMill (l := l) (G := G) (B := B) (hW := hW) (x := x) (v := m) (n := n) (hN := hN) (hn8 := hn8)) (cwV 1 hts gX8_part_X8_isMill rfl rfl rfl (by decide +kernel) ⟨Nat.le_of_ble_eq_true rfl, Nat.le_of_ble_eq_true rfl⟩) (x_pv (w := (wM G B)) (a := 0) hW hX hK hE hS [.int (m)] (Nat.le_of_ble_eq_true rfl) (shM_0 (G := G) (B := B)) rfl) rfl rfl hl.1 rfl (lv_room (Nat.le_of_ble_eq_true rfl)) dX8_part_10 ⟨Nat.zero_le _, Nat.zero_le _⟩) hS (fun H_4 lo_5 hX hS => ?_)
    refine x_ifne (tgt := 19) hx hb dX8_part_13 (by decide) (fun c_6 => ?_) (fun c_6 => ?_)
    · obtain ⟨hme, hmn⟩ := hasM (c := nI n) rfl hn8 c_6
      refine lv_aload_n hx hb dX8_part_19 rfl (lv_at hl 0 rfl) ?_
      refine lv_iload_n hx hb dX8_part_20 rfl (lv_at hl 1 rfl) ?_
      refine lv_iload_n hx hb dX8_part_21 rfl (lv_at hl 2 rfl) ?_
      refine W.eq (g2 := F0 mm 22 ls [.int (w), .int (nI (tn q)), .ref (B + (0))]) (congrArg (fun z9 : Int32 => F0 mm 22 ls [.int (w), .int (z9), .ref (B + (0))]) hqe) ?_
      refine x_ip (w := (wM G B)) (x := x) (v := nI (sBest (x 5) n (tn q) w)) (va_runV (As := [.int (nI (tn q)), .int (w)]) (rest := []) ⟨hx, hb, hml, hown, hts⟩ (c_X8_bestSet (l := l) (G := G) (B := B) (hW := hW) (x := x) (q := tn q) (w := w) (n := n) (hN := hN) (hn8 := hn8) (hq := (by omega))) (cwV 2 hts gX8_part_X8_bestSet rfl rfl rfl (by decide +kernel) ⟨Nat.le_of_ble_eq_true rfl, Nat.le_of_ble_eq_true rfl⟩) (x_pv (w := (wM G B)) (a := 0) hW hX hK hE hS [.int (nI (tn q)), .int (w)] (Nat.le_of_ble_eq_true rfl) (shM_0 (G := G) (B := B)) rfl) rfl rfl hl.1 rfl (lv_room (Nat.le_of_ble_eq_true rfl)) dX8_part_22 ⟨Nat.zero_le _, Nat.zero_le _⟩) hS (fun H_7 lo_8 hX hS => ?_)
      have hbs9 : sBest (x 5) n (tn q) w < 256 := Nat.lt_of_le_of_lt (bestP_le _ _) (by have := pow8 hn8; omega)
      refine W.eq (g2 := F0 mm 25 ls [.int (nI (sBest (x 5) n (tn q) w))]) (congrArg (fun z9 : Int32 => F0 mm 25 ls [.int (z9)]) rfl) ?_
      refine lv_istore (lv' := [(4, .int (nI (sBest (x 5) n (tn q) w))), (0, .ref (B + (0))), (1, .int (q)), (2, .int (w)), (3, .int (m))]) hx hb dX8_part_25 hl (by decide) rfl (fun ls hl => ?_)
      refine lv_aload_n hx hb dX8_part_27 rfl (lv_at hl 1 rfl) ?_
      refine lv_iload_n hx hb dX8_part_28 rfl (lv_at hl 2 rfl) ?_
      refine lv_iload_n hx hb dX8_part_29 rfl (lv_at hl 3 rfl) ?_
      refine lv_iload hx hb dX8_part_30 (lv_at hl 0 rfl) ?_
      refine W.eq (g2 := F0 mm 32 ls [.int (nI (sBest (x 5) n (tn q) w)), .int (w), .int (nI (tn q)), .ref (B + (0))]) (congrArg (fun z9 : Int32 => F0 mm 32 ls [.int (nI (sBest (x 5) n (tn q) w)), .int (w), .int (z9), .ref (B + (0))]) hqe) ?_
      refine x_ip (w := (wM G B)) (x := x) (v := sMade (x 5) n (tn q) w (sBest (x 5) n (tn q) w)) (va_runV (As := [.int (nI (tn q)), .int (w), .int (nI (sBest (x 5) n (tn q) w))]) (rest := []) ⟨hx, hb, hml, hown, hts⟩ (c_X8_madeBy (l := l) (G := G) (B := B) (hW := hW) (x := x) (q := tn q) (w := w) (s := sBest (x 5) n (tn q) w) (n := n) (hN := hN) (hn8 := hn8) (hq := (by omega)) (hs := (by omega))) (cwV 3 hts gX8_part_X8_madeBy rfl rfl rfl (by decide +kernel) ⟨Nat.le_of_ble_eq_true rfl, Nat.le_of_ble_eq_true rfl⟩) (x_pv (w := (wM G B)) (a := 0) hW hX hK hE hS [.int (nI (tn q)), .int (w), .int (nI (sBest (x 5) n (tn q) w))] (Nat.le_of_ble_eq_true rfl) (shM_0 (G := G) (B := B)) rfl) rfl rfl hl.1 rfl (lv_room (Nat.le_of_ble_eq_true rfl)) dX8_part_32 ⟨Nat.zero_le _, Nat.zero_le _⟩) hS (fun H_9 lo_10 hX hS => ?_)
      refine lv_aload_n hx hb dX8_part_35 rfl (lv_at hl 1 rfl) ?_
      refine lv_iload_n hx hb dX8_part_36 rfl (lv_at hl 2 rfl) ?_
      refine lv_iload_n hx hb dX8_part_37 rfl (lv_at hl 3 rfl) ?_
      refine lv_iconst (v := 0) hx hb dX8_part_38 (by decide) ?_
      refine W.eq (g2 := F0 mm 39 ls [.int (0), .int (w), .int (nI (tn q)), .ref (B + (0)), .int (sMade (x 5) n (tn q) w (sBest (x 5) n (tn q) w))]) (congrArg (fun z9 : Int32 => F0 mm 39 ls [.int (0), .int (w), .int (z9), .ref (B + (0)), .int (sMade (x 5) n (tn q) w (sBest (x 5) n (tn q) w))]) hqe) ?_
      refine x_ip (w := (wM G B)) (x := x) (v := sMade (x 5) n (tn q) w 0) (va_runV (As := [.int (nI (tn q)), .int (w), .int (0)]) (rest := [.int (sMade (x 5) n (tn q) w (sBest (x 5) n (tn q) w))]) ⟨hx, hb, hml, hown, hts⟩ (c_X8_madeBy (l := l) (G := G) (B := B) (hW := hW) (x := x) (q := tn q) (w := w) (s := 0) (n := n) (hN := hN) (hn8 := hn8) (hq := (by omega)) (hs := (by omega))) (cwV 3 hts gX8_part_X8_madeBy rfl rfl rfl (by decide +kernel) ⟨Nat.le_of_ble_eq_true rfl, Nat.le_of_ble_eq_true rfl⟩) (x_pv (w := (wM G B)) (a := 0) hW hX hK hE hS [.int (nI (tn q)), .int (w), .int (0)] (Nat.le_of_ble_eq_true rfl) (shM_0 (G := G) (B := B)) rfl) rfl rfl hl.1 rfl (lv_room (Nat.le_of_ble_eq_true rfl)) dX8_part_39 ⟨Nat.zero_le _, Nat.zero_le _⟩) hS (fun H_11 lo_12 hX hS => ?_)
      refine lv_isub hx hb dX8_part_42 ?_
      refine lv_istore (lv' := [(5, .int ((sMade (x 5) n (tn q) w (sBest (x 5) n (tn q) w)) - (sMade (x 5) n (tn q) w 0))), (4, .int (nI (sBest (x 5) n (tn q) w))), (0, .ref (B + (0))), (1, .int (q)), (2, .int (w)), (3, .int (m))]) hx hb dX8_part_43 hl (by decide) rfl (fun ls hl => ?_)
      refine lv_iconst (v := 0) hx hb dX8_part_45 (by decide) ?_
      refine lv_istore (lv' := [(6, .int (0)), (5, .int ((sMade (x 5) n (tn q) w (sBest (x 5) n (tn q) w)) - (sMade (x 5) n (tn q) w 0))), (4, .int (nI (sBest (x 5) n (tn q) w))), (0, .ref (B + (0))), (1, .int (q)), (2, .int (w)), (3, .int (m))]) hx hb dX8_part_46 hl (by decide) rfl (fun ls hl => ?_)
      have L_13 : ∀ (n9 : Nat) (i : Nat) (sm : Int32)  (_ : n9 = n - i) (_ : i ≤ n ∧ sm = sRest (x 5) n (tn q) w i) (H_14 : Heap) (lo_15 : List Loc) (_ : MR G (wM G B) x H_14) (_ : va_S (blkA B (B + 13)) ss.heap H_14 lo_15) (ls : Array Slot) (_ : lv_has ls 7 [(6, .int (nI i)), (5, .int (sm)), (4, .int (nI (sBest (x 5) n (tn q) w))), (0, .ref (B + (0))), (1, .int (q)), (2, .int (w)), (3, .int (m))]), W pp l ee rmX8_part ss mm aa bb mt cd H_14 lo_15 0 0 Q (F0 mm 48 ls []) := by
        intro n9
        induction n9 using Nat.strongRecOn with
        | _ n9 ih => 
          have ih_48 := ih
          intro i sm hn9 hI H_14 lo_15 hX hS ls hl
          obtain ⟨hi, hsm⟩ := hI
          refine lv_iload hx hb dX8_part_48 (lv_at hl 0 rfl) ?_
          refine lv_aload_n hx hb dX8_part_50 rfl (lv_at hl 3 rfl) ?_
          refine x_get (w := (wM G B)) (a := 0) (v := .ref (B + (5))) hx hb hts iX8_part_X8 hown hK hX (Nat.le_of_ble_eq_true rfl) (shM_0 (G := G) (B := B)) rfl 7 (by decide) (hts _ kX8_part_22) (fun _ h9 => h9) rfl dX8_part_51 ?_
          refine lv_iconst (v := 0) hx hb dX8_part_54 (by decide) ?_
          refine x_iald (w := (wM G B)) (a := 5) (n := 93) (j := 0) hx hb hK hX (Nat.le_of_ble_eq_true rfl) (shM_a (G := G) (B := B) (a := 5) (f := x (5)) (by decide)) rfl (by decide) (by decide) dX8_part_55 ?_
          refine lv_icmp_ge (tgt := 80) hx hb dX8_part_56 (by decide) (fun c_16 => ?_) (fun c_16 => ?_)
          · have nc_16 := (n_le (a := n) (b := i) hN rfl (by omega) (by omega)).mp c_16
            have e9 : i = n := by omega
            rw [e9] at hsm
            subst hsm
            refine lv_iload hx hb dX8_part_80 (lv_at hl 1 rfl) ?_
            refine lv_if_ge (tgt := 90) hx hb dX8_part_82 (by decide) (fun c_17 => ?_) (fun c_17 => ?_)
            · refine lv_aload_n hx hb dX8_part_90 rfl (lv_at hl 3 rfl) ?_
              refine lv_iload_n hx hb dX8_part_91 rfl (lv_at hl 6 rfl) ?_
              refine lv_iload_n hx hb dX8_part_92 rfl (lv_at hl 4 rfl) ?_
              refine lv_iload_n hx hb dX8_part_93 rfl (lv_at hl 5 rfl) ?_
              refine lv_iload hx hb dX8_part_94 (lv_at hl 2 rfl) ?_
              refine W.eq (g2 := F0 mm 96 ls [.int (nI (sBest (x 5) n (tn q) w)), .int (w), .int (q), .int (nI (tn m)), .ref (B + (0))]) (congrArg (fun z9 : Int32 => F0 mm 96 ls [.int (nI (sBest (x 5) n (tn q) w)), .int (w), .int (q), .int (z9), .ref (B + (0))]) hme) ?_
              refine W.eq (g2 := F0 mm 96 ls [.int (nI (sBest (x 5) n (tn q) w)), .int (w), .int (nI (tn q)), .int (nI (tn m)), .ref (B + (0))]) (congrArg (fun z9 : Int32 => F0 mm 96 ls [.int (nI (sBest (x 5) n (tn q) w)), .int (w), .int (z9), .int (nI (tn m)), .ref (B + (0))]) hqe) ?_
              refine x_ip (w := (wM G B)) (x := x) (v := sLoss (x 5) n (tn m) (tn q) w (sBest (x 5) n (tn q) w)) (va_runV (As := [.int (nI (tn m)), .int (nI (tn q)), .int (w), .int (nI (sBest (x 5) n (tn q) w))]) (rest := []) ⟨hx, hb, hml, hown, hts⟩ (c_X8_loses (l := l) (G := G) (B := B) (hW := hW) (x := x) (ml := tn m) (q := tn q) (w := w) (s := sBest (x 5) n (tn q) w) (n := n) (hN := hN) (hn8 := hn8) (hml9 := (by omega)) (hq := (by omega)) (hs := (by omega))) (cwV 4 hts gX8_part_X8_loses rfl rfl rfl (by decide +kernel) ⟨Nat.le_of_ble_eq_true rfl, Nat.le_of_ble_eq_true rfl⟩) (x_pv (w := (wM G B)) (a := 0) hW hX hK hE hS [.int (nI (tn m)), .int (nI (tn q)), .int (w), .int (nI (sBest (x 5) n (tn q) w))] (Nat.le_of_ble_eq_true rfl) (shM_0 (G := G) (B := B)) rfl) rfl rfl hl.1 rfl (lv_room (Nat.le_of_ble_eq_true rfl)) dX8_part_96 ⟨Nat.zero_le _, Nat.zero_le _⟩) hS (fun H_18 lo_19 hX hS => ?_)
              refine lv_iload_n hx hb dX8_part_99 rfl (lv_at hl 6 rfl) ?_
              refine lv_if_ne (tgt := 108) hx hb dX8_part_100 (by decide) (fun c_20 => ?_) (fun c_20 => ?_)
              · have nc_20 : ¬ (tn m) = 0 := fun q => c_20 ((n_eq (a := tn m) (b := 0) hme rfl (by omega) (by omega)).mpr q)
                refine lv_iconst (v := 0) hx hb dX8_part_108 (by decide) ?_
                refine lv_iadd hx hb dX8_part_109 ?_
                rw [← hQ]
                refine x_iret (v := (sLoss (x 5) n (tn m) (tn q) w (sBest (x 5) n (tn q) w)) + 0) hx hb hr hX hS hlocks dX8_part_110 ?_
                show PT_X8_part _ _ _ _ _ _ _
                unfold PT_X8_part
                rw [if_neg (ne_of_true c_3), if_pos c_6, if_pos c_17, if_neg c_20]
                exact ⟨rfl, rfl⟩
              · have nc_20 := (n_eq (a := tn m) (b := 0) hme rfl (by omega) (by omega)).mp c_20
                refine lv_iload hx hb dX8_part_103 (lv_at hl 1 rfl) ?_
                refine lv_goto (tgt := 109) hx hb dX8_part_105 (by decide) ?_
                refine lv_iadd hx hb dX8_part_109 ?_
                rw [← hQ]
                refine x_iret (v := (sLoss (x 5) n (tn m) (tn q) w (sBest (x 5) n (tn q) w)) + (sRest (x 5) n (tn q) w n)) hx hb hr hX hS hlocks dX8_part_110 ?_
                show PT_X8_part _ _ _ _ _ _ _
                unfold PT_X8_part
                rw [if_neg (ne_of_true c_3), if_pos c_6, if_pos c_17, if_pos c_20]
                exact ⟨rfl, rfl⟩
            · refine lv_ldc (v := (-1000000)) hx hb hown (hts _ kX8_part_215) dX8_part_85 ?_
              refine lv_goto (tgt := 110) hx hb dX8_part_87 (by decide) ?_
              rw [← hQ]
              refine x_iret (v := (-1000000)) hx hb hr hX hS hlocks dX8_part_110 ?_
              show PT_X8_part _ _ _ _ _ _ _
              unfold PT_X8_part
              rw [if_neg (ne_of_true c_3), if_pos c_6, if_neg c_17]
              exact ⟨rfl, rfl⟩
          · have nc_16 := Nat.not_le.mp (fun q => c_16 ((n_le (a := n) (b := i) hN rfl (by omega) (by omega)).mpr q))
            refine lv_iload hx hb dX8_part_59 (lv_at hl 1 rfl) ?_
            refine lv_aload_n hx hb dX8_part_61 rfl (lv_at hl 3 rfl) ?_
            refine lv_iload hx hb dX8_part_62 (lv_at hl 0 rfl) ?_
            refine lv_iload_n hx hb dX8_part_64 rfl (lv_at hl 4 rfl) ?_
            refine lv_iload_n hx hb dX8_part_65 rfl (lv_at hl 5 rfl) ?_
            refine lv_iload hx hb dX8_part_66 (lv_at hl 2 rfl) ?_
            refine W.eq (g2 := F0 mm 68 ls [.int (nI (sBest (x 5) n (tn q) w)), .int (w), .int (nI (tn q)), .int (nI i), .ref (B + (0)), .int (sm)]) (congrArg (fun z9 : Int32 => F0 mm 68 ls [.int (nI (sBest (x 5) n (tn q) w)), .int (w), .int (z9), .int (nI i), .ref (B + (0)), .int (sm)]) hqe) ?_
            refine x_ip (w := (wM G B)) (x := x) (v := sLoss (x 5) n i (tn q) w (sBest (x 5) n (tn q) w)) (va_runV (As := [.int (nI i), .int (nI (tn q)), .int (w), .int (nI (sBest (x 5) n (tn q) w))]) (rest := [.int (sm)]) ⟨hx, hb, hml, hown, hts⟩ (c_X8_loses (l := l) (G := G) (B := B) (hW := hW) (x := x) (ml := i) (q := tn q) (w := w) (s := sBest (x 5) n (tn q) w) (n := n) (hN := hN) (hn8 := hn8) (hml9 := (by omega)) (hq := (by omega)) (hs := (by omega))) (cwV 4 hts gX8_part_X8_loses rfl rfl rfl (by decide +kernel) ⟨Nat.le_of_ble_eq_true rfl, Nat.le_of_ble_eq_true rfl⟩) (x_pv (w := (wM G B)) (a := 0) hW hX hK hE hS [.int (nI i), .int (nI (tn q)), .int (w), .int (nI (sBest (x 5) n (tn q) w))] (Nat.le_of_ble_eq_true rfl) (shM_0 (G := G) (B := B)) rfl) rfl rfl hl.1 rfl (lv_room (Nat.le_of_ble_eq_true rfl)) dX8_part_68 ⟨Nat.zero_le _, Nat.zero_le _⟩) hS (fun H_21 lo_22 hX hS => ?_)
            refine lv_isub hx hb dX8_part_71 ?_
            refine lv_istore (lv' := [(5, .int (sm - (sLoss (x 5) n i (tn q) w (sBest (x 5) n (tn q) w)))), (6, .int (nI i)), (4, .int (nI (sBest (x 5) n (tn q) w))), (0, .ref (B + (0))), (1, .int (q)), (2, .int (w)), (3, .int (m))]) hx hb dX8_part_72 hl (by decide) rfl (fun ls hl => ?_)
            refine lv_iinc (v := nI (i + 1)) (lv' := [(6, .int (nI (i + 1))), (5, .int (sm - (sLoss (x 5) n i (tn q) w (sBest (x 5) n (tn q) w)))), (4, .int (nI (sBest (x 5) n (tn q) w))), (0, .ref (B + (0))), (1, .int (q)), (2, .int (w)), (3, .int (m))]) hx hb dX8_part_74 hl (k := 1) rfl (inc_nI _) (by decide) rfl (fun ls hl => ?_)
            refine lv_goto (tgt := 48) hx hb dX8_part_77 (by decide) ?_
            exact ih_48 _ (by omega) (i + 1) (sm - (sLoss (x 5) n i (tn q) w (sBest (x 5) n (tn q) w))) rfl ⟨by omega, by rw [hsm]; rfl⟩ _ _ hX hS ls (lv_sub hl [0, 1, 2, 3, 4, 5, 6] rfl)
      exact L_13 _ (0) ((sMade (x 5) n (tn q) w (sBest (x 5) n (tn q) w)) - (sMade (x 5) n (tn q) w 0)) rfl ⟨Nat.zero_le _, rfl⟩ _ _ hX hS ls (lv_sub hl [0, 1, 2, 3, 4, 5, 6] rfl)
    · refine lv_ldc (v := (-1000001)) hx hb hown (hts _ kX8_part_63) dX8_part_16 ?_
      rw [← hQ]
      refine x_iret (v := (-1000001)) hx hb hr hX hS hlocks dX8_part_18 ?_
      show PT_X8_part _ _ _ _ _ _ _
      unfold PT_X8_part
      rw [if_neg (ne_of_true c_3), if_neg (ne_of_false c_6)]
      exact ⟨rfl, rfl⟩

def PT_X8_still (x : Mem) (q : Int32) (w : Int32) (a : Int32) (b2 : Int32) (wh : Int32) (n : Nat) (r : Int32) (u : Mem) : Prop := (if ((decide (0 ≤ q) && decide (q ≤ 3)) && (decide (0 ≤ w) && decide (w ≤ 100))) = false then (r = (-1000001) ∧ u = x) else (if (decide (0 ≤ a) && decide (a < nI n)) = false then (r = (-1000001) ∧ u = x) else (if (decide (0 ≤ b2) && decide (b2 < nI n)) = false then (r = (-1000001) ∧ u = x) else (if a = b2 then (r = (-1000001) ∧ u = x) else (if (decide (((0 : Int32)) ≤ ((wh : Int32))) && decide (((wh : Int32)) ≤ ((2 : Int32)))) = true then (if wh = 0 then (r = (sGr (x 5) n (tn b2) (tn q) w (2 ^ tn a) hNo) - (sGr (x 5) n (tn b2) (tn q) w 0 hNo) ∧ u = x) else (if wh = 1 then (r = sGr (x 5) n (tn a) (tn q) w 0 hNo ∧ u = x) else (if (((sGr (x 5) n (tn b2) (tn q) w (2 ^ tn a) hNo) - (sGr (x 5) n (tn b2) (tn q) w 0 hNo)) - (sGr (x 5) n (tn a) (tn q) w 0 hNo)) < (x (5) 4) then (r = 0 ∧ u = x) else (r = 1 ∧ u = x)))) else (r = (-1000001) ∧ u = x))))))
theorem kX8_still_63 : (.constant RX8 63 (-1000001) : Cond) ∈ wsX8_still := by decide +kernel
theorem kX8_still_61 : (.constantLong RX8 61 (2) : Cond) ∈ wsX8_still := by decide +kernel
theorem kX8_still_215 : (.constant RX8 215 (-1000000) : Cond) ∈ wsX8_still := by decide +kernel
theorem kX8_still_22 : (.fieldLink RX8 22 "WindTakenModel" "now" "[I" : Cond) ∈ wsX8_still := by decide +kernel
theorem iX8_still_X8 : ∀ w ∈ wsX80, w ∈ wsX8_still := by decide +kernel
abbrev rmX8_still : Room := { frames := 6, cells := 0, slots := 0, locals := 148 }
set_option maxHeartbeats 4000000 in
set_option maxRecDepth 100000 in
theorem c_X8_still (l : Launch) (G : GG) (B : Nat) (hW : WOK (wM G B)) (x : Mem) (q : Int32) (w : Int32) (a : Int32) (b2 : Int32) (wh : Int32) {n : Nat} (hN : x 5 0 = nI n) (hn8 : n ≤ 8) : Met l yX8_still wsX8_still rmX8_still (XP G (wM G B) [.ref (B + (0)), .int (q), .int (w), .int (a), .int (b2), .int (wh)] x) (va_Qi (fun r u => PT_X8_still x q w a b2 wh n r u) (XB G (wM G B)) (blkA B (B + 13))) 0 0 (blkA B (B + 13)) := by
  refine Met.ofW (cc := cX8_still) (maxL := 8) (ret := (some .int)) (by decide) rfl ?_
  intro pp ee ss mm aa bb mt cd s1 Bd hml hv
  obtain ⟨hae, hX, hK, hE⟩ := hv
  have hx := Bd.exec
  have hb := Bd.bytes
  have hr := Bd.returns
  have hts := atoms_spec (ws := wsX8_still) Bd.pre
  have hown : ss.vm.findClass RX8 = some mm.cls := findClass_of_methodNamed Bd.named
  have hlocks := Bd.notSynchronized
  have hS : va_S (blkA B (B + 13)) ss.heap ss.heap [] := va_S.rf
  have hl := lv_entry ([.ref (B + (0)), .int (q), .int (w), .int (a), .int (b2), .int (wh)]) (n := 8) (Nat.le_of_ble_eq_true rfl)
  subst hae
  rw [lg_entry_eq]
  generalize (lg_sl ([.ref (B + (0)), .int (q), .int (w), .int (a), .int (b2), .int (wh)]) ++ List.replicate (8 - (lg_sl ([.ref (B + (0)), .int (q), .int (w), .int (a), .int (b2), .int (wh)])).length) Slot.unset).toArray = ls at hl ⊢
  have hl : lv_has ls 8 [(0, .ref (B + (0))), (1, .int (q)), (2, .int (w)), (3, .int (a)), (4, .int (b2)), (5, .int (wh))] := hl
  generalize ([.ref (B + (0)), .int (q), .int (w), .int (a), .int (b2), .int (wh)] : List Value).toArray = aa at hts ⊢
  show W pp l ee rmX8_still ss mm aa bb mt cd ss.heap [] 0 0 _ (F0 mm 0 ls [])
  generalize hQ : MQ bb (va_Qi (fun r u => PT_X8_still x q w a b2 wh n r u) (XB G (wM G B)) (blkA B (B + 13))) aa ss 0 0 (blkA B (B + 13)) = Q
  refine lv_iload_n hx hb dX8_still_0 rfl (lv_at hl 1 rfl) ?_
  refine lv_iload_n hx hb dX8_still_1 rfl (lv_at hl 2 rfl) ?_
  refine x_ip (w := (wM G B)) (x := x) (v := bI ((decide (0 ≤ q) && decide (q ≤ 3)) && (decide (0 ≤ w) && decide (w ≤ 100)))) (va_runS (As := [.int (q), .int (w)]) (rest := []) ⟨hx, hb, hml, hown, hts⟩ (c_X8_isWind (l := l) (G := G) (B := B) (hW := hW) (x := x) (q := q) (v := w)) (va_cwS 2 hts gX8_still_X8_isWind rfl rfl rfl (by decide +kernel) ⟨Nat.le_of_ble_eq_true rfl, Nat.le_of_ble_eq_true rfl⟩) (x_ps (w := (wM G B)) hW hX hK hE hS [.int (q), .int (w)]) rfl rfl hl.1 rfl (lv_room (Nat.le_of_ble_eq_true rfl)) dX8_still_2 ⟨Nat.zero_le _, Nat.zero_le _⟩) hS (fun H_1 lo_2 hX hS => ?_)
  refine x_ifeq (tgt := 44) hx hb dX8_still_5 (by decide) (fun c_3 => ?_) (fun c_3 => ?_)
  · refine lv_ldc (v := (-1000001)) hx hb hown (hts _ kX8_still_63) dX8_still_44 ?_
    rw [← hQ]
    refine x_iret (v := (-1000001)) hx hb hr hX hS hlocks dX8_still_46 ?_
    show PT_X8_still _ _ _ _ _ _ _ _ _
    unfold PT_X8_still
    rw [if_pos c_3]
    exact ⟨rfl, rfl⟩
  · obtain ⟨hqe, hq4⟩ := windQ c_3
    refine lv_aload_n hx hb dX8_still_8 rfl (lv_at hl 0 rfl) ?_
    refine lv_iload_n hx hb dX8_still_9 rfl (lv_at hl 3 rfl) ?_
    refine x_ip (w := (wM G B)) (x := x) (v := bI (decide (0 ≤ a) && decide (a < nI n))) (va_runV (As := [.int (a)]) (rest := []) ⟨hx, hb, hml, hown, hts⟩ (c_X8_isMill (l := l) (G := G) (B := B) (hW := hW) (x := x) (v := a) (n := n) (hN := hN) (hn8 := hn8)) (cwV 1 hts gX8_still_X8_isMill rfl rfl rfl (by decide +kernel) ⟨Nat.le_of_ble_eq_true rfl, Nat.le_of_ble_eq_true rfl⟩) (x_pv (w := (wM G B)) (a := 0) hW hX hK hE hS [.int (a)] (Nat.le_of_ble_eq_true rfl) (shM_0 (G := G) (B := B)) rfl) rfl rfl hl.1 rfl (lv_room (Nat.le_of_ble_eq_true rfl)) dX8_still_10 ⟨Nat.zero_le _, Nat.zero_le _⟩) hS (fun H_4 lo_5 hX hS => ?_)
    refine x_ifeq (tgt := 44) hx hb dX8_still_13 (by decide) (fun c_6 => ?_) (fun c_6 => ?_)
    · refine lv_ldc (v := (-1000001)) hx hb hown (hts _ kX8_still_63) dX8_still_44 ?_
      rw [← hQ]
      refine x_iret (v := (-1000001)) hx hb hr hX hS hlocks dX8_still_46 ?_
      show PT_X8_still _ _ _ _ _ _ _ _ _
      unfold PT_X8_still
      rw [if_neg (ne_of_true c_3), if_pos c_6]
      exact ⟨rfl, rfl⟩
    · obtain ⟨hae, han⟩ := hasM (c := nI n) rfl hn8 c_6
      have hsa := shla hae (show tn a < 8 by omega)
      have hpa : 2 ^ tn a < 256 := Nat.lt_of_lt_of_le (Nat.pow_lt_pow_right (by decide) (show tn a < 8 by omega)) (by decide)
      refine lv_aload_n hx hb dX8_still_16 rfl (lv_at hl 0 rfl) ?_
      refine lv_iload hx hb dX8_still_17 (lv_at hl 4 rfl) ?_
      refine x_ip (w := (wM G B)) (x := x) (v := bI (decide (0 ≤ b2) && decide (b2 < nI n))) (va_runV (As := [.int (b2)]) (rest := []) ⟨hx, hb, hml, hown, hts⟩ (c_X8_isMill (l := l) (G := G) (B := B) (hW := hW) (x := x) (v := b2) (n := n) (hN := hN) (hn8 := hn8)) (cwV 1 hts gX8_still_X8_isMill rfl rfl rfl (by decide +kernel) ⟨Nat.le_of_ble_eq_true rfl, Nat.le_of_ble_eq_true rfl⟩) (x_pv (w := (wM G B)) (a := 0) hW hX hK hE hS [.int (b2)] (Nat.le_of_ble_eq_true rfl) (shM_0 (G := G) (B := B)) rfl) rfl rfl hl.1 rfl (lv_room (Nat.le_of_ble_eq_true rfl)) dX8_still_19 ⟨Nat.zero_le _, Nat.zero_le _⟩) hS (fun H_7 lo_8 hX hS => ?_)
      refine x_ifeq (tgt := 44) hx hb dX8_still_22 (by decide) (fun c_9 => ?_) (fun c_9 => ?_)
      · refine lv_ldc (v := (-1000001)) hx hb hown (hts _ kX8_still_63) dX8_still_44 ?_
        rw [← hQ]
        refine x_iret (v := (-1000001)) hx hb hr hX hS hlocks dX8_still_46 ?_
        show PT_X8_still _ _ _ _ _ _ _ _ _
        unfold PT_X8_still
        rw [if_neg (ne_of_true c_3), if_neg (ne_of_true c_6), if_pos c_9]
        exact ⟨rfl, rfl⟩
      · obtain ⟨hb2e, hb2n⟩ := hasM (c := nI n) rfl hn8 c_9
        refine lv_iload_n hx hb dX8_still_25 rfl (lv_at hl 3 rfl) ?_
        refine lv_iload hx hb dX8_still_26 (lv_at hl 4 rfl) ?_
        refine lv_icmp_eq (tgt := 44) hx hb dX8_still_28 (by decide) (fun c_10 => ?_) (fun c_10 => ?_)
        · have nc_10 := (n_eq (a := tn a) (b := tn b2) hae hb2e (by omega) (by omega)).mp c_10
          refine lv_ldc (v := (-1000001)) hx hb hown (hts _ kX8_still_63) dX8_still_44 ?_
          rw [← hQ]
          refine x_iret (v := (-1000001)) hx hb hr hX hS hlocks dX8_still_46 ?_
          show PT_X8_still _ _ _ _ _ _ _ _ _
          unfold PT_X8_still
          rw [if_neg (ne_of_true c_3), if_neg (ne_of_true c_6), if_neg (ne_of_true c_9), if_pos c_10]
          exact ⟨rfl, rfl⟩
        · have nc_10 : ¬ (tn a) = (tn b2) := fun q => c_10 ((n_eq (a := tn a) (b := tn b2) hae hb2e (by omega) (by omega)).mpr q)
          refine lv_iload hx hb dX8_still_31 (lv_at hl 5 rfl) ?_
          refine lv_i2l (v := (wh : Int32).toInt64) hx hb dX8_still_33 rfl ?_
          refine lv_lconst (v := 0) hx hb dX8_still_34 (by decide) ?_
          refine lv_ldc2 (v := 2) hx hb hown (hts _ kX8_still_61) dX8_still_35 ?_
          refine x_ip (w := (wM G B)) (x := x) (v := bI (decide (((0 : Int32)) ≤ ((wh : Int32))) && decide (((wh : Int32)) ≤ ((2 : Int32))))) (va_runS (As := [.long ((wh : Int32).toInt64), .long (0), .long (2)]) (rest := []) ⟨hx, hb, hml, hown, hts⟩ (c_X8_in (l := l) (G := G) (B := B) (hW := hW) (x := x) (va := (wh : Int32).toInt64) (vb := 0) (vc := 2) (v1 := (wh : Int32)) (lo1 := (0 : Int32)) (hi1 := (2 : Int32)) (hv := (by first | rfl | decide)) (hlo := (by first | rfl | decide)) (hhi := (by first | rfl | decide))) (va_cwS 3 hts gX8_still_X8_in rfl rfl rfl (by decide +kernel) ⟨Nat.le_of_ble_eq_true rfl, Nat.le_of_ble_eq_true rfl⟩) (x_ps (w := (wM G B)) hW hX hK hE hS [.long ((wh : Int32).toInt64), .long (0), .long (2)]) rfl rfl hl.1 rfl (lv_room (Nat.le_of_ble_eq_true rfl)) dX8_still_38 ⟨Nat.zero_le _, Nat.zero_le _⟩) hS (fun H_11 lo_12 hX hS => ?_)
          refine x_ifne (tgt := 47) hx hb dX8_still_41 (by decide) (fun c_13 => ?_) (fun c_13 => ?_)
          · refine lv_aload_n hx hb dX8_still_47 rfl (lv_at hl 0 rfl) ?_
            refine lv_iload hx hb dX8_still_48 (lv_at hl 4 rfl) ?_
            refine lv_iload_n hx hb dX8_still_50 rfl (lv_at hl 1 rfl) ?_
            refine lv_iload_n hx hb dX8_still_51 rfl (lv_at hl 2 rfl) ?_
            refine lv_iconst (v := 1) hx hb dX8_still_52 (by decide) ?_
            refine lv_iload_n hx hb dX8_still_53 rfl (lv_at hl 3 rfl) ?_
            refine lv_ishl hx hb dX8_still_54 ?_
            refine lv_ldc (v := (-1000000)) hx hb hown (hts _ kX8_still_215) dX8_still_55 ?_
            refine W.eq (g2 := F0 mm 57 ls [.int ((-1000000)), .int (1 <<< (a &&& 31)), .int (w), .int (q), .int (nI (tn b2)), .ref (B + (0))]) (congrArg (fun z9 : Int32 => F0 mm 57 ls [.int ((-1000000)), .int (1 <<< (a &&& 31)), .int (w), .int (q), .int (z9), .ref (B + (0))]) hb2e) ?_
            refine W.eq (g2 := F0 mm 57 ls [.int ((-1000000)), .int (1 <<< (a &&& 31)), .int (w), .int (nI (tn q)), .int (nI (tn b2)), .ref (B + (0))]) (congrArg (fun z9 : Int32 => F0 mm 57 ls [.int ((-1000000)), .int (1 <<< (a &&& 31)), .int (w), .int (z9), .int (nI (tn b2)), .ref (B + (0))]) hqe) ?_
            refine W.eq (g2 := F0 mm 57 ls [.int ((-1000000)), .int (nI (2 ^ tn a)), .int (w), .int (nI (tn q)), .int (nI (tn b2)), .ref (B + (0))]) (congrArg (fun z9 : Int32 => F0 mm 57 ls [.int ((-1000000)), .int (z9), .int (w), .int (nI (tn q)), .int (nI (tn b2)), .ref (B + (0))]) hsa) ?_
            refine x_ip (w := (wM G B)) (x := x) (v := sGr (x 5) n (tn b2) (tn q) w (2 ^ tn a) hNo) (va_runV (As := [.int (nI (tn b2)), .int (nI (tn q)), .int (w), .int (nI (2 ^ tn a)), .int ((-1000000))]) (rest := []) ⟨hx, hb, hml, hown, hts⟩ (c_X8_grinds (l := l) (G := G) (B := B) (hW := hW) (x := x) (ml := tn b2) (q := tn q) (w := w) (s := 2 ^ tn a) (h := hNo) (n := n) (hN := hN) (hn8 := hn8) (hml9 := (by omega)) (hq := (by omega)) (hs := (by omega))) (cwV 5 hts gX8_still_X8_grinds rfl rfl rfl (by decide +kernel) ⟨Nat.le_of_ble_eq_true rfl, Nat.le_of_ble_eq_true rfl⟩) (x_pv (w := (wM G B)) (a := 0) hW hX hK hE hS [.int (nI (tn b2)), .int (nI (tn q)), .int (w), .int (nI (2 ^ tn a)), .int ((-1000000))] (Nat.le_of_ble_eq_true rfl) (shM_0 (G := G) (B := B)) rfl) rfl rfl hl.1 rfl (lv_room (Nat.le_of_ble_eq_true rfl)) dX8_still_57 ⟨Nat.zero_le _, Nat.zero_le _⟩) hS (fun H_14 lo_15 hX hS => ?_)
            refine lv_aload_n hx hb dX8_still_60 rfl (lv_at hl 0 rfl) ?_
            refine lv_iload hx hb dX8_still_61 (lv_at hl 4 rfl) ?_
            refine lv_iload_n hx hb dX8_still_63 rfl (lv_at hl 1 rfl) ?_
            refine lv_iload_n hx hb dX8_still_64 rfl (lv_at hl 2 rfl) ?_
            refine lv_iconst (v := 0) hx hb dX8_still_65 (by decide) ?_
            refine lv_ldc (v := (-1000000)) hx hb hown (hts _ kX8_still_215) dX8_still_66 ?_
            refine W.eq (g2 := F0 mm 68 ls [.int ((-1000000)), .int (0), .int (w), .int (q), .int (nI (tn b2)), .ref (B + (0)), .int (sGr (x 5) n (tn b2) (tn q) w (2 ^ tn a) hNo)]) (congrArg (fun z9 : Int32 => F0 mm 68 ls [.int ((-1000000)), .int (0), .int (w), .int (q), .int (z9), .ref (B + (0)), .int (sGr (x 5) n (tn b2) (tn q) w (2 ^ tn a) hNo)]) hb2e) ?_
            refine W.eq (g2 := F0 mm 68 ls [.int ((-1000000)), .int (0), .int (w), .int (nI (tn q)), .int (nI (tn b2)), .ref (B + (0)), .int (sGr (x 5) n (tn b2) (tn q) w (2 ^ tn a) hNo)]) (congrArg (fun z9 : Int32 => F0 mm 68 ls [.int ((-1000000)), .int (0), .int (w), .int (z9), .int (nI (tn b2)), .ref (B + (0)), .int (sGr (x 5) n (tn b2) (tn q) w (2 ^ tn a) hNo)]) hqe) ?_
            refine x_ip (w := (wM G B)) (x := x) (v := sGr (x 5) n (tn b2) (tn q) w 0 hNo) (va_runV (As := [.int (nI (tn b2)), .int (nI (tn q)), .int (w), .int (0), .int ((-1000000))]) (rest := [.int (sGr (x 5) n (tn b2) (tn q) w (2 ^ tn a) hNo)]) ⟨hx, hb, hml, hown, hts⟩ (c_X8_grinds (l := l) (G := G) (B := B) (hW := hW) (x := x) (ml := tn b2) (q := tn q) (w := w) (s := 0) (h := hNo) (n := n) (hN := hN) (hn8 := hn8) (hml9 := (by omega)) (hq := (by omega)) (hs := (by omega))) (cwV 5 hts gX8_still_X8_grinds rfl rfl rfl (by decide +kernel) ⟨Nat.le_of_ble_eq_true rfl, Nat.le_of_ble_eq_true rfl⟩) (x_pv (w := (wM G B)) (a := 0) hW hX hK hE hS [.int (nI (tn b2)), .int (nI (tn q)), .int (w), .int (0), .int ((-1000000))] (Nat.le_of_ble_eq_true rfl) (shM_0 (G := G) (B := B)) rfl) rfl rfl hl.1 rfl (lv_room (Nat.le_of_ble_eq_true rfl)) dX8_still_68 ⟨Nat.zero_le _, Nat.zero_le _⟩) hS (fun H_16 lo_17 hX hS => ?_)
            refine lv_isub hx hb dX8_still_71 ?_
            refine lv_istore (lv' := [(6, .int ((sGr (x 5) n (tn b2) (tn q) w (2 ^ tn a) hNo) - (sGr (x 5) n (tn b2) (tn q) w 0 hNo))), (0, .ref (B + (0))), (1, .int (q)), (2, .int (w)), (3, .int (a)), (4, .int (b2)), (5, .int (wh))]) hx hb dX8_still_72 hl (by decide) rfl (fun ls hl => ?_)
            refine lv_aload_n hx hb dX8_still_74 rfl (lv_at hl 1 rfl) ?_
            refine lv_iload_n hx hb dX8_still_75 rfl (lv_at hl 4 rfl) ?_
            refine lv_iload_n hx hb dX8_still_76 rfl (lv_at hl 2 rfl) ?_
            refine lv_iload_n hx hb dX8_still_77 rfl (lv_at hl 3 rfl) ?_
            refine lv_iconst (v := 0) hx hb dX8_still_78 (by decide) ?_
            refine lv_ldc (v := (-1000000)) hx hb hown (hts _ kX8_still_215) dX8_still_79 ?_
            refine W.eq (g2 := F0 mm 81 ls [.int ((-1000000)), .int (0), .int (w), .int (q), .int (nI (tn a)), .ref (B + (0))]) (congrArg (fun z9 : Int32 => F0 mm 81 ls [.int ((-1000000)), .int (0), .int (w), .int (q), .int (z9), .ref (B + (0))]) hae) ?_
            refine W.eq (g2 := F0 mm 81 ls [.int ((-1000000)), .int (0), .int (w), .int (nI (tn q)), .int (nI (tn a)), .ref (B + (0))]) (congrArg (fun z9 : Int32 => F0 mm 81 ls [.int ((-1000000)), .int (0), .int (w), .int (z9), .int (nI (tn a)), .ref (B + (0))]) hqe) ?_
            refine x_ip (w := (wM G B)) (x := x) (v := sGr (x 5) n (tn a) (tn q) w 0 hNo) (va_runV (As := [.int (nI (tn a)), .int (nI (tn q)), .int (w), .int (0), .int ((-1000000))]) (rest := []) ⟨hx, hb, hml, hown, hts⟩ (c_X8_grinds (l := l) (G := G) (B := B) (hW := hW) (x := x) (ml := tn a) (q := tn q) (w := w) (s := 0) (h := hNo) (n := n) (hN := hN) (hn8 := hn8) (hml9 := (by omega)) (hq := (by omega)) (hs := (by omega))) (cwV 5 hts gX8_still_X8_grinds rfl rfl rfl (by decide +kernel) ⟨Nat.le_of_ble_eq_true rfl, Nat.le_of_ble_eq_true rfl⟩) (x_pv (w := (wM G B)) (a := 0) hW hX hK hE hS [.int (nI (tn a)), .int (nI (tn q)), .int (w), .int (0), .int ((-1000000))] (Nat.le_of_ble_eq_true rfl) (shM_0 (G := G) (B := B)) rfl) rfl rfl hl.1 rfl (lv_room (Nat.le_of_ble_eq_true rfl)) dX8_still_81 ⟨Nat.zero_le _, Nat.zero_le _⟩) hS (fun H_18 lo_19 hX hS => ?_)
            refine lv_istore (lv' := [(7, .int (sGr (x 5) n (tn a) (tn q) w 0 hNo)), (6, .int ((sGr (x 5) n (tn b2) (tn q) w (2 ^ tn a) hNo) - (sGr (x 5) n (tn b2) (tn q) w 0 hNo))), (0, .ref (B + (0))), (1, .int (q)), (2, .int (w)), (3, .int (a)), (4, .int (b2)), (5, .int (wh))]) hx hb dX8_still_84 hl (by decide) rfl (fun ls hl => ?_)
            refine lv_iload hx hb dX8_still_86 (lv_at hl 7 rfl) ?_
            refine lv_if_ne (tgt := 96) hx hb dX8_still_88 (by decide) (fun c_20 => ?_) (fun c_20 => ?_)
            · refine lv_iload hx hb dX8_still_96 (lv_at hl 7 rfl) ?_
              refine lv_iconst (v := 1) hx hb dX8_still_98 (by decide) ?_
              refine lv_icmp_ne (tgt := 107) hx hb dX8_still_99 (by decide) (fun c_21 => ?_) (fun c_21 => ?_)
              · refine lv_iload hx hb dX8_still_107 (lv_at hl 1 rfl) ?_
                refine lv_iload hx hb dX8_still_109 (lv_at hl 0 rfl) ?_
                refine lv_isub hx hb dX8_still_111 ?_
                refine lv_aload_n hx hb dX8_still_112 rfl (lv_at hl 2 rfl) ?_
                refine x_get (w := (wM G B)) (a := 0) (v := .ref (B + (5))) hx hb hts iX8_still_X8 hown hK hX (Nat.le_of_ble_eq_true rfl) (shM_0 (G := G) (B := B)) rfl 7 (by decide) (hts _ kX8_still_22) (fun _ h9 => h9) rfl dX8_still_113 ?_
                refine lv_iconst (v := 4) hx hb dX8_still_116 (by decide) ?_
                refine x_iald (w := (wM G B)) (a := 5) (n := 93) (j := 4) hx hb hK hX (Nat.le_of_ble_eq_true rfl) (shM_a (G := G) (B := B) (a := 5) (f := x (5)) (by decide)) rfl (by decide) (by decide) dX8_still_117 ?_
                refine lv_icmp_lt (tgt := 125) hx hb dX8_still_118 (by decide) (fun c_22 => ?_) (fun c_22 => ?_)
                · refine lv_iconst (v := 0) hx hb dX8_still_125 (by decide) ?_
                  rw [← hQ]
                  refine x_iret (v := 0) hx hb hr hX hS hlocks dX8_still_126 ?_
                  show PT_X8_still _ _ _ _ _ _ _ _ _
                  unfold PT_X8_still
                  rw [if_neg (ne_of_true c_3), if_neg (ne_of_true c_6), if_neg (ne_of_true c_9), if_neg c_10, if_pos c_13, if_neg c_20, if_neg c_21, if_pos c_22]
                  exact ⟨rfl, rfl⟩
                · refine lv_iconst (v := 1) hx hb dX8_still_121 (by decide) ?_
                  refine lv_goto (tgt := 126) hx hb dX8_still_122 (by decide) ?_
                  rw [← hQ]
                  refine x_iret (v := 1) hx hb hr hX hS hlocks dX8_still_126 ?_
                  show PT_X8_still _ _ _ _ _ _ _ _ _
                  unfold PT_X8_still
                  rw [if_neg (ne_of_true c_3), if_neg (ne_of_true c_6), if_neg (ne_of_true c_9), if_neg c_10, if_pos c_13, if_neg c_20, if_neg c_21, if_neg c_22]
                  exact ⟨rfl, rfl⟩
              · refine lv_iload hx hb dX8_still_102 (lv_at hl 0 rfl) ?_
                refine lv_goto (tgt := 126) hx hb dX8_still_104 (by decide) ?_
                rw [← hQ]
                refine x_iret (v := sGr (x 5) n (tn a) (tn q) w 0 hNo) hx hb hr hX hS hlocks dX8_still_126 ?_
                show PT_X8_still _ _ _ _ _ _ _ _ _
                unfold PT_X8_still
                rw [if_neg (ne_of_true c_3), if_neg (ne_of_true c_6), if_neg (ne_of_true c_9), if_neg c_10, if_pos c_13, if_neg c_20, if_pos c_21]
                exact ⟨rfl, rfl⟩
            · refine lv_iload hx hb dX8_still_91 (lv_at hl 1 rfl) ?_
              refine lv_goto (tgt := 126) hx hb dX8_still_93 (by decide) ?_
              rw [← hQ]
              refine x_iret (v := (sGr (x 5) n (tn b2) (tn q) w (2 ^ tn a) hNo) - (sGr (x 5) n (tn b2) (tn q) w 0 hNo)) hx hb hr hX hS hlocks dX8_still_126 ?_
              show PT_X8_still _ _ _ _ _ _ _ _ _
              unfold PT_X8_still
              rw [if_neg (ne_of_true c_3), if_neg (ne_of_true c_6), if_neg (ne_of_true c_9), if_neg c_10, if_pos c_13, if_pos c_20]
              exact ⟨rfl, rfl⟩
          · refine lv_ldc (v := (-1000001)) hx hb hown (hts _ kX8_still_63) dX8_still_44 ?_
            rw [← hQ]
            refine x_iret (v := (-1000001)) hx hb hr hX hS hlocks dX8_still_46 ?_
            show PT_X8_still _ _ _ _ _ _ _ _ _
            unfold PT_X8_still
            rw [if_neg (ne_of_true c_3), if_neg (ne_of_true c_6), if_neg (ne_of_true c_9), if_neg c_10, if_neg (ne_of_false c_13)]
            exact ⟨rfl, rfl⟩

theorem kX8_othersBy_22 : (.fieldLink RX8 22 "WindTakenModel" "now" "[I" : Cond) ∈ wsX8_othersBy := by decide +kernel
theorem iX8_othersBy_X8 : ∀ w ∈ wsX80, w ∈ wsX8_othersBy := by decide +kernel
abbrev rmX8_othersBy : Room := { frames := 6, cells := 0, slots := 0, locals := 148 }
set_option maxHeartbeats 4000000 in
set_option maxRecDepth 100000 in
theorem c_X8_othersBy (l : Launch) (G : GG) (B : Nat) (hW : WOK (wM G B)) (x : Mem) {ml : Nat} {q : Nat} (w : Int32) {s : Nat} (h : Int32) {n : Nat} (hN : x 5 0 = nI n) (hn8 : n ≤ 8) (hml9 : ml < 8) (hq : q < 4) (hs : s < 256) : Met l yX8_othersBy wsX8_othersBy rmX8_othersBy (XP G (wM G B) [.ref (B + (0)), .int (nI ml), .int (nI q), .int (w), .int (nI s), .int (h)] x) (va_Qi (fun r u => r = (sOth (x 5) n ml q w s h n) ∧ u = x) (XB G (wM G B)) (blkA B (B + 13))) 0 0 (blkA B (B + 13)) := by
  refine Met.ofW (cc := cX8_othersBy) (maxL := 8) (ret := (some .int)) (by decide) rfl ?_
  intro pp ee ss mm aa bb mt cd s1 Bd hml hv
  obtain ⟨hae, hX, hK, hE⟩ := hv
  have hx := Bd.exec
  have hb := Bd.bytes
  have hr := Bd.returns
  have hts := atoms_spec (ws := wsX8_othersBy) Bd.pre
  have hown : ss.vm.findClass RX8 = some mm.cls := findClass_of_methodNamed Bd.named
  have hlocks := Bd.notSynchronized
  have hS : va_S (blkA B (B + 13)) ss.heap ss.heap [] := va_S.rf
  have hl := lv_entry ([.ref (B + (0)), .int (nI ml), .int (nI q), .int (w), .int (nI s), .int (h)]) (n := 8) (Nat.le_of_ble_eq_true rfl)
  subst hae
  rw [lg_entry_eq]
  generalize (lg_sl ([.ref (B + (0)), .int (nI ml), .int (nI q), .int (w), .int (nI s), .int (h)]) ++ List.replicate (8 - (lg_sl ([.ref (B + (0)), .int (nI ml), .int (nI q), .int (w), .int (nI s), .int (h)])).length) Slot.unset).toArray = ls at hl ⊢
  have hl : lv_has ls 8 [(0, .ref (B + (0))), (1, .int (nI ml)), (2, .int (nI q)), (3, .int (w)), (4, .int (nI s)), (5, .int (h))] := hl
  generalize ([.ref (B + (0)), .int (nI ml), .int (nI q), .int (w), .int (nI s), .int (h)] : List Value).toArray = aa at hts ⊢
  show W pp l ee rmX8_othersBy ss mm aa bb mt cd ss.heap [] 0 0 _ (F0 mm 0 ls [])
  generalize hQ : MQ bb (va_Qi (fun r u => r = (sOth (x 5) n ml q w s h n) ∧ u = x) (XB G (wM G B)) (blkA B (B + 13))) aa ss 0 0 (blkA B (B + 13)) = Q
  refine lv_iconst (v := 0) hx hb dX8_othersBy_0 (by decide) ?_
  refine lv_istore (lv' := [(6, .int (0)), (0, .ref (B + (0))), (1, .int (nI ml)), (2, .int (nI q)), (3, .int (w)), (4, .int (nI s)), (5, .int (h))]) hx hb dX8_othersBy_1 hl (by decide) rfl (fun ls hl => ?_)
  refine lv_iconst (v := 0) hx hb dX8_othersBy_3 (by decide) ?_
  refine lv_istore (lv' := [(7, .int (0)), (6, .int (0)), (0, .ref (B + (0))), (1, .int (nI ml)), (2, .int (nI q)), (3, .int (w)), (4, .int (nI s)), (5, .int (h))]) hx hb dX8_othersBy_4 hl (by decide) rfl (fun ls hl => ?_)
  have L_1 : ∀ (n9 : Nat) (i : Nat) (sm : Int32)  (_ : n9 = n - i) (_ : i ≤ n ∧ sm = sOth (x 5) n ml q w s h i) (H_2 : Heap) (lo_3 : List Loc) (_ : MR G (wM G B) x H_2) (_ : va_S (blkA B (B + 13)) ss.heap H_2 lo_3) (ls : Array Slot) (_ : lv_has ls 8 [(7, .int (nI i)), (6, .int (sm)), (0, .ref (B + (0))), (1, .int (nI ml)), (2, .int (nI q)), (3, .int (w)), (4, .int (nI s)), (5, .int (h))]), W pp l ee rmX8_othersBy ss mm aa bb mt cd H_2 lo_3 0 0 Q (F0 mm 6 ls []) := by
    intro n9
    induction n9 using Nat.strongRecOn with
    | _ n9 ih => 
      have ih_6 := ih
      intro i sm hn9 hI H_2 lo_3 hX hS ls hl
      obtain ⟨hi, hsm⟩ := hI
      refine lv_iload hx hb dX8_othersBy_6 (lv_at hl 0 rfl) ?_
      refine lv_aload_n hx hb dX8_othersBy_8 rfl (lv_at hl 2 rfl) ?_
      refine x_get (w := (wM G B)) (a := 0) (v := .ref (B + (5))) hx hb hts iX8_othersBy_X8 hown hK hX (Nat.le_of_ble_eq_true rfl) (shM_0 (G := G) (B := B)) rfl 7 (by decide) (hts _ kX8_othersBy_22) (fun _ h9 => h9) rfl dX8_othersBy_9 ?_
      refine lv_iconst (v := 0) hx hb dX8_othersBy_12 (by decide) ?_
      refine x_iald (w := (wM G B)) (a := 5) (n := 93) (j := 0) hx hb hK hX (Nat.le_of_ble_eq_true rfl) (shM_a (G := G) (B := B) (a := 5) (f := x (5)) (by decide)) rfl (by decide) (by decide) dX8_othersBy_13 ?_
      refine lv_icmp_ge (tgt := 50) hx hb dX8_othersBy_14 (by decide) (fun c_4 => ?_) (fun c_4 => ?_)
      · have nc_4 := (n_le (a := n) (b := i) hN rfl (by omega) (by omega)).mp c_4
        refine lv_iload hx hb dX8_othersBy_50 (lv_at hl 1 rfl) ?_
        rw [← hQ]
        refine x_iret (v := sm) hx hb hr hX hS hlocks dX8_othersBy_52 ?_
        have e9 : i = n := by omega
        exact ⟨by rw [hsm, e9], rfl⟩
      · have nc_4 := Nat.not_le.mp (fun q => c_4 ((n_le (a := n) (b := i) hN rfl (by omega) (by omega)).mpr q))
        refine lv_iload hx hb dX8_othersBy_17 (lv_at hl 1 rfl) ?_
        refine lv_iload hx hb dX8_othersBy_19 (lv_at hl 0 rfl) ?_
        refine lv_iload_n hx hb dX8_othersBy_21 rfl (lv_at hl 3 rfl) ?_
        have kJ_7 : ∀ (v_6 : Int32) (_ : v_6 = (if nI i = nI ml then (0 : Int32) else (sGr (x 5) n i q w s h))) (H_8 : Heap) (lo_9 : List Loc) (_ : MR G (wM G B) x H_8) (_ : va_S (blkA B (B + 13)) ss.heap H_8 lo_9) (ls : Array Slot) (_ : lv_has ls 8 [(7, .int (nI i)), (6, .int (sm)), (0, .ref (B + (0))), (1, .int (nI ml)), (2, .int (nI q)), (3, .int (w)), (4, .int (nI s)), (5, .int (h))]), W pp l ee rmX8_othersBy ss mm aa bb mt cd H_8 lo_9 0 0 Q (F0 mm 41 ls [.int (v_6), .int (sm)]) := by
          intro v_6 ev_6 H_8 lo_9 hX hS ls hl
          refine lv_iadd hx hb dX8_othersBy_41 ?_
          refine lv_istore (lv' := [(6, .int (sm + v_6)), (7, .int (nI i)), (0, .ref (B + (0))), (1, .int (nI ml)), (2, .int (nI q)), (3, .int (w)), (4, .int (nI s)), (5, .int (h))]) hx hb dX8_othersBy_42 hl (by decide) rfl (fun ls hl => ?_)
          refine lv_iinc (v := nI (i + 1)) (lv' := [(7, .int (nI (i + 1))), (6, .int (sm + v_6)), (0, .ref (B + (0))), (1, .int (nI ml)), (2, .int (nI q)), (3, .int (w)), (4, .int (nI s)), (5, .int (h))]) hx hb dX8_othersBy_44 hl (k := 1) rfl (inc_nI _) (by decide) rfl (fun ls hl => ?_)
          refine lv_goto (tgt := 6) hx hb dX8_othersBy_47 (by decide) ?_
          exact ih_6 _ (by omega) (i + 1) (sm + v_6) rfl ⟨by omega, by rw [ev_6, hsm]; rfl⟩ _ _ hX hS ls (lv_sub hl [0, 1, 2, 3, 4, 5, 6, 7] rfl)
        refine lv_icmp_ne (tgt := 29) hx hb dX8_othersBy_22 (by decide) (fun c_5 => ?_) (fun c_5 => ?_)
        · refine lv_aload_n hx hb dX8_othersBy_29 rfl (lv_at hl 2 rfl) ?_
          refine lv_iload hx hb dX8_othersBy_30 (lv_at hl 0 rfl) ?_
          refine lv_iload_n hx hb dX8_othersBy_32 rfl (lv_at hl 4 rfl) ?_
          refine lv_iload_n hx hb dX8_othersBy_33 rfl (lv_at hl 5 rfl) ?_
          refine lv_iload hx hb dX8_othersBy_34 (lv_at hl 6 rfl) ?_
          refine lv_iload hx hb dX8_othersBy_36 (lv_at hl 7 rfl) ?_
          refine x_ip (w := (wM G B)) (x := x) (v := sGr (x 5) n i q w s h) (va_runV (As := [.int (nI i), .int (nI q), .int (w), .int (nI s), .int (h)]) (rest := [.int (sm)]) ⟨hx, hb, hml, hown, hts⟩ (c_X8_grinds (l := l) (G := G) (B := B) (hW := hW) (x := x) (ml := i) (q := q) (w := w) (s := s) (h := h) (n := n) (hN := hN) (hn8 := hn8) (hml9 := (by omega)) (hq := (by omega)) (hs := (by omega))) (cwV 5 hts gX8_othersBy_X8_grinds rfl rfl rfl (by decide +kernel) ⟨Nat.le_of_ble_eq_true rfl, Nat.le_of_ble_eq_true rfl⟩) (x_pv (w := (wM G B)) (a := 0) hW hX hK hE hS [.int (nI i), .int (nI q), .int (w), .int (nI s), .int (h)] (Nat.le_of_ble_eq_true rfl) (shM_0 (G := G) (B := B)) rfl) rfl rfl hl.1 rfl (lv_room (Nat.le_of_ble_eq_true rfl)) dX8_othersBy_38 ⟨Nat.zero_le _, Nat.zero_le _⟩) hS (fun H_10 lo_11 hX hS => ?_)
          exact kJ_7 (sGr (x 5) n i q w s h) (by rw [if_neg c_5]) _ _ hX hS ls (lv_sub hl [0, 1, 2, 3, 4, 5, 6, 7] rfl)
        · refine lv_iconst (v := 0) hx hb dX8_othersBy_25 (by decide) ?_
          refine lv_goto (tgt := 41) hx hb dX8_othersBy_26 (by decide) ?_
          exact kJ_7 (0) (by rw [if_pos c_5]) _ _ hX hS ls (lv_sub hl [0, 1, 2, 3, 4, 5, 6, 7] rfl)
  exact L_1 _ (0) (0) rfl ⟨Nat.zero_le _, rfl⟩ _ _ hX hS ls (lv_sub hl [0, 1, 2, 3, 4, 5, 6, 7] rfl)

def PT_X8_higher (x : Mem) (q : Int32) (w : Int32) (ml : Int32) (wh : Int32) (n : Nat) (r : Int32) (u : Mem) : Prop := (if ((decide (0 ≤ q) && decide (q ≤ 3)) && (decide (0 ≤ w) && decide (w ≤ 100))) = false then (r = (-1000001) ∧ u = x) else (if (decide (0 ≤ ml) && decide (ml < nI n)) = false then (r = (-1000001) ∧ u = x) else (if (decide (((0 : Int32)) ≤ ((wh : Int32))) && decide (((wh : Int32)) ≤ ((2 : Int32)))) = true then (if wh = 0 then (r = (sGr (x 5) n (tn ml) (tn q) w 0 (sUp (x 5) ml)) - (sGr (x 5) n (tn ml) (tn q) w 0 hNo) ∧ u = x) else (if wh = 1 then (r = (sOth (x 5) n (tn ml) (tn q) w 0 hNo n) - (sOth (x 5) n (tn ml) (tn q) w 0 (sUp (x 5) ml) n) ∧ u = x) else (r = (sOth (x 5) n (tn ml) (tn q) w (2 ^ tn ml) hNo n) - (sOth (x 5) n (tn ml) (tn q) w 0 hNo n) ∧ u = x))) else (r = (-1000001) ∧ u = x))))
theorem kX8_higher_63 : (.constant RX8 63 (-1000001) : Cond) ∈ wsX8_higher := by decide +kernel
theorem kX8_higher_61 : (.constantLong RX8 61 (2) : Cond) ∈ wsX8_higher := by decide +kernel
theorem kX8_higher_215 : (.constant RX8 215 (-1000000) : Cond) ∈ wsX8_higher := by decide +kernel
abbrev rmX8_higher : Room := { frames := 7, cells := 0, slots := 0, locals := 175 }
set_option maxHeartbeats 4000000 in
set_option maxRecDepth 100000 in
theorem c_X8_higher (l : Launch) (G : GG) (B : Nat) (hW : WOK (wM G B)) (x : Mem) (q : Int32) (w : Int32) (ml : Int32) (wh : Int32) {n : Nat} (hN : x 5 0 = nI n) (hn8 : n ≤ 8) : Met l yX8_higher wsX8_higher rmX8_higher (XP G (wM G B) [.ref (B + (0)), .int (q), .int (w), .int (ml), .int (wh)] x) (va_Qi (fun r u => PT_X8_higher x q w ml wh n r u) (XB G (wM G B)) (blkA B (B + 13))) 0 0 (blkA B (B + 13)) := by
  refine Met.ofW (cc := cX8_higher) (maxL := 7) (ret := (some .int)) (by decide) rfl ?_
  intro pp ee ss mm aa bb mt cd s1 Bd hml hv
  obtain ⟨hae, hX, hK, hE⟩ := hv
  have hx := Bd.exec
  have hb := Bd.bytes
  have hr := Bd.returns
  have hts := atoms_spec (ws := wsX8_higher) Bd.pre
  have hown : ss.vm.findClass RX8 = some mm.cls := findClass_of_methodNamed Bd.named
  have hlocks := Bd.notSynchronized
  have hS : va_S (blkA B (B + 13)) ss.heap ss.heap [] := va_S.rf
  have hl := lv_entry ([.ref (B + (0)), .int (q), .int (w), .int (ml), .int (wh)]) (n := 7) (Nat.le_of_ble_eq_true rfl)
  subst hae
  rw [lg_entry_eq]
  generalize (lg_sl ([.ref (B + (0)), .int (q), .int (w), .int (ml), .int (wh)]) ++ List.replicate (7 - (lg_sl ([.ref (B + (0)), .int (q), .int (w), .int (ml), .int (wh)])).length) Slot.unset).toArray = ls at hl ⊢
  have hl : lv_has ls 7 [(0, .ref (B + (0))), (1, .int (q)), (2, .int (w)), (3, .int (ml)), (4, .int (wh))] := hl
  generalize ([.ref (B + (0)), .int (q), .int (w), .int (ml), .int (wh)] : List Value).toArray = aa at hts ⊢
  show W pp l ee rmX8_higher ss mm aa bb mt cd ss.heap [] 0 0 _ (F0 mm 0 ls [])
  generalize hQ : MQ bb (va_Qi (fun r u => PT_X8_higher x q w ml wh n r u) (XB G (wM G B)) (blkA B (B + 13))) aa ss 0 0 (blkA B (B + 13)) = Q
  refine lv_iload_n hx hb dX8_higher_0 rfl (lv_at hl 1 rfl) ?_
  refine lv_iload_n hx hb dX8_higher_1 rfl (lv_at hl 2 rfl) ?_
  refine x_ip (w := (wM G B)) (x := x) (v := bI ((decide (0 ≤ q) && decide (q ≤ 3)) && (decide (0 ≤ w) && decide (w ≤ 100)))) (va_runS (As := [.int (q), .int (w)]) (rest := []) ⟨hx, hb, hml, hown, hts⟩ (c_X8_isWind (l := l) (G := G) (B := B) (hW := hW) (x := x) (q := q) (v := w)) (va_cwS 2 hts gX8_higher_X8_isWind rfl rfl rfl (by decide +kernel) ⟨Nat.le_of_ble_eq_true rfl, Nat.le_of_ble_eq_true rfl⟩) (x_ps (w := (wM G B)) hW hX hK hE hS [.int (q), .int (w)]) rfl rfl hl.1 rfl (lv_room (Nat.le_of_ble_eq_true rfl)) dX8_higher_2 ⟨Nat.zero_le _, Nat.zero_le _⟩) hS (fun H_1 lo_2 hX hS => ?_)
  refine x_ifeq (tgt := 29) hx hb dX8_higher_5 (by decide) (fun c_3 => ?_) (fun c_3 => ?_)
  · refine lv_ldc (v := (-1000001)) hx hb hown (hts _ kX8_higher_63) dX8_higher_29 ?_
    rw [← hQ]
    refine x_iret (v := (-1000001)) hx hb hr hX hS hlocks dX8_higher_31 ?_
    show PT_X8_higher _ _ _ _ _ _ _ _
    unfold PT_X8_higher
    rw [if_pos c_3]
    exact ⟨rfl, rfl⟩
  · obtain ⟨hqe, hq4⟩ := windQ c_3
    refine lv_aload_n hx hb dX8_higher_8 rfl (lv_at hl 0 rfl) ?_
    refine lv_iload_n hx hb dX8_higher_9 rfl (lv_at hl 3 rfl) ?_
    refine x_ip (w := (wM G B)) (x := x) (v := bI (decide (0 ≤ ml) && decide (ml < nI n))) (va_runV (As := [.int (ml)]) (rest := []) ⟨hx, hb, hml, hown, hts⟩ (c_X8_isMill (l := l) (G := G) (B := B) (hW := hW) (x := x) (v := ml) (n := n) (hN := hN) (hn8 := hn8)) (cwV 1 hts gX8_higher_X8_isMill rfl rfl rfl (by decide +kernel) ⟨Nat.le_of_ble_eq_true rfl, Nat.le_of_ble_eq_true rfl⟩) (x_pv (w := (wM G B)) (a := 0) hW hX hK hE hS [.int (ml)] (Nat.le_of_ble_eq_true rfl) (shM_0 (G := G) (B := B)) rfl) rfl rfl hl.1 rfl (lv_room (Nat.le_of_ble_eq_true rfl)) dX8_higher_10 ⟨Nat.zero_le _, Nat.zero_le _⟩) hS (fun H_4 lo_5 hX hS => ?_)
    refine x_ifeq (tgt := 29) hx hb dX8_higher_13 (by decide) (fun c_6 => ?_) (fun c_6 => ?_)
    · refine lv_ldc (v := (-1000001)) hx hb hown (hts _ kX8_higher_63) dX8_higher_29 ?_
      rw [← hQ]
      refine x_iret (v := (-1000001)) hx hb hr hX hS hlocks dX8_higher_31 ?_
      show PT_X8_higher _ _ _ _ _ _ _ _
      unfold PT_X8_higher
      rw [if_neg (ne_of_true c_3), if_pos c_6]
      exact ⟨rfl, rfl⟩
    · obtain ⟨hmle, hmln⟩ := hasM (c := nI n) rfl hn8 c_6
      have hsml := shla hmle (show tn ml < 8 by omega)
      have hpa : 2 ^ tn ml < 256 := Nat.lt_of_lt_of_le (Nat.pow_lt_pow_right (by decide) (show tn ml < 8 by omega)) (by decide)
      refine lv_iload hx hb dX8_higher_16 (lv_at hl 4 rfl) ?_
      refine lv_i2l (v := (wh : Int32).toInt64) hx hb dX8_higher_18 rfl ?_
      refine lv_lconst (v := 0) hx hb dX8_higher_19 (by decide) ?_
      refine lv_ldc2 (v := 2) hx hb hown (hts _ kX8_higher_61) dX8_higher_20 ?_
      refine x_ip (w := (wM G B)) (x := x) (v := bI (decide (((0 : Int32)) ≤ ((wh : Int32))) && decide (((wh : Int32)) ≤ ((2 : Int32))))) (va_runS (As := [.long ((wh : Int32).toInt64), .long (0), .long (2)]) (rest := []) ⟨hx, hb, hml, hown, hts⟩ (c_X8_in (l := l) (G := G) (B := B) (hW := hW) (x := x) (va := (wh : Int32).toInt64) (vb := 0) (vc := 2) (v1 := (wh : Int32)) (lo1 := (0 : Int32)) (hi1 := (2 : Int32)) (hv := (by first | rfl | decide)) (hlo := (by first | rfl | decide)) (hhi := (by first | rfl | decide))) (va_cwS 3 hts gX8_higher_X8_in rfl rfl rfl (by decide +kernel) ⟨Nat.le_of_ble_eq_true rfl, Nat.le_of_ble_eq_true rfl⟩) (x_ps (w := (wM G B)) hW hX hK hE hS [.long ((wh : Int32).toInt64), .long (0), .long (2)]) rfl rfl hl.1 rfl (lv_room (Nat.le_of_ble_eq_true rfl)) dX8_higher_23 ⟨Nat.zero_le _, Nat.zero_le _⟩) hS (fun H_7 lo_8 hX hS => ?_)
      refine x_ifne (tgt := 32) hx hb dX8_higher_26 (by decide) (fun c_9 => ?_) (fun c_9 => ?_)
      · refine lv_aload_n hx hb dX8_higher_32 rfl (lv_at hl 0 rfl) ?_
        refine lv_iload_n hx hb dX8_higher_33 rfl (lv_at hl 3 rfl) ?_
        refine lv_iconst (v := 0) hx hb dX8_higher_34 (by decide) ?_
        refine W.eq (g2 := F0 mm 35 ls [.int (0), .int (nI (tn ml)), .ref (B + (0))]) (congrArg (fun z9 : Int32 => F0 mm 35 ls [.int (0), .int (z9), .ref (B + (0))]) hmle) ?_
        refine x_ip (w := (wM G B)) (x := x) (v := sF (x 5) (tn ml) 0) (va_runV (As := [.int (nI (tn ml)), .int (0)]) (rest := []) ⟨hx, hb, hml, hown, hts⟩ (c_X8_of (l := l) (G := G) (B := B) (hW := hW) (x := x) (ml := tn ml) (k := 0) (hml9 := (by omega)) (hk10 := (by omega))) (cwV 2 hts gX8_higher_X8_of rfl rfl rfl (by decide +kernel) ⟨Nat.le_of_ble_eq_true rfl, Nat.le_of_ble_eq_true rfl⟩) (x_pv (w := (wM G B)) (a := 0) hW hX hK hE hS [.int (nI (tn ml)), .int (0)] (Nat.le_of_ble_eq_true rfl) (shM_0 (G := G) (B := B)) rfl) rfl rfl hl.1 rfl (lv_room (Nat.le_of_ble_eq_true rfl)) dX8_higher_35 ⟨Nat.zero_le _, Nat.zero_le _⟩) hS (fun H_10 lo_11 hX hS => ?_)
        refine lv_bipush (v := 9) hx hb dX8_higher_38 (by decide) ?_
        have kJ_14 : ∀ (v_13 : Int32) (_ : v_13 = (if 9 ≤ (sF (x 5) (tn ml) 0) then ((-1000000)) else ml)) (H_15 : Heap) (lo_16 : List Loc) (_ : MR G (wM G B) x H_15) (_ : va_S (blkA B (B + 13)) ss.heap H_15 lo_16) (ls : Array Slot) (_ : lv_has ls 7 [(0, .ref (B + (0))), (1, .int (q)), (2, .int (w)), (3, .int (ml)), (4, .int (wh))]), W pp l ee rmX8_higher ss mm aa bb mt cd H_15 lo_16 0 0 Q (F0 mm 49 ls [.int (v_13)]) := by
          intro v_13 ev_13 H_15 lo_16 hX hS ls hl
          have hv : v_13 = sUp (x 5) ml := by rw [ev_13]; exact up_ref
          subst hv
          refine lv_istore (lv' := [(5, .int (sUp (x 5) ml)), (0, .ref (B + (0))), (1, .int (q)), (2, .int (w)), (3, .int (ml)), (4, .int (wh))]) hx hb dX8_higher_49 hl (by decide) rfl (fun ls hl => ?_)
          refine lv_aload_n hx hb dX8_higher_51 rfl (lv_at hl 1 rfl) ?_
          refine lv_iload_n hx hb dX8_higher_52 rfl (lv_at hl 4 rfl) ?_
          refine lv_iload_n hx hb dX8_higher_53 rfl (lv_at hl 2 rfl) ?_
          refine lv_iload_n hx hb dX8_higher_54 rfl (lv_at hl 3 rfl) ?_
          refine lv_iconst (v := 0) hx hb dX8_higher_55 (by decide) ?_
          refine lv_ldc (v := (-1000000)) hx hb hown (hts _ kX8_higher_215) dX8_higher_56 ?_
          refine W.eq (g2 := F0 mm 58 ls [.int ((-1000000)), .int (0), .int (w), .int (q), .int (nI (tn ml)), .ref (B + (0))]) (congrArg (fun z9 : Int32 => F0 mm 58 ls [.int ((-1000000)), .int (0), .int (w), .int (q), .int (z9), .ref (B + (0))]) hmle) ?_
          refine W.eq (g2 := F0 mm 58 ls [.int ((-1000000)), .int (0), .int (w), .int (nI (tn q)), .int (nI (tn ml)), .ref (B + (0))]) (congrArg (fun z9 : Int32 => F0 mm 58 ls [.int ((-1000000)), .int (0), .int (w), .int (z9), .int (nI (tn ml)), .ref (B + (0))]) hqe) ?_
          refine x_ip (w := (wM G B)) (x := x) (v := sOth (x 5) n (tn ml) (tn q) w 0 hNo n) (va_runV (As := [.int (nI (tn ml)), .int (nI (tn q)), .int (w), .int (0), .int ((-1000000))]) (rest := []) ⟨hx, hb, hml, hown, hts⟩ (c_X8_othersBy (l := l) (G := G) (B := B) (hW := hW) (x := x) (ml := tn ml) (q := tn q) (w := w) (s := 0) (h := hNo) (n := n) (hN := hN) (hn8 := hn8) (hml9 := (by omega)) (hq := (by omega)) (hs := (by omega))) (cwV 5 hts gX8_higher_X8_othersBy rfl rfl rfl (by decide +kernel) ⟨Nat.le_of_ble_eq_true rfl, Nat.le_of_ble_eq_true rfl⟩) (x_pv (w := (wM G B)) (a := 0) hW hX hK hE hS [.int (nI (tn ml)), .int (nI (tn q)), .int (w), .int (0), .int ((-1000000))] (Nat.le_of_ble_eq_true rfl) (shM_0 (G := G) (B := B)) rfl) rfl rfl hl.1 rfl (lv_room (Nat.le_of_ble_eq_true rfl)) dX8_higher_58 ⟨Nat.zero_le _, Nat.zero_le _⟩) hS (fun H_17 lo_18 hX hS => ?_)
          refine lv_istore (lv' := [(6, .int (sOth (x 5) n (tn ml) (tn q) w 0 hNo n)), (5, .int (sUp (x 5) ml)), (0, .ref (B + (0))), (1, .int (q)), (2, .int (w)), (3, .int (ml)), (4, .int (wh))]) hx hb dX8_higher_61 hl (by decide) rfl (fun ls hl => ?_)
          refine lv_iload hx hb dX8_higher_63 (lv_at hl 6 rfl) ?_
          refine lv_if_ne (tgt := 90) hx hb dX8_higher_65 (by decide) (fun c_19 => ?_) (fun c_19 => ?_)
          · refine lv_iload hx hb dX8_higher_90 (lv_at hl 6 rfl) ?_
            refine lv_iconst (v := 1) hx hb dX8_higher_92 (by decide) ?_
            refine lv_icmp_ne (tgt := 112) hx hb dX8_higher_93 (by decide) (fun c_20 => ?_) (fun c_20 => ?_)
            · refine lv_aload_n hx hb dX8_higher_112 rfl (lv_at hl 2 rfl) ?_
              refine lv_iload_n hx hb dX8_higher_113 rfl (lv_at hl 5 rfl) ?_
              refine lv_iload_n hx hb dX8_higher_114 rfl (lv_at hl 3 rfl) ?_
              refine lv_iload_n hx hb dX8_higher_115 rfl (lv_at hl 4 rfl) ?_
              refine lv_iconst (v := 1) hx hb dX8_higher_116 (by decide) ?_
              refine lv_iload_n hx hb dX8_higher_117 rfl (lv_at hl 5 rfl) ?_
              refine lv_ishl hx hb dX8_higher_118 ?_
              refine lv_ldc (v := (-1000000)) hx hb hown (hts _ kX8_higher_215) dX8_higher_119 ?_
              refine W.eq (g2 := F0 mm 121 ls [.int ((-1000000)), .int (1 <<< (ml &&& 31)), .int (w), .int (q), .int (nI (tn ml)), .ref (B + (0))]) (congrArg (fun z9 : Int32 => F0 mm 121 ls [.int ((-1000000)), .int (1 <<< (ml &&& 31)), .int (w), .int (q), .int (z9), .ref (B + (0))]) hmle) ?_
              refine W.eq (g2 := F0 mm 121 ls [.int ((-1000000)), .int (1 <<< (ml &&& 31)), .int (w), .int (nI (tn q)), .int (nI (tn ml)), .ref (B + (0))]) (congrArg (fun z9 : Int32 => F0 mm 121 ls [.int ((-1000000)), .int (1 <<< (ml &&& 31)), .int (w), .int (z9), .int (nI (tn ml)), .ref (B + (0))]) hqe) ?_
              refine W.eq (g2 := F0 mm 121 ls [.int ((-1000000)), .int (nI (2 ^ tn ml)), .int (w), .int (nI (tn q)), .int (nI (tn ml)), .ref (B + (0))]) (congrArg (fun z9 : Int32 => F0 mm 121 ls [.int ((-1000000)), .int (z9), .int (w), .int (nI (tn q)), .int (nI (tn ml)), .ref (B + (0))]) hsml) ?_
              refine x_ip (w := (wM G B)) (x := x) (v := sOth (x 5) n (tn ml) (tn q) w (2 ^ tn ml) hNo n) (va_runV (As := [.int (nI (tn ml)), .int (nI (tn q)), .int (w), .int (nI (2 ^ tn ml)), .int ((-1000000))]) (rest := []) ⟨hx, hb, hml, hown, hts⟩ (c_X8_othersBy (l := l) (G := G) (B := B) (hW := hW) (x := x) (ml := tn ml) (q := tn q) (w := w) (s := 2 ^ tn ml) (h := hNo) (n := n) (hN := hN) (hn8 := hn8) (hml9 := (by omega)) (hq := (by omega)) (hs := (by omega))) (cwV 5 hts gX8_higher_X8_othersBy rfl rfl rfl (by decide +kernel) ⟨Nat.le_of_ble_eq_true rfl, Nat.le_of_ble_eq_true rfl⟩) (x_pv (w := (wM G B)) (a := 0) hW hX hK hE hS [.int (nI (tn ml)), .int (nI (tn q)), .int (w), .int (nI (2 ^ tn ml)), .int ((-1000000))] (Nat.le_of_ble_eq_true rfl) (shM_0 (G := G) (B := B)) rfl) rfl rfl hl.1 rfl (lv_room (Nat.le_of_ble_eq_true rfl)) dX8_higher_121 ⟨Nat.zero_le _, Nat.zero_le _⟩) hS (fun H_21 lo_22 hX hS => ?_)
              refine lv_iload hx hb dX8_higher_124 (lv_at hl 0 rfl) ?_
              refine lv_isub hx hb dX8_higher_126 ?_
              rw [← hQ]
              refine x_iret (v := (sOth (x 5) n (tn ml) (tn q) w (2 ^ tn ml) hNo n) - (sOth (x 5) n (tn ml) (tn q) w 0 hNo n)) hx hb hr hX hS hlocks dX8_higher_127 ?_
              show PT_X8_higher _ _ _ _ _ _ _ _
              unfold PT_X8_higher
              rw [if_neg (ne_of_true c_3), if_neg (ne_of_true c_6), if_pos c_9, if_neg c_19, if_neg c_20]
              exact ⟨rfl, rfl⟩
            · refine lv_iload hx hb dX8_higher_96 (lv_at hl 0 rfl) ?_
              refine lv_aload_n hx hb dX8_higher_98 rfl (lv_at hl 2 rfl) ?_
              refine lv_iload_n hx hb dX8_higher_99 rfl (lv_at hl 5 rfl) ?_
              refine lv_iload_n hx hb dX8_higher_100 rfl (lv_at hl 3 rfl) ?_
              refine lv_iload_n hx hb dX8_higher_101 rfl (lv_at hl 4 rfl) ?_
              refine lv_iconst (v := 0) hx hb dX8_higher_102 (by decide) ?_
              refine lv_iload hx hb dX8_higher_103 (lv_at hl 1 rfl) ?_
              refine W.eq (g2 := F0 mm 105 ls [.int (sUp (x 5) ml), .int (0), .int (w), .int (q), .int (nI (tn ml)), .ref (B + (0)), .int (sOth (x 5) n (tn ml) (tn q) w 0 hNo n)]) (congrArg (fun z9 : Int32 => F0 mm 105 ls [.int (sUp (x 5) ml), .int (0), .int (w), .int (q), .int (z9), .ref (B + (0)), .int (sOth (x 5) n (tn ml) (tn q) w 0 hNo n)]) hmle) ?_
              refine W.eq (g2 := F0 mm 105 ls [.int (sUp (x 5) ml), .int (0), .int (w), .int (nI (tn q)), .int (nI (tn ml)), .ref (B + (0)), .int (sOth (x 5) n (tn ml) (tn q) w 0 hNo n)]) (congrArg (fun z9 : Int32 => F0 mm 105 ls [.int (sUp (x 5) ml), .int (0), .int (w), .int (z9), .int (nI (tn ml)), .ref (B + (0)), .int (sOth (x 5) n (tn ml) (tn q) w 0 hNo n)]) hqe) ?_
              refine x_ip (w := (wM G B)) (x := x) (v := sOth (x 5) n (tn ml) (tn q) w 0 (sUp (x 5) ml) n) (va_runV (As := [.int (nI (tn ml)), .int (nI (tn q)), .int (w), .int (0), .int (sUp (x 5) ml)]) (rest := [.int (sOth (x 5) n (tn ml) (tn q) w 0 hNo n)]) ⟨hx, hb, hml, hown, hts⟩ (c_X8_othersBy (l := l) (G := G) (B := B) (hW := hW) (x := x) (ml := tn ml) (q := tn q) (w := w) (s := 0) (h := sUp (x 5) ml) (n := n) (hN := hN) (hn8 := hn8) (hml9 := (by omega)) (hq := (by omega)) (hs := (by omega))) (cwV 5 hts gX8_higher_X8_othersBy rfl rfl rfl (by decide +kernel) ⟨Nat.le_of_ble_eq_true rfl, Nat.le_of_ble_eq_true rfl⟩) (x_pv (w := (wM G B)) (a := 0) hW hX hK hE hS [.int (nI (tn ml)), .int (nI (tn q)), .int (w), .int (0), .int (sUp (x 5) ml)] (Nat.le_of_ble_eq_true rfl) (shM_0 (G := G) (B := B)) rfl) rfl rfl hl.1 rfl (lv_room (Nat.le_of_ble_eq_true rfl)) dX8_higher_105 ⟨Nat.zero_le _, Nat.zero_le _⟩) hS (fun H_23 lo_24 hX hS => ?_)
              refine lv_isub hx hb dX8_higher_108 ?_
              refine lv_goto (tgt := 127) hx hb dX8_higher_109 (by decide) ?_
              rw [← hQ]
              refine x_iret (v := (sOth (x 5) n (tn ml) (tn q) w 0 hNo n) - (sOth (x 5) n (tn ml) (tn q) w 0 (sUp (x 5) ml) n)) hx hb hr hX hS hlocks dX8_higher_127 ?_
              show PT_X8_higher _ _ _ _ _ _ _ _
              unfold PT_X8_higher
              rw [if_neg (ne_of_true c_3), if_neg (ne_of_true c_6), if_pos c_9, if_neg c_19, if_pos c_20]
              exact ⟨rfl, rfl⟩
          · refine lv_aload_n hx hb dX8_higher_68 rfl (lv_at hl 2 rfl) ?_
            refine lv_iload_n hx hb dX8_higher_69 rfl (lv_at hl 5 rfl) ?_
            refine lv_iload_n hx hb dX8_higher_70 rfl (lv_at hl 3 rfl) ?_
            refine lv_iload_n hx hb dX8_higher_71 rfl (lv_at hl 4 rfl) ?_
            refine lv_iconst (v := 0) hx hb dX8_higher_72 (by decide) ?_
            refine lv_iload hx hb dX8_higher_73 (lv_at hl 1 rfl) ?_
            refine W.eq (g2 := F0 mm 75 ls [.int (sUp (x 5) ml), .int (0), .int (w), .int (q), .int (nI (tn ml)), .ref (B + (0))]) (congrArg (fun z9 : Int32 => F0 mm 75 ls [.int (sUp (x 5) ml), .int (0), .int (w), .int (q), .int (z9), .ref (B + (0))]) hmle) ?_
            refine W.eq (g2 := F0 mm 75 ls [.int (sUp (x 5) ml), .int (0), .int (w), .int (nI (tn q)), .int (nI (tn ml)), .ref (B + (0))]) (congrArg (fun z9 : Int32 => F0 mm 75 ls [.int (sUp (x 5) ml), .int (0), .int (w), .int (z9), .int (nI (tn ml)), .ref (B + (0))]) hqe) ?_
            refine x_ip (w := (wM G B)) (x := x) (v := sGr (x 5) n (tn ml) (tn q) w 0 (sUp (x 5) ml)) (va_runV (As := [.int (nI (tn ml)), .int (nI (tn q)), .int (w), .int (0), .int (sUp (x 5) ml)]) (rest := []) ⟨hx, hb, hml, hown, hts⟩ (c_X8_grinds (l := l) (G := G) (B := B) (hW := hW) (x := x) (ml := tn ml) (q := tn q) (w := w) (s := 0) (h := sUp (x 5) ml) (n := n) (hN := hN) (hn8 := hn8) (hml9 := (by omega)) (hq := (by omega)) (hs := (by omega))) (cwV 5 hts gX8_higher_X8_grinds rfl rfl rfl (by decide +kernel) ⟨Nat.le_of_ble_eq_true rfl, Nat.le_of_ble_eq_true rfl⟩) (x_pv (w := (wM G B)) (a := 0) hW hX hK hE hS [.int (nI (tn ml)), .int (nI (tn q)), .int (w), .int (0), .int (sUp (x 5) ml)] (Nat.le_of_ble_eq_true rfl) (shM_0 (G := G) (B := B)) rfl) rfl rfl hl.1 rfl (lv_room (Nat.le_of_ble_eq_true rfl)) dX8_higher_75 ⟨Nat.zero_le _, Nat.zero_le _⟩) hS (fun H_25 lo_26 hX hS => ?_)
            refine lv_aload_n hx hb dX8_higher_78 rfl (lv_at hl 2 rfl) ?_
            refine lv_iload_n hx hb dX8_higher_79 rfl (lv_at hl 5 rfl) ?_
            refine lv_iload_n hx hb dX8_higher_80 rfl (lv_at hl 3 rfl) ?_
            refine lv_iload_n hx hb dX8_higher_81 rfl (lv_at hl 4 rfl) ?_
            refine lv_iconst (v := 0) hx hb dX8_higher_82 (by decide) ?_
            refine lv_ldc (v := (-1000000)) hx hb hown (hts _ kX8_higher_215) dX8_higher_83 ?_
            refine W.eq (g2 := F0 mm 85 ls [.int ((-1000000)), .int (0), .int (w), .int (q), .int (nI (tn ml)), .ref (B + (0)), .int (sGr (x 5) n (tn ml) (tn q) w 0 (sUp (x 5) ml))]) (congrArg (fun z9 : Int32 => F0 mm 85 ls [.int ((-1000000)), .int (0), .int (w), .int (q), .int (z9), .ref (B + (0)), .int (sGr (x 5) n (tn ml) (tn q) w 0 (sUp (x 5) ml))]) hmle) ?_
            refine W.eq (g2 := F0 mm 85 ls [.int ((-1000000)), .int (0), .int (w), .int (nI (tn q)), .int (nI (tn ml)), .ref (B + (0)), .int (sGr (x 5) n (tn ml) (tn q) w 0 (sUp (x 5) ml))]) (congrArg (fun z9 : Int32 => F0 mm 85 ls [.int ((-1000000)), .int (0), .int (w), .int (z9), .int (nI (tn ml)), .ref (B + (0)), .int (sGr (x 5) n (tn ml) (tn q) w 0 (sUp (x 5) ml))]) hqe) ?_
            refine x_ip (w := (wM G B)) (x := x) (v := sGr (x 5) n (tn ml) (tn q) w 0 hNo) (va_runV (As := [.int (nI (tn ml)), .int (nI (tn q)), .int (w), .int (0), .int ((-1000000))]) (rest := [.int (sGr (x 5) n (tn ml) (tn q) w 0 (sUp (x 5) ml))]) ⟨hx, hb, hml, hown, hts⟩ (c_X8_grinds (l := l) (G := G) (B := B) (hW := hW) (x := x) (ml := tn ml) (q := tn q) (w := w) (s := 0) (h := hNo) (n := n) (hN := hN) (hn8 := hn8) (hml9 := (by omega)) (hq := (by omega)) (hs := (by omega))) (cwV 5 hts gX8_higher_X8_grinds rfl rfl rfl (by decide +kernel) ⟨Nat.le_of_ble_eq_true rfl, Nat.le_of_ble_eq_true rfl⟩) (x_pv (w := (wM G B)) (a := 0) hW hX hK hE hS [.int (nI (tn ml)), .int (nI (tn q)), .int (w), .int (0), .int ((-1000000))] (Nat.le_of_ble_eq_true rfl) (shM_0 (G := G) (B := B)) rfl) rfl rfl hl.1 rfl (lv_room (Nat.le_of_ble_eq_true rfl)) dX8_higher_85 ⟨Nat.zero_le _, Nat.zero_le _⟩) hS (fun H_27 lo_28 hX hS => ?_)
            refine lv_isub hx hb dX8_higher_88 ?_
            rw [← hQ]
            refine x_iret (v := (sGr (x 5) n (tn ml) (tn q) w 0 (sUp (x 5) ml)) - (sGr (x 5) n (tn ml) (tn q) w 0 hNo)) hx hb hr hX hS hlocks dX8_higher_89 ?_
            show PT_X8_higher _ _ _ _ _ _ _ _
            unfold PT_X8_higher
            rw [if_neg (ne_of_true c_3), if_neg (ne_of_true c_6), if_pos c_9, if_pos c_19]
            exact ⟨rfl, rfl⟩
        refine lv_icmp_ge (tgt := 47) hx hb dX8_higher_40 (by decide) (fun c_12 => ?_) (fun c_12 => ?_)
        · refine lv_ldc (v := (-1000000)) hx hb hown (hts _ kX8_higher_215) dX8_higher_47 ?_
          exact kJ_14 ((-1000000)) (by rw [if_pos c_12]) _ _ hX hS ls (lv_sub hl [0, 1, 2, 3, 4] rfl)
        · refine lv_iload_n hx hb dX8_higher_43 rfl (lv_at hl 3 rfl) ?_
          refine lv_goto (tgt := 49) hx hb dX8_higher_44 (by decide) ?_
          exact kJ_14 (ml) (by rw [if_neg c_12]) _ _ hX hS ls (lv_sub hl [0, 1, 2, 3, 4] rfl)
      · refine lv_ldc (v := (-1000001)) hx hb hown (hts _ kX8_higher_63) dX8_higher_29 ?_
        rw [← hQ]
        refine x_iret (v := (-1000001)) hx hb hr hX hS hlocks dX8_higher_31 ?_
        show PT_X8_higher _ _ _ _ _ _ _ _
        unfold PT_X8_higher
        rw [if_neg (ne_of_true c_3), if_neg (ne_of_true c_6), if_neg (ne_of_false c_9)]
        exact ⟨rfl, rfl⟩

def PT_X8_owes (x : Mem) (q : Int32) (w : Int32) (a : Int32) (b2 : Int32) (n : Nat) (r : Int32) (u : Mem) : Prop := (if ((decide (0 ≤ q) && decide (q ≤ 3)) && (decide (0 ≤ w) && decide (w ≤ 100))) = false then (r = (-1000001) ∧ u = x) else (if (decide (0 ≤ a) && decide (a < nI n)) = false then (r = (-1000001) ∧ u = x) else (if (decide (0 ≤ b2) && decide (b2 < nI n)) = false then (r = (-1000001) ∧ u = x) else (if a = b2 then (r = (-1000001) ∧ u = x) else (if ((((sTakes (x 5) (tn a) (tn q) 0 && decide (sF (x 5) (tn a) 2 < sF (x 5) (tn b2) 2)) && sBehind (x 5) (tn b2) (tn a) (tn q) hNo))) = false then (r = 0 ∧ u = x) else (r = ((x (5) 3) * ((sGr (x 5) n (tn b2) (tn q) w (2 ^ tn a) hNo) - (sGr (x 5) n (tn b2) (tn q) w 0 hNo))) / 100 ∧ u = x))))))
theorem kX8_owes_63 : (.constant RX8 63 (-1000001) : Cond) ∈ wsX8_owes := by decide +kernel
theorem kX8_owes_215 : (.constant RX8 215 (-1000000) : Cond) ∈ wsX8_owes := by decide +kernel
theorem kX8_owes_22 : (.fieldLink RX8 22 "WindTakenModel" "now" "[I" : Cond) ∈ wsX8_owes := by decide +kernel
theorem iX8_owes_X8 : ∀ w ∈ wsX80, w ∈ wsX8_owes := by decide +kernel
abbrev rmX8_owes : Room := { frames := 6, cells := 0, slots := 0, locals := 148 }
set_option maxHeartbeats 4000000 in
set_option maxRecDepth 100000 in
theorem c_X8_owes (l : Launch) (G : GG) (B : Nat) (hW : WOK (wM G B)) (x : Mem) (q : Int32) (w : Int32) (a : Int32) (b2 : Int32) {n : Nat} (hN : x 5 0 = nI n) (hn8 : n ≤ 8) : Met l yX8_owes wsX8_owes rmX8_owes (XP G (wM G B) [.ref (B + (0)), .int (q), .int (w), .int (a), .int (b2)] x) (va_Qi (fun r u => PT_X8_owes x q w a b2 n r u) (XB G (wM G B)) (blkA B (B + 13))) 0 0 (blkA B (B + 13)) := by
  refine Met.ofW (cc := cX8_owes) (maxL := 6) (ret := (some .int)) (by decide) rfl ?_
  intro pp ee ss mm aa bb mt cd s1 Bd hml hv
  obtain ⟨hae, hX, hK, hE⟩ := hv
  have hx := Bd.exec
  have hb := Bd.bytes
  have hr := Bd.returns
  have hts := atoms_spec (ws := wsX8_owes) Bd.pre
  have hown : ss.vm.findClass RX8 = some mm.cls := findClass_of_methodNamed Bd.named
  have hlocks := Bd.notSynchronized
  have hS : va_S (blkA B (B + 13)) ss.heap ss.heap [] := va_S.rf
  have hl := lv_entry ([.ref (B + (0)), .int (q), .int (w), .int (a), .int (b2)]) (n := 6) (Nat.le_of_ble_eq_true rfl)
  subst hae
  rw [lg_entry_eq]
  generalize (lg_sl ([.ref (B + (0)), .int (q), .int (w), .int (a), .int (b2)]) ++ List.replicate (6 - (lg_sl ([.ref (B + (0)), .int (q), .int (w), .int (a), .int (b2)])).length) Slot.unset).toArray = ls at hl ⊢
  have hl : lv_has ls 6 [(0, .ref (B + (0))), (1, .int (q)), (2, .int (w)), (3, .int (a)), (4, .int (b2))] := hl
  generalize ([.ref (B + (0)), .int (q), .int (w), .int (a), .int (b2)] : List Value).toArray = aa at hts ⊢
  show W pp l ee rmX8_owes ss mm aa bb mt cd ss.heap [] 0 0 _ (F0 mm 0 ls [])
  generalize hQ : MQ bb (va_Qi (fun r u => PT_X8_owes x q w a b2 n r u) (XB G (wM G B)) (blkA B (B + 13))) aa ss 0 0 (blkA B (B + 13)) = Q
  refine lv_iload_n hx hb dX8_owes_0 rfl (lv_at hl 1 rfl) ?_
  refine lv_iload_n hx hb dX8_owes_1 rfl (lv_at hl 2 rfl) ?_
  refine x_ip (w := (wM G B)) (x := x) (v := bI ((decide (0 ≤ q) && decide (q ≤ 3)) && (decide (0 ≤ w) && decide (w ≤ 100)))) (va_runS (As := [.int (q), .int (w)]) (rest := []) ⟨hx, hb, hml, hown, hts⟩ (c_X8_isWind (l := l) (G := G) (B := B) (hW := hW) (x := x) (q := q) (v := w)) (va_cwS 2 hts gX8_owes_X8_isWind rfl rfl rfl (by decide +kernel) ⟨Nat.le_of_ble_eq_true rfl, Nat.le_of_ble_eq_true rfl⟩) (x_ps (w := (wM G B)) hW hX hK hE hS [.int (q), .int (w)]) rfl rfl hl.1 rfl (lv_room (Nat.le_of_ble_eq_true rfl)) dX8_owes_2 ⟨Nat.zero_le _, Nat.zero_le _⟩) hS (fun H_1 lo_2 hX hS => ?_)
  refine x_ifeq (tgt := 31) hx hb dX8_owes_5 (by decide) (fun c_3 => ?_) (fun c_3 => ?_)
  · refine lv_ldc (v := (-1000001)) hx hb hown (hts _ kX8_owes_63) dX8_owes_31 ?_
    rw [← hQ]
    refine x_iret (v := (-1000001)) hx hb hr hX hS hlocks dX8_owes_33 ?_
    show PT_X8_owes _ _ _ _ _ _ _ _
    unfold PT_X8_owes
    rw [if_pos c_3]
    exact ⟨rfl, rfl⟩
  · obtain ⟨hqe, hq4⟩ := windQ c_3
    refine lv_aload_n hx hb dX8_owes_8 rfl (lv_at hl 0 rfl) ?_
    refine lv_iload_n hx hb dX8_owes_9 rfl (lv_at hl 3 rfl) ?_
    refine x_ip (w := (wM G B)) (x := x) (v := bI (decide (0 ≤ a) && decide (a < nI n))) (va_runV (As := [.int (a)]) (rest := []) ⟨hx, hb, hml, hown, hts⟩ (c_X8_isMill (l := l) (G := G) (B := B) (hW := hW) (x := x) (v := a) (n := n) (hN := hN) (hn8 := hn8)) (cwV 1 hts gX8_owes_X8_isMill rfl rfl rfl (by decide +kernel) ⟨Nat.le_of_ble_eq_true rfl, Nat.le_of_ble_eq_true rfl⟩) (x_pv (w := (wM G B)) (a := 0) hW hX hK hE hS [.int (a)] (Nat.le_of_ble_eq_true rfl) (shM_0 (G := G) (B := B)) rfl) rfl rfl hl.1 rfl (lv_room (Nat.le_of_ble_eq_true rfl)) dX8_owes_10 ⟨Nat.zero_le _, Nat.zero_le _⟩) hS (fun H_4 lo_5 hX hS => ?_)
    refine x_ifeq (tgt := 31) hx hb dX8_owes_13 (by decide) (fun c_6 => ?_) (fun c_6 => ?_)
    · refine lv_ldc (v := (-1000001)) hx hb hown (hts _ kX8_owes_63) dX8_owes_31 ?_
      rw [← hQ]
      refine x_iret (v := (-1000001)) hx hb hr hX hS hlocks dX8_owes_33 ?_
      show PT_X8_owes _ _ _ _ _ _ _ _
      unfold PT_X8_owes
      rw [if_neg (ne_of_true c_3), if_pos c_6]
      exact ⟨rfl, rfl⟩
    · obtain ⟨hae, han⟩ := hasM (c := nI n) rfl hn8 c_6
      have hsa := shla hae (show tn a < 8 by omega)
      have hpa : 2 ^ tn a < 256 := Nat.lt_of_lt_of_le (Nat.pow_lt_pow_right (by decide) (show tn a < 8 by omega)) (by decide)
      refine lv_aload_n hx hb dX8_owes_16 rfl (lv_at hl 0 rfl) ?_
      refine lv_iload hx hb dX8_owes_17 (lv_at hl 4 rfl) ?_
      refine x_ip (w := (wM G B)) (x := x) (v := bI (decide (0 ≤ b2) && decide (b2 < nI n))) (va_runV (As := [.int (b2)]) (rest := []) ⟨hx, hb, hml, hown, hts⟩ (c_X8_isMill (l := l) (G := G) (B := B) (hW := hW) (x := x) (v := b2) (n := n) (hN := hN) (hn8 := hn8)) (cwV 1 hts gX8_owes_X8_isMill rfl rfl rfl (by decide +kernel) ⟨Nat.le_of_ble_eq_true rfl, Nat.le_of_ble_eq_true rfl⟩) (x_pv (w := (wM G B)) (a := 0) hW hX hK hE hS [.int (b2)] (Nat.le_of_ble_eq_true rfl) (shM_0 (G := G) (B := B)) rfl) rfl rfl hl.1 rfl (lv_room (Nat.le_of_ble_eq_true rfl)) dX8_owes_19 ⟨Nat.zero_le _, Nat.zero_le _⟩) hS (fun H_7 lo_8 hX hS => ?_)
      refine x_ifeq (tgt := 31) hx hb dX8_owes_22 (by decide) (fun c_9 => ?_) (fun c_9 => ?_)
      · refine lv_ldc (v := (-1000001)) hx hb hown (hts _ kX8_owes_63) dX8_owes_31 ?_
        rw [← hQ]
        refine x_iret (v := (-1000001)) hx hb hr hX hS hlocks dX8_owes_33 ?_
        show PT_X8_owes _ _ _ _ _ _ _ _
        unfold PT_X8_owes
        rw [if_neg (ne_of_true c_3), if_neg (ne_of_true c_6), if_pos c_9]
        exact ⟨rfl, rfl⟩
      · obtain ⟨hb2e, hb2n⟩ := hasM (c := nI n) rfl hn8 c_9
        refine lv_iload_n hx hb dX8_owes_25 rfl (lv_at hl 3 rfl) ?_
        refine lv_iload hx hb dX8_owes_26 (lv_at hl 4 rfl) ?_
        refine lv_icmp_ne (tgt := 34) hx hb dX8_owes_28 (by decide) (fun c_10 => ?_) (fun c_10 => ?_)
        · have nc_10 : ¬ (tn a) = (tn b2) := fun q => c_10 ((n_eq (a := tn a) (b := tn b2) hae hb2e (by omega) (by omega)).mpr q)
          refine lv_aload_n hx hb dX8_owes_34 rfl (lv_at hl 0 rfl) ?_
          refine lv_iload_n hx hb dX8_owes_35 rfl (lv_at hl 3 rfl) ?_
          refine lv_iload_n hx hb dX8_owes_36 rfl (lv_at hl 1 rfl) ?_
          refine lv_iconst (v := 0) hx hb dX8_owes_37 (by decide) ?_
          refine W.eq (g2 := F0 mm 38 ls [.int (0), .int (q), .int (nI (tn a)), .ref (B + (0))]) (congrArg (fun z9 : Int32 => F0 mm 38 ls [.int (0), .int (q), .int (z9), .ref (B + (0))]) hae) ?_
          refine W.eq (g2 := F0 mm 38 ls [.int (0), .int (nI (tn q)), .int (nI (tn a)), .ref (B + (0))]) (congrArg (fun z9 : Int32 => F0 mm 38 ls [.int (0), .int (z9), .int (nI (tn a)), .ref (B + (0))]) hqe) ?_
          refine x_ip (w := (wM G B)) (x := x) (v := bI (sTakes (x 5) (tn a) (tn q) 0)) (va_runV (As := [.int (nI (tn a)), .int (nI (tn q)), .int (0)]) (rest := []) ⟨hx, hb, hml, hown, hts⟩ (c_X8_takes (l := l) (G := G) (B := B) (hW := hW) (x := x) (ml := tn a) (q := tn q) (s := 0) (hml9 := (by omega)) (hq := (by omega)) (hs := (by omega))) (cwV 3 hts gX8_owes_X8_takes rfl rfl rfl (by decide +kernel) ⟨Nat.le_of_ble_eq_true rfl, Nat.le_of_ble_eq_true rfl⟩) (x_pv (w := (wM G B)) (a := 0) hW hX hK hE hS [.int (nI (tn a)), .int (nI (tn q)), .int (0)] (Nat.le_of_ble_eq_true rfl) (shM_0 (G := G) (B := B)) rfl) rfl rfl hl.1 rfl (lv_room (Nat.le_of_ble_eq_true rfl)) dX8_owes_38 ⟨Nat.zero_le _, Nat.zero_le _⟩) hS (fun H_11 lo_12 hX hS => ?_)
          have kJ_15 : ∀ (v_14 : Bool) (_ : v_14 = (if (sTakes (x 5) (tn a) (tn q) 0) = false then false else (if (sF (x 5) (tn b2) 2) ≤ (sF (x 5) (tn a) 2) then false else (if (sBehind (x 5) (tn b2) (tn a) (tn q) hNo) = false then false else true)))) (H_16 : Heap) (lo_17 : List Loc) (_ : MR G (wM G B) x H_16) (_ : va_S (blkA B (B + 13)) ss.heap H_16 lo_17) (ls : Array Slot) (_ : lv_has ls 6 [(0, .ref (B + (0))), (1, .int (q)), (2, .int (w)), (3, .int (a)), (4, .int (b2))]), W pp l ee rmX8_owes ss mm aa bb mt cd H_16 lo_17 0 0 Q (F0 mm 78 ls [.int (bI (v_14))]) := by
            intro v_14 ev_14 H_16 lo_17 hX hS ls hl
            have hv : v_14 = ((sTakes (x 5) (tn a) (tn q) 0 && decide (sF (x 5) (tn a) 2 < sF (x 5) (tn b2) 2)) && sBehind (x 5) (tn b2) (tn a) (tn q) hNo) := by rw [ev_14]; exact owe_ref
            subst hv
            refine lv_istore (lv' := [(5, .int (bI ((((sTakes (x 5) (tn a) (tn q) 0 && decide (sF (x 5) (tn a) 2 < sF (x 5) (tn b2) 2)) && sBehind (x 5) (tn b2) (tn a) (tn q) hNo))))), (0, .ref (B + (0))), (1, .int (q)), (2, .int (w)), (3, .int (a)), (4, .int (b2))]) hx hb dX8_owes_78 hl (by decide) rfl (fun ls hl => ?_)
            refine lv_iload hx hb dX8_owes_80 (lv_at hl 0 rfl) ?_
            refine x_ifeq (tgt := 123) hx hb dX8_owes_82 (by decide) (fun c_18 => ?_) (fun c_18 => ?_)
            · refine lv_iconst (v := 0) hx hb dX8_owes_123 (by decide) ?_
              rw [← hQ]
              refine x_iret (v := 0) hx hb hr hX hS hlocks dX8_owes_124 ?_
              show PT_X8_owes _ _ _ _ _ _ _ _
              unfold PT_X8_owes
              rw [if_neg (ne_of_true c_3), if_neg (ne_of_true c_6), if_neg (ne_of_true c_9), if_neg c_10, if_pos c_18]
              exact ⟨rfl, rfl⟩
            · refine lv_aload_n hx hb dX8_owes_85 rfl (lv_at hl 1 rfl) ?_
              refine x_get (w := (wM G B)) (a := 0) (v := .ref (B + (5))) hx hb hts iX8_owes_X8 hown hK hX (Nat.le_of_ble_eq_true rfl) (shM_0 (G := G) (B := B)) rfl 7 (by decide) (hts _ kX8_owes_22) (fun _ h9 => h9) rfl dX8_owes_86 ?_
              refine lv_iconst (v := 3) hx hb dX8_owes_89 (by decide) ?_
              refine x_iald (w := (wM G B)) (a := 5) (n := 93) (j := 3) hx hb hK hX (Nat.le_of_ble_eq_true rfl) (shM_a (G := G) (B := B) (a := 5) (f := x (5)) (by decide)) rfl (by decide) (by decide) dX8_owes_90 ?_
              refine lv_aload_n hx hb dX8_owes_91 rfl (lv_at hl 1 rfl) ?_
              refine lv_iload hx hb dX8_owes_92 (lv_at hl 5 rfl) ?_
              refine lv_iload_n hx hb dX8_owes_94 rfl (lv_at hl 2 rfl) ?_
              refine lv_iload_n hx hb dX8_owes_95 rfl (lv_at hl 3 rfl) ?_
              refine lv_iconst (v := 1) hx hb dX8_owes_96 (by decide) ?_
              refine lv_iload_n hx hb dX8_owes_97 rfl (lv_at hl 4 rfl) ?_
              refine lv_ishl hx hb dX8_owes_98 ?_
              refine lv_ldc (v := (-1000000)) hx hb hown (hts _ kX8_owes_215) dX8_owes_99 ?_
              refine W.eq (g2 := F0 mm 101 ls [.int ((-1000000)), .int (1 <<< (a &&& 31)), .int (w), .int (q), .int (nI (tn b2)), .ref (B + (0)), .int (x (5) 3)]) (congrArg (fun z9 : Int32 => F0 mm 101 ls [.int ((-1000000)), .int (1 <<< (a &&& 31)), .int (w), .int (q), .int (z9), .ref (B + (0)), .int (x (5) 3)]) hb2e) ?_
              refine W.eq (g2 := F0 mm 101 ls [.int ((-1000000)), .int (1 <<< (a &&& 31)), .int (w), .int (nI (tn q)), .int (nI (tn b2)), .ref (B + (0)), .int (x (5) 3)]) (congrArg (fun z9 : Int32 => F0 mm 101 ls [.int ((-1000000)), .int (1 <<< (a &&& 31)), .int (w), .int (z9), .int (nI (tn b2)), .ref (B + (0)), .int (x (5) 3)]) hqe) ?_
              refine W.eq (g2 := F0 mm 101 ls [.int ((-1000000)), .int (nI (2 ^ tn a)), .int (w), .int (nI (tn q)), .int (nI (tn b2)), .ref (B + (0)), .int (x (5) 3)]) (congrArg (fun z9 : Int32 => F0 mm 101 ls [.int ((-1000000)), .int (z9), .int (w), .int (nI (tn q)), .int (nI (tn b2)), .ref (B + (0)), .int (x (5) 3)]) hsa) ?_
              refine x_ip (w := (wM G B)) (x := x) (v := sGr (x 5) n (tn b2) (tn q) w (2 ^ tn a) hNo) (va_runV (As := [.int (nI (tn b2)), .int (nI (tn q)), .int (w), .int (nI (2 ^ tn a)), .int ((-1000000))]) (rest := [.int (x (5) 3)]) ⟨hx, hb, hml, hown, hts⟩ (c_X8_grinds (l := l) (G := G) (B := B) (hW := hW) (x := x) (ml := tn b2) (q := tn q) (w := w) (s := 2 ^ tn a) (h := hNo) (n := n) (hN := hN) (hn8 := hn8) (hml9 := (by omega)) (hq := (by omega)) (hs := (by omega))) (cwV 5 hts gX8_owes_X8_grinds rfl rfl rfl (by decide +kernel) ⟨Nat.le_of_ble_eq_true rfl, Nat.le_of_ble_eq_true rfl⟩) (x_pv (w := (wM G B)) (a := 0) hW hX hK hE hS [.int (nI (tn b2)), .int (nI (tn q)), .int (w), .int (nI (2 ^ tn a)), .int ((-1000000))] (Nat.le_of_ble_eq_true rfl) (shM_0 (G := G) (B := B)) rfl) rfl rfl hl.1 rfl (lv_room (Nat.le_of_ble_eq_true rfl)) dX8_owes_101 ⟨Nat.zero_le _, Nat.zero_le _⟩) hS (fun H_19 lo_20 hX hS => ?_)
              refine lv_aload_n hx hb dX8_owes_104 rfl (lv_at hl 1 rfl) ?_
              refine lv_iload hx hb dX8_owes_105 (lv_at hl 5 rfl) ?_
              refine lv_iload_n hx hb dX8_owes_107 rfl (lv_at hl 2 rfl) ?_
              refine lv_iload_n hx hb dX8_owes_108 rfl (lv_at hl 3 rfl) ?_
              refine lv_iconst (v := 0) hx hb dX8_owes_109 (by decide) ?_
              refine lv_ldc (v := (-1000000)) hx hb hown (hts _ kX8_owes_215) dX8_owes_110 ?_
              refine W.eq (g2 := F0 mm 112 ls [.int ((-1000000)), .int (0), .int (w), .int (q), .int (nI (tn b2)), .ref (B + (0)), .int (sGr (x 5) n (tn b2) (tn q) w (2 ^ tn a) hNo), .int (x (5) 3)]) (congrArg (fun z9 : Int32 => F0 mm 112 ls [.int ((-1000000)), .int (0), .int (w), .int (q), .int (z9), .ref (B + (0)), .int (sGr (x 5) n (tn b2) (tn q) w (2 ^ tn a) hNo), .int (x (5) 3)]) hb2e) ?_
              refine W.eq (g2 := F0 mm 112 ls [.int ((-1000000)), .int (0), .int (w), .int (nI (tn q)), .int (nI (tn b2)), .ref (B + (0)), .int (sGr (x 5) n (tn b2) (tn q) w (2 ^ tn a) hNo), .int (x (5) 3)]) (congrArg (fun z9 : Int32 => F0 mm 112 ls [.int ((-1000000)), .int (0), .int (w), .int (z9), .int (nI (tn b2)), .ref (B + (0)), .int (sGr (x 5) n (tn b2) (tn q) w (2 ^ tn a) hNo), .int (x (5) 3)]) hqe) ?_
              refine x_ip (w := (wM G B)) (x := x) (v := sGr (x 5) n (tn b2) (tn q) w 0 hNo) (va_runV (As := [.int (nI (tn b2)), .int (nI (tn q)), .int (w), .int (0), .int ((-1000000))]) (rest := [.int (sGr (x 5) n (tn b2) (tn q) w (2 ^ tn a) hNo), .int (x (5) 3)]) ⟨hx, hb, hml, hown, hts⟩ (c_X8_grinds (l := l) (G := G) (B := B) (hW := hW) (x := x) (ml := tn b2) (q := tn q) (w := w) (s := 0) (h := hNo) (n := n) (hN := hN) (hn8 := hn8) (hml9 := (by omega)) (hq := (by omega)) (hs := (by omega))) (cwV 5 hts gX8_owes_X8_grinds rfl rfl rfl (by decide +kernel) ⟨Nat.le_of_ble_eq_true rfl, Nat.le_of_ble_eq_true rfl⟩) (x_pv (w := (wM G B)) (a := 0) hW hX hK hE hS [.int (nI (tn b2)), .int (nI (tn q)), .int (w), .int (0), .int ((-1000000))] (Nat.le_of_ble_eq_true rfl) (shM_0 (G := G) (B := B)) rfl) rfl rfl hl.1 rfl (lv_room (Nat.le_of_ble_eq_true rfl)) dX8_owes_112 ⟨Nat.zero_le _, Nat.zero_le _⟩) hS (fun H_21 lo_22 hX hS => ?_)
              refine lv_isub hx hb dX8_owes_115 ?_
              refine lv_imul hx hb dX8_owes_116 ?_
              refine lv_bipush (v := 100) hx hb dX8_owes_117 (by decide) ?_
              refine lv_idiv hx hb dX8_owes_119 (by decide) ?_
              refine lv_goto (tgt := 124) hx hb dX8_owes_120 (by decide) ?_
              rw [← hQ]
              refine x_iret (v := ((x (5) 3) * ((sGr (x 5) n (tn b2) (tn q) w (2 ^ tn a) hNo) - (sGr (x 5) n (tn b2) (tn q) w 0 hNo))) / 100) hx hb hr hX hS hlocks dX8_owes_124 ?_
              show PT_X8_owes _ _ _ _ _ _ _ _
              unfold PT_X8_owes
              rw [if_neg (ne_of_true c_3), if_neg (ne_of_true c_6), if_neg (ne_of_true c_9), if_neg c_10, if_neg (ne_of_true c_18)]
              exact ⟨rfl, rfl⟩
          refine x_ifeq (tgt := 77) hx hb dX8_owes_41 (by decide) (fun c_13 => ?_) (fun c_13 => ?_)
          · refine lv_iconst (v := 0) hx hb dX8_owes_77 (by decide) ?_
            exact kJ_15 (false) (by rw [if_pos c_13]) _ _ hX hS ls (lv_sub hl [0, 1, 2, 3, 4] rfl)
          · refine lv_aload_n hx hb dX8_owes_44 rfl (lv_at hl 0 rfl) ?_
            refine lv_iload hx hb dX8_owes_45 (lv_at hl 4 rfl) ?_
            refine lv_iconst (v := 2) hx hb dX8_owes_47 (by decide) ?_
            refine W.eq (g2 := F0 mm 48 ls [.int (2), .int (nI (tn b2)), .ref (B + (0))]) (congrArg (fun z9 : Int32 => F0 mm 48 ls [.int (2), .int (z9), .ref (B + (0))]) hb2e) ?_
            refine x_ip (w := (wM G B)) (x := x) (v := sF (x 5) (tn b2) 2) (va_runV (As := [.int (nI (tn b2)), .int (2)]) (rest := []) ⟨hx, hb, hml, hown, hts⟩ (c_X8_of (l := l) (G := G) (B := B) (hW := hW) (x := x) (ml := tn b2) (k := 2) (hml9 := (by omega)) (hk10 := (by omega))) (cwV 2 hts gX8_owes_X8_of rfl rfl rfl (by decide +kernel) ⟨Nat.le_of_ble_eq_true rfl, Nat.le_of_ble_eq_true rfl⟩) (x_pv (w := (wM G B)) (a := 0) hW hX hK hE hS [.int (nI (tn b2)), .int (2)] (Nat.le_of_ble_eq_true rfl) (shM_0 (G := G) (B := B)) rfl) rfl rfl hl.1 rfl (lv_room (Nat.le_of_ble_eq_true rfl)) dX8_owes_48 ⟨Nat.zero_le _, Nat.zero_le _⟩) hS (fun H_23 lo_24 hX hS => ?_)
            refine lv_aload_n hx hb dX8_owes_51 rfl (lv_at hl 0 rfl) ?_
            refine lv_iload_n hx hb dX8_owes_52 rfl (lv_at hl 3 rfl) ?_
            refine lv_iconst (v := 2) hx hb dX8_owes_53 (by decide) ?_
            refine W.eq (g2 := F0 mm 54 ls [.int (2), .int (nI (tn a)), .ref (B + (0)), .int (sF (x 5) (tn b2) 2)]) (congrArg (fun z9 : Int32 => F0 mm 54 ls [.int (2), .int (z9), .ref (B + (0)), .int (sF (x 5) (tn b2) 2)]) hae) ?_
            refine x_ip (w := (wM G B)) (x := x) (v := sF (x 5) (tn a) 2) (va_runV (As := [.int (nI (tn a)), .int (2)]) (rest := [.int (sF (x 5) (tn b2) 2)]) ⟨hx, hb, hml, hown, hts⟩ (c_X8_of (l := l) (G := G) (B := B) (hW := hW) (x := x) (ml := tn a) (k := 2) (hml9 := (by omega)) (hk10 := (by omega))) (cwV 2 hts gX8_owes_X8_of rfl rfl rfl (by decide +kernel) ⟨Nat.le_of_ble_eq_true rfl, Nat.le_of_ble_eq_true rfl⟩) (x_pv (w := (wM G B)) (a := 0) hW hX hK hE hS [.int (nI (tn a)), .int (2)] (Nat.le_of_ble_eq_true rfl) (shM_0 (G := G) (B := B)) rfl) rfl rfl hl.1 rfl (lv_room (Nat.le_of_ble_eq_true rfl)) dX8_owes_54 ⟨Nat.zero_le _, Nat.zero_le _⟩) hS (fun H_25 lo_26 hX hS => ?_)
            refine lv_icmp_le (tgt := 77) hx hb dX8_owes_57 (by decide) (fun c_27 => ?_) (fun c_27 => ?_)
            · refine lv_iconst (v := 0) hx hb dX8_owes_77 (by decide) ?_
              exact kJ_15 (false) (by rw [if_neg (ne_of_true c_13), if_pos c_27]) _ _ hX hS ls (lv_sub hl [0, 1, 2, 3, 4] rfl)
            · refine lv_aload_n hx hb dX8_owes_60 rfl (lv_at hl 0 rfl) ?_
              refine lv_iload hx hb dX8_owes_61 (lv_at hl 4 rfl) ?_
              refine lv_iload_n hx hb dX8_owes_63 rfl (lv_at hl 3 rfl) ?_
              refine lv_iload_n hx hb dX8_owes_64 rfl (lv_at hl 1 rfl) ?_
              refine lv_ldc (v := (-1000000)) hx hb hown (hts _ kX8_owes_215) dX8_owes_65 ?_
              refine W.eq (g2 := F0 mm 67 ls [.int ((-1000000)), .int (q), .int (a), .int (nI (tn b2)), .ref (B + (0))]) (congrArg (fun z9 : Int32 => F0 mm 67 ls [.int ((-1000000)), .int (q), .int (a), .int (z9), .ref (B + (0))]) hb2e) ?_
              refine W.eq (g2 := F0 mm 67 ls [.int ((-1000000)), .int (q), .int (nI (tn a)), .int (nI (tn b2)), .ref (B + (0))]) (congrArg (fun z9 : Int32 => F0 mm 67 ls [.int ((-1000000)), .int (q), .int (z9), .int (nI (tn b2)), .ref (B + (0))]) hae) ?_
              refine W.eq (g2 := F0 mm 67 ls [.int ((-1000000)), .int (nI (tn q)), .int (nI (tn a)), .int (nI (tn b2)), .ref (B + (0))]) (congrArg (fun z9 : Int32 => F0 mm 67 ls [.int ((-1000000)), .int (z9), .int (nI (tn a)), .int (nI (tn b2)), .ref (B + (0))]) hqe) ?_
              refine x_ip (w := (wM G B)) (x := x) (v := bI (sBehind (x 5) (tn b2) (tn a) (tn q) hNo)) (va_runV (As := [.int (nI (tn b2)), .int (nI (tn a)), .int (nI (tn q)), .int ((-1000000))]) (rest := []) ⟨hx, hb, hml, hown, hts⟩ (c_X8_isBehind (l := l) (G := G) (B := B) (hW := hW) (x := x) (ml := tn b2) (o := tn a) (q := tn q) (h := hNo) (hml9 := (by omega)) (ho9 := (by omega)) (hq := (by omega))) (cwV 4 hts gX8_owes_X8_isBehind rfl rfl rfl (by decide +kernel) ⟨Nat.le_of_ble_eq_true rfl, Nat.le_of_ble_eq_true rfl⟩) (x_pv (w := (wM G B)) (a := 0) hW hX hK hE hS [.int (nI (tn b2)), .int (nI (tn a)), .int (nI (tn q)), .int ((-1000000))] (Nat.le_of_ble_eq_true rfl) (shM_0 (G := G) (B := B)) rfl) rfl rfl hl.1 rfl (lv_room (Nat.le_of_ble_eq_true rfl)) dX8_owes_67 ⟨Nat.zero_le _, Nat.zero_le _⟩) hS (fun H_28 lo_29 hX hS => ?_)
              refine x_ifeq (tgt := 77) hx hb dX8_owes_70 (by decide) (fun c_30 => ?_) (fun c_30 => ?_)
              · refine lv_iconst (v := 0) hx hb dX8_owes_77 (by decide) ?_
                exact kJ_15 (false) (by rw [if_neg (ne_of_true c_13), if_neg c_27, if_pos c_30]) _ _ hX hS ls (lv_sub hl [0, 1, 2, 3, 4] rfl)
              · refine lv_iconst (v := 1) hx hb dX8_owes_73 (by decide) ?_
                refine lv_goto (tgt := 78) hx hb dX8_owes_74 (by decide) ?_
                exact kJ_15 (true) (by rw [if_neg (ne_of_true c_13), if_neg c_27, if_neg (ne_of_true c_30)]) _ _ hX hS ls (lv_sub hl [0, 1, 2, 3, 4] rfl)
        · have nc_10 := (n_eq (a := tn a) (b := tn b2) hae hb2e (by omega) (by omega)).mp c_10
          refine lv_ldc (v := (-1000001)) hx hb hown (hts _ kX8_owes_63) dX8_owes_31 ?_
          rw [← hQ]
          refine x_iret (v := (-1000001)) hx hb hr hX hS hlocks dX8_owes_33 ?_
          show PT_X8_owes _ _ _ _ _ _ _ _
          unfold PT_X8_owes
          rw [if_neg (ne_of_true c_3), if_neg (ne_of_true c_6), if_neg (ne_of_true c_9), if_pos c_10]
          exact ⟨rfl, rfl⟩
