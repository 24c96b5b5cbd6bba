theorem kX7_nightSet_25 : (.fieldLink RX7 25 "WindTaken" "ridge" "LWindTaken$Ridge;" : Cond) ∈ wsX7_nightSet := by decide +kernel
theorem iX7_nightSet_X7 : ∀ w ∈ wsX70, w ∈ wsX7_nightSet := by decide +kernel
theorem kX7_nightSet_129 : (.fieldLink RX7 129 "WindTaken$Ridge" "count" "I" : Cond) ∈ wsX7_nightSet := by decide +kernel
theorem iX7_nightSet_X3 : ∀ w ∈ wsX30, w ∈ wsX7_nightSet := by decide +kernel
theorem kX7_nightSet_224 : (.constant RX7 224 (-1000000) : Cond) ∈ wsX7_nightSet := by decide +kernel
theorem kX7_nightSet_87 : (.fieldLink RX7 87 "WindTaken$Row" "items" "[I" : Cond) ∈ wsX7_nightSet := by decide +kernel
theorem iX7_nightSet_X4 : ∀ w ∈ wsX40, w ∈ wsX7_nightSet := by decide +kernel
abbrev rmX7_nightSet : Room := { frames := 4, cells := 0, slots := 0, locals := 91 }
set_option maxHeartbeats 4000000 in
set_option maxRecDepth 100000 in
theorem c_X7_nightSet (l : Launch) (G : GG) (B : Nat) (tt : Nat → Nat) (hW : WOK (wX G B tt)) (x : Mem) {q : Nat} (hq : q < 4) (nh : Int32) {ro : Nat} (hro : ro < 8) (i : Int32) {n : Nat} {nw : Nat → Int32} {w : Int32} (hR : RR n x 5 nw) (hRq : RQ n x q nw) (hSV : SV n nw x q hNo) (hBL : BL nw x q w) : Met l yX7_nightSet wsX7_nightSet rmX7_nightSet (XP G (wX G B tt) [.ref (B + (0)), .ref (B + (65 + 13 * q)), .int (nh), .ref (B + (29 + 2 * ro)), .int (i)] x) (va_Qi (fun r u => r = (nightV (nightF nw n q w nh x ro) i (2 ^ n)) ∧ u = x) (XB G (wX G B tt)) (blkA B (B + 117))) 0 0 (blkA B (B + 117)) := by
  refine Met.ofW (cc := cX7_nightSet) (maxL := 8) (ret := (some .int)) (by decide) rfl ?_
  intro pp ee ss mm aa bb mt cd s1 Bd hml hv
  obtain ⟨hae, hX, hK, hE⟩ := hv
  have hx := Bd.exec
  have hb := Bd.bytes
  have hr := Bd.returns
  have hts := atoms_spec (ws := wsX7_nightSet) Bd.pre
  have hown : ss.vm.findClass RX7 = some mm.cls := findClass_of_methodNamed Bd.named
  have hlocks := Bd.notSynchronized
  have hS : va_S (blkA B (B + 117)) ss.heap ss.heap [] := va_S.rf
  have hl := lv_entry ([.ref (B + (0)), .ref (B + (65 + 13 * q)), .int (nh), .ref (B + (29 + 2 * ro)), .int (i)]) (n := 8) (Nat.le_of_ble_eq_true rfl)
  subst hae
  rw [lg_entry_eq]
  generalize (lg_sl ([.ref (B + (0)), .ref (B + (65 + 13 * q)), .int (nh), .ref (B + (29 + 2 * ro)), .int (i)]) ++ List.replicate (8 - (lg_sl ([.ref (B + (0)), .ref (B + (65 + 13 * q)), .int (nh), .ref (B + (29 + 2 * ro)), .int (i)])).length) Slot.unset).toArray = ls at hl ⊢
  have hl : lv_has ls 8 [(0, .ref (B + (0))), (1, .ref (B + (65 + 13 * q))), (2, .int (nh)), (3, .ref (B + (29 + 2 * ro))), (4, .int (i))] := hl
  generalize ([.ref (B + (0)), .ref (B + (65 + 13 * q)), .int (nh), .ref (B + (29 + 2 * ro)), .int (i)] : List Value).toArray = aa at hts ⊢
  show W pp l ee rmX7_nightSet ss mm aa bb mt cd ss.heap [] 0 0 _ (F0 mm 0 ls [])
  generalize hQ : MQ bb (va_Qi (fun r u => r = (nightV (nightF nw n q w nh x ro) i (2 ^ n)) ∧ u = x) (XB G (wX G B tt)) (blkA B (B + 117))) aa ss 0 0 (blkA B (B + 117)) = Q
  have hn8 := hR.1
  have hp8 := pow8 hn8
  have hsh : (1 : Int32) <<< ((x (5) 1) &&& 31) = nI (2 ^ n) := by rw [hR.cnt]; exact shln n hn8
  refine lv_aload_n hx hb dX7_nightSet_0 rfl (lv_at hl 0 rfl) ?_
  refine x_get (w := (wX G B tt)) (a := 0) (v := .ref (B + (5))) hx hb hts iX7_nightSet_X7 hown hK hX (Nat.le_of_ble_eq_true rfl) (shX_mn (G := G) (B := B)) rfl 2 (by decide) (hts _ kX7_nightSet_25) (fun _ h9 => h9) rfl dX7_nightSet_1 ?_
  refine x_ip (w := (wX G B tt)) (x := x) (v := nI (maskN (fun j => decide (x (5 + 1 + 1 + j) 11 ≠ 0)) n)) (va_runV (As := []) (rest := []) ⟨hx, hb, hml, hown, hts⟩ (c_X3_furledSet (l := l) (G := G) (B := B) (tt := tt) (hW := hW) (x := x) (n := n) (nw := nw) (hR := hR)) (cwV 0 hts gX7_nightSet_X3_furledSet rfl rfl rfl (by decide +kernel) ⟨Nat.le_of_ble_eq_true rfl, Nat.le_of_ble_eq_true rfl⟩) (x_pv (w := (wX G B tt)) (a := 5) hW hX hK hE hS [] (rg_lt rg5) (shX_ri (G := G) (B := B) rg5) rfl) rfl rfl hl.1 rfl (lv_room (Nat.le_of_ble_eq_true rfl)) dX7_nightSet_4 ⟨Nat.zero_le _, Nat.zero_le _⟩) hS (fun H_1 lo_2 hX hS => ?_)
  refine lv_istore (lv' := [(5, .int (nI (maskN (fun j => decide (x (5 + 1 + 1 + j) 11 ≠ 0)) n))), (0, .ref (B + (0))), (1, .ref (B + (65 + 13 * q))), (2, .int (nh)), (3, .ref (B + (29 + 2 * ro))), (4, .int (i))]) hx hb dX7_nightSet_7 hl (by decide) rfl (fun ls hl => ?_)
  refine lv_iconst (v := 0) hx hb dX7_nightSet_9 (by decide) ?_
  refine lv_istore (lv' := [(6, .int (0)), (5, .int (nI (maskN (fun j => decide (x (5 + 1 + 1 + j) 11 ≠ 0)) n))), (0, .ref (B + (0))), (1, .ref (B + (65 + 13 * q))), (2, .int (nh)), (3, .ref (B + (29 + 2 * ro))), (4, .int (i))]) hx hb dX7_nightSet_10 hl (by decide) rfl (fun ls hl => ?_)
  refine lv_iconst (v := 0) hx hb dX7_nightSet_12 (by decide) ?_
  refine lv_istore (lv' := [(7, .int (0)), (6, .int (0)), (5, .int (nI (maskN (fun j => decide (x (5 + 1 + 1 + j) 11 ≠ 0)) n))), (0, .ref (B + (0))), (1, .ref (B + (65 + 13 * q))), (2, .int (nh)), (3, .ref (B + (29 + 2 * ro))), (4, .int (i))]) hx hb dX7_nightSet_13 hl (by decide) rfl (fun ls hl => ?_)
  have L_3 : ∀ (n9 : Nat) (s : Nat) (ft : Int32)  (_ : n9 = 2 ^ n - s) (_ : s ≤ 2 ^ n ∧ nightR (nightF nw n q w nh x ro) i s = none ∧ ft = nI (cntN (nightF nw n q w nh x ro) s)) (H_4 : Heap) (lo_5 : List Loc) (_ : MR G (wX G B tt) x H_4) (_ : va_S (blkA B (B + 117)) ss.heap H_4 lo_5) (ls : Array Slot) (_ : lv_has ls 8 [(7, .int (nI s)), (6, .int (ft)), (5, .int (nI (maskN (fun j => decide (x (5 + 1 + 1 + j) 11 ≠ 0)) n))), (0, .ref (B + (0))), (1, .ref (B + (65 + 13 * q))), (2, .int (nh)), (3, .ref (B + (29 + 2 * ro))), (4, .int (i))]), W pp l ee rmX7_nightSet ss mm aa bb mt cd H_4 lo_5 0 0 Q (F0 mm 15 ls []) := by
    intro n9
    induction n9 using Nat.strongRecOn with
    | _ n9 ih => 
      have ih_15 := ih
      intro s ft hn9 hI H_4 lo_5 hX hS ls hl
      obtain ⟨hs, hN, hft⟩ := hI
      refine lv_iload hx hb dX7_nightSet_15 (lv_at hl 0 rfl) ?_
      refine lv_iconst (v := 1) hx hb dX7_nightSet_17 (by decide) ?_
      refine lv_aload_n hx hb dX7_nightSet_18 rfl (lv_at hl 3 rfl) ?_
      refine x_get (w := (wX G B tt)) (a := 0) (v := .ref (B + (5))) hx hb hts iX7_nightSet_X7 hown hK hX (Nat.le_of_ble_eq_true rfl) (shX_mn (G := G) (B := B)) rfl 2 (by decide) (hts _ kX7_nightSet_25) (fun _ h9 => h9) rfl dX7_nightSet_19 ?_
      refine x_get (w := (wX G B tt)) (a := 5) (v := .int (x (5) 1)) hx hb hts iX7_nightSet_X3 hown hK hX (rg_lt rg5) (shX_ri (G := G) (B := B) rg5) rfl 1 (by decide) (hts _ kX7_nightSet_129) (fun _ h9 => h9) rfl dX7_nightSet_22 ?_
      refine lv_ishl hx hb dX7_nightSet_25 ?_
      refine lv_icmp_ge (tgt := 70) hx hb dX7_nightSet_26 (by decide) (fun c_6 => ?_) (fun c_6 => ?_)
      · have nc_6 := (n_le (a := 2 ^ n) (b := s) hsh rfl (by omega) (by omega)).mp c_6
        refine lv_iload hx hb dX7_nightSet_70 (lv_at hl 7 rfl) ?_
        refine lv_iconst (v := (-1)) hx hb dX7_nightSet_72 (by decide) ?_
        have kJ_9 : ∀ (v_8 : Int32) (_ : v_8 = (if i = ((-1)) then ft else ((-1000000)))) (H_10 : Heap) (lo_11 : List Loc) (_ : MR G (wX G B tt) x H_10) (_ : va_S (blkA B (B + 117)) ss.heap H_10 lo_11) (ls : Array Slot) (_ : lv_has ls 8 [(7, .int (nI s)), (6, .int (ft)), (5, .int (nI (maskN (fun j => decide (x (5 + 1 + 1 + j) 11 ≠ 0)) n))), (0, .ref (B + (0))), (1, .ref (B + (65 + 13 * q))), (2, .int (nh)), (3, .ref (B + (29 + 2 * ro))), (4, .int (i))]), W pp l ee rmX7_nightSet ss mm aa bb mt cd H_10 lo_11 0 0 Q (F0 mm 83 ls [.int (v_8)]) := by
          intro v_8 ev_8 H_10 lo_11 hX hS ls hl
          rw [← hQ]
          refine x_iret (v := v_8) hx hb hr hX hS hlocks dX7_nightSet_83 ?_
          have e9 : s = 2 ^ n := by omega
          subst e9
          exact ⟨by rw [night_end hN hft, ev_8], rfl⟩
        refine lv_icmp_ne (tgt := 81) hx hb dX7_nightSet_73 (by decide) (fun c_7 => ?_) (fun c_7 => ?_)
        · refine lv_ldc (v := (-1000000)) hx hb hown (hts _ kX7_nightSet_224) dX7_nightSet_81 ?_
          exact kJ_9 ((-1000000)) (by rw [if_neg c_7]) _ _ hX hS ls (lv_sub hl [0, 1, 2, 3, 4, 5, 6, 7] rfl)
        · refine lv_iload hx hb dX7_nightSet_76 (lv_at hl 1 rfl) ?_
          refine lv_goto (tgt := 83) hx hb dX7_nightSet_78 (by decide) ?_
          exact kJ_9 (ft) (by rw [if_pos c_7]) _ _ hX hS ls (lv_sub hl [0, 1, 2, 3, 4, 5, 6, 7] rfl)
      · have nc_6 := Nat.not_le.mp (fun q => c_6 ((n_le (a := 2 ^ n) (b := s) hsh rfl (by omega) (by omega)).mpr q))
        refine lv_iload hx hb dX7_nightSet_29 (lv_at hl 0 rfl) ?_
        refine lv_iload hx hb dX7_nightSet_31 (lv_at hl 2 rfl) ?_
        refine lv_iand hx hb dX7_nightSet_33 ?_
        refine lv_if_ne (tgt := 64) hx hb dX7_nightSet_34 (by decide) (fun c_12 => ?_) (fun c_12 => ?_)
        · refine lv_iinc (v := nI (s + 1)) (lv' := [(7, .int (nI (s + 1))), (6, .int (ft)), (5, .int (nI (maskN (fun j => decide (x (5 + 1 + 1 + j) 11 ≠ 0)) n))), (0, .ref (B + (0))), (1, .ref (B + (65 + 13 * q))), (2, .int (nh)), (3, .ref (B + (29 + 2 * ro))), (4, .int (i))]) hx hb dX7_nightSet_64 hl (k := 0) rfl (inc_nI _) (by decide) rfl (fun ls hl => ?_)
          refine lv_goto (tgt := 15) hx hb dX7_nightSet_67 (by decide) ?_
          exact ih_15 _ (by omega) (s + 1) (ft) rfl (by first | exact ⟨by omega, night_skip (night_f1 c_12) hN hft⟩ | exact ⟨by omega, night_skip (night_f2 c_12) hN hft⟩ | exact ⟨by omega, night_on (night_f3 rfl c_6) c_12 hN hft⟩) _ _ hX hS ls (lv_sub hl [0, 1, 2, 3, 4, 5, 6, 7] rfl)
        · refine lv_aload_n hx hb dX7_nightSet_37 rfl (lv_at hl 4 rfl) ?_
          refine lv_aload_n hx hb dX7_nightSet_38 rfl (lv_at hl 6 rfl) ?_
          refine x_get (w := (wX G B tt)) (a := 29 + 2 * ro) (v := .ref (B + (29 + 2 * ro + 1))) hx hb hts iX7_nightSet_X4 hown hK hX (rw_lt hro) (shX_rw (G := G) (B := B) hro) rfl 0 (by decide) (hts _ kX7_nightSet_87) (fun _ h9 => h9) rfl dX7_nightSet_39 ?_
          refine lv_iload_n hx hb dX7_nightSet_42 rfl (lv_at hl 5 rfl) ?_
          refine lv_iload hx hb dX7_nightSet_43 (lv_at hl 0 rfl) ?_
          refine x_ip (w := (wX G B tt)) (x := x) (v := bI (allN (fun m => decide (jmin (nh * sFree nw n m q w s hNo) (sF nw m 3) = x (29 + 2 * ro + 1) m)) n)) (va_runV (As := [.ref (B + (29 + 2 * ro + 1)), .int (nh), .int (nI s)]) (rest := []) ⟨hx, hb, hml, hown, hts⟩ (c_X1_wouldGrind (l := l) (G := G) (B := B) (tt := tt) (hW := hW) (x := x) (q := q) (hq := hq) (ro := ro) (hro := hro) (nh := nh) (s := s) (n := n) (nw := nw) (h := hNo) (w := w) (hRq := hRq) (hSV := hSV) (hBL := hBL)) (cwV 3 hts gX7_nightSet_X1_wouldGrind rfl rfl rfl (by decide +kernel) ⟨Nat.le_of_ble_eq_true rfl, Nat.le_of_ble_eq_true rfl⟩) (x_pv (w := (wX G B tt)) (a := 65 + 13 * q) hW hX hK hE hS [.ref (B + (29 + 2 * ro + 1)), .int (nh), .int (nI s)] (qu_lt hq) (shX_qu (G := G) (B := B) hq) rfl) rfl rfl hl.1 rfl (lv_room (Nat.le_of_ble_eq_true rfl)) dX7_nightSet_45 ⟨Nat.zero_le _, Nat.zero_le _⟩) hS (fun H_13 lo_14 hX hS => ?_)
          refine x_ifeq (tgt := 64) hx hb dX7_nightSet_48 (by decide) (fun c_15 => ?_) (fun c_15 => ?_)
          · refine lv_iinc (v := nI (s + 1)) (lv' := [(7, .int (nI (s + 1))), (6, .int (ft)), (5, .int (nI (maskN (fun j => decide (x (5 + 1 + 1 + j) 11 ≠ 0)) n))), (0, .ref (B + (0))), (1, .ref (B + (65 + 13 * q))), (2, .int (nh)), (3, .ref (B + (29 + 2 * ro))), (4, .int (i))]) hx hb dX7_nightSet_64 hl (k := 0) rfl (inc_nI _) (by decide) rfl (fun ls hl => ?_)
            refine lv_goto (tgt := 15) hx hb dX7_nightSet_67 (by decide) ?_
            exact ih_15 _ (by omega) (s + 1) (ft) rfl (by first | exact ⟨by omega, night_skip (night_f1 c_15) hN hft⟩ | exact ⟨by omega, night_skip (night_f2 c_15) hN hft⟩ | exact ⟨by omega, night_on (night_f3 c_6 c_12) c_15 hN hft⟩) _ _ hX hS ls (lv_sub hl [0, 1, 2, 3, 4, 5, 6, 7] rfl)
          · refine lv_iload hx hb dX7_nightSet_51 (lv_at hl 1 rfl) ?_
            refine lv_iload hx hb dX7_nightSet_53 (lv_at hl 7 rfl) ?_
            refine lv_icmp_ne (tgt := 61) hx hb dX7_nightSet_55 (by decide) (fun c_16 => ?_) (fun c_16 => ?_)
            · refine lv_iinc (v := ft + Int32.ofInt (1)) (lv' := [(6, .int (ft + Int32.ofInt (1))), (7, .int (nI s)), (5, .int (nI (maskN (fun j => decide (x (5 + 1 + 1 + j) 11 ≠ 0)) n))), (0, .ref (B + (0))), (1, .ref (B + (65 + 13 * q))), (2, .int (nh)), (3, .ref (B + (29 + 2 * ro))), (4, .int (i))]) hx hb dX7_nightSet_61 hl (k := 1) rfl rfl (by decide) rfl (fun ls hl => ?_)
              refine lv_iinc (v := nI (s + 1)) (lv' := [(7, .int (nI (s + 1))), (6, .int (ft + Int32.ofInt (1))), (5, .int (nI (maskN (fun j => decide (x (5 + 1 + 1 + j) 11 ≠ 0)) n))), (0, .ref (B + (0))), (1, .ref (B + (65 + 13 * q))), (2, .int (nh)), (3, .ref (B + (29 + 2 * ro))), (4, .int (i))]) hx hb dX7_nightSet_64 hl (k := 1) rfl (inc_nI _) (by decide) rfl (fun ls hl => ?_)
              refine lv_goto (tgt := 15) hx hb dX7_nightSet_67 (by decide) ?_
              exact ih_15 _ (by omega) (s + 1) (ft + Int32.ofInt (1)) rfl (by first | exact ⟨by omega, night_skip (night_f1 c_16) hN hft⟩ | exact ⟨by omega, night_skip (night_f2 c_16) hN hft⟩ | exact ⟨by omega, night_on (night_f3 c_12 c_15) c_16 hN hft⟩) _ _ hX hS ls (lv_sub hl [0, 1, 2, 3, 4, 5, 6, 7] rfl)
            · refine lv_iload hx hb dX7_nightSet_58 (lv_at hl 0 rfl) ?_
              rw [← hQ]
              refine x_iret (v := nI s) hx hb hr hX hS hlocks dX7_nightSet_60 ?_
              exact ⟨(night_hit (night_f3 c_12 c_15) c_16 hN hft (by omega)).symm, rfl⟩
  exact L_3 _ (0) (0) rfl ⟨Nat.zero_le _, rfl, rfl⟩ _ _ hX hS ls (lv_sub hl [0, 1, 2, 3, 4, 5, 6, 7] rfl)

def PT_X7_night (x : Mem) (q : Int32) (w : Int32) (nh : Int32) (a : Int32) (i : Int32) (n : Nat) (nw : Nat → Int32) (r : Int32) (u : Mem) : Prop := (if (decide (x 5 1 = 0)) = false then (if ((decide (0 ≤ q) && decide (q ≤ 3)) && (decide (0 ≤ w) && decide (w ≤ 100))) = false then (r = (-1000001) ∧ u = x) else (if (decide (((1 : Int32)) ≤ nh) && decide (nh ≤ ((24 : Int32)))) = false then (r = (-1000001) ∧ u = x) else (if (decide (0 ≤ a) && decide (a ≤ 7)) = false then (r = (-1000001) ∧ u = x) else (if ((-1)) ≤ i then (if (decide (x (29 + 2 * (tn a)) 2 = -1)) = false then (if (decide (0 ≤ ((0 : Int32))) && (decide (0 ≤ (x (5) 1)) && decide ((x (5) 1) ≤ x (29 + 2 * (tn a)) 2 - ((0 : Int32))))) = true then (r = nightV (nightF nw n (tn q) w nh x (tn a)) i (2 ^ n) ∧ ∃ y, offQ (tn q) x y ∧ u = mst y 0 8 0) else (r = -1000010 - 2 ∧ u = mst x 0 8 2)) else (r = -1000010 - 1 ∧ u = mst x 0 8 1)) else (r = (-1000001) ∧ u = x))))) else (r = (-1000002) ∧ u = x))
theorem kX7_night_25 : (.fieldLink RX7 25 "WindTaken" "ridge" "LWindTaken$Ridge;" : Cond) ∈ wsX7_night := by decide +kernel
theorem iX7_night_X7 : ∀ w ∈ wsX70, w ∈ wsX7_night := by decide +kernel
theorem kX7_night_59 : (.constant RX7 59 (-1000001) : Cond) ∈ wsX7_night := by decide +kernel
theorem kX7_night_11 : (.fieldLink RX7 11 "WindTaken" "rows" "[LWindTaken$Row;" : Cond) ∈ wsX7_night := by decide +kernel
theorem kX7_night_129 : (.fieldLink RX7 129 "WindTaken$Ridge" "count" "I" : Cond) ∈ wsX7_night := by decide +kernel
theorem iX7_night_X3 : ∀ w ∈ wsX30, w ∈ wsX7_night := by decide +kernel
theorem kX7_night_155 : (.constant RX7 155 (-1000002) : Cond) ∈ wsX7_night := by decide +kernel
abbrev rmX7_night : Room := { frames := 5, cells := 0, slots := 0, locals := 118 }
set_option maxHeartbeats 4000000 in
set_option maxRecDepth 100000 in
theorem c_X7_night (l : Launch) (G : GG) (B : Nat) (tt : Nat → Nat) (hW : WOK (wX G B tt)) (x : Mem) (q : Int32) (w : Int32) (nh : Int32) (a : Int32) (i : Int32) {n : Nat} {nw : Nat → Int32} (hR : RR n x 5 nw) : Met l yX7_night wsX7_night rmX7_night (XP G (wX G B tt) [.ref (B + (0)), .int (q), .int (w), .int (nh), .int (a), .int (i)] x) (va_Qi (fun r u => PT_X7_night x q w nh a i n nw r u) (XB G (wX G B tt)) (blkA B (B + 117))) 0 0 (blkA B (B + 117)) := by
  refine Met.ofW (cc := cX7_night) (maxL := 7) (ret := (some .int)) (by decide) rfl ?_
  intro pp ee ss mm aa bb mt cd s1 Bd hml hv
  obtain ⟨hae, hX, hK, hE⟩ := hv
  have hx := Bd.exec
  have hb := Bd.bytes
  have hr := Bd.returns
  have hts := atoms_spec (ws := wsX7_night) Bd.pre
  have hown : ss.vm.findClass RX7 = some mm.cls := findClass_of_methodNamed Bd.named
  have hlocks := Bd.notSynchronized
  have hS : va_S (blkA B (B + 117)) ss.heap ss.heap [] := va_S.rf
  have hl := lv_entry ([.ref (B + (0)), .int (q), .int (w), .int (nh), .int (a), .int (i)]) (n := 7) (Nat.le_of_ble_eq_true rfl)
  subst hae
  rw [lg_entry_eq]
  generalize (lg_sl ([.ref (B + (0)), .int (q), .int (w), .int (nh), .int (a), .int (i)]) ++ List.replicate (7 - (lg_sl ([.ref (B + (0)), .int (q), .int (w), .int (nh), .int (a), .int (i)])).length) Slot.unset).toArray = ls at hl ⊢
  have hl : lv_has ls 7 [(0, .ref (B + (0))), (1, .int (q)), (2, .int (w)), (3, .int (nh)), (4, .int (a)), (5, .int (i))] := hl
  generalize ([.ref (B + (0)), .int (q), .int (w), .int (nh), .int (a), .int (i)] : List Value).toArray = aa at hts ⊢
  show W pp l ee rmX7_night ss mm aa bb mt cd ss.heap [] 0 0 _ (F0 mm 0 ls [])
  generalize hQ : MQ bb (va_Qi (fun r u => PT_X7_night x q w nh a i n nw r u) (XB G (wX G B tt)) (blkA B (B + 117))) aa ss 0 0 (blkA B (B + 117)) = Q
  have hn8 := hR.1
  refine lv_aload_n hx hb dX7_night_0 rfl (lv_at hl 0 rfl) ?_
  refine x_get (w := (wX G B tt)) (a := 0) (v := .ref (B + (5))) hx hb hts iX7_night_X7 hown hK hX (Nat.le_of_ble_eq_true rfl) (shX_mn (G := G) (B := B)) rfl 2 (by decide) (hts _ kX7_night_25) (fun _ h9 => h9) rfl dX7_night_1 ?_
  refine x_ip (w := (wX G B tt)) (x := x) (v := bI (decide (x 5 1 = 0))) (va_runV (As := []) (rest := []) ⟨hx, hb, hml, hown, hts⟩ (c_X3_isNone (l := l) (G := G) (B := B) (tt := tt) (hW := hW) (x := x) (ρ := 5) (hρ := rg5)) (cwV 0 hts gX7_night_X3_isNone rfl rfl rfl (by decide +kernel) ⟨Nat.le_of_ble_eq_true rfl, Nat.le_of_ble_eq_true rfl⟩) (x_pv (w := (wX G B tt)) (a := 5) hW hX hK hE hS [] (rg_lt rg5) (shX_ri (G := G) (B := B) rg5) rfl) rfl rfl hl.1 rfl (lv_room (Nat.le_of_ble_eq_true rfl)) dX7_night_4 ⟨Nat.zero_le _, Nat.zero_le _⟩) hS (fun H_1 lo_2 hX hS => ?_)
  refine x_ifeq (tgt := 13) hx hb dX7_night_7 (by decide) (fun c_3 => ?_) (fun c_3 => ?_)
  · refine lv_iload_n hx hb dX7_night_13 rfl (lv_at hl 1 rfl) ?_
    refine lv_iload_n hx hb dX7_night_14 rfl (lv_at hl 2 rfl) ?_
    refine x_ip (w := (wX G B tt)) (x := x) (v := bI ((decide (0 ≤ q) && decide (q ≤ 3)) && (decide (0 ≤ w) && decide (w ≤ 100)))) (va_runS (As := [.int (q), .int (w)]) (rest := []) ⟨hx, hb, hml, hown, hts⟩ (c_X7_isWind (l := l) (G := G) (B := B) (tt := tt) (hW := hW) (x := x) (q := q) (v := w)) (va_cwS 2 hts gX7_night_X7_isWind rfl rfl rfl (by decide +kernel) ⟨Nat.le_of_ble_eq_true rfl, Nat.le_of_ble_eq_true rfl⟩) (x_ps (w := (wX G B tt)) hW hX hK hE hS [.int (q), .int (w)]) rfl rfl hl.1 rfl (lv_room (Nat.le_of_ble_eq_true rfl)) dX7_night_15 ⟨Nat.zero_le _, Nat.zero_le _⟩) hS (fun H_4 lo_5 hX hS => ?_)
    refine x_ifeq (tgt := 45) hx hb dX7_night_18 (by decide) (fun c_6 => ?_) (fun c_6 => ?_)
    · refine lv_ldc (v := (-1000001)) hx hb hown (hts _ kX7_night_59) dX7_night_45 ?_
      rw [← hQ]
      refine x_iret (v := (-1000001)) hx hb hr hX hS hlocks dX7_night_47 ?_
      show PT_X7_night _ _ _ _ _ _ _ _ _ _
      unfold PT_X7_night
      rw [if_pos c_3, if_pos c_6]
      exact ⟨rfl, rfl⟩
    · obtain ⟨hqe, hq4⟩ := windQ c_6
      refine lv_iload_n hx hb dX7_night_21 rfl (lv_at hl 3 rfl) ?_
      refine lv_iconst (v := 1) hx hb dX7_night_22 (by decide) ?_
      refine lv_bipush (v := 24) hx hb dX7_night_23 (by decide) ?_
      refine x_ip (w := (wX G B tt)) (x := x) (v := bI (decide (((1 : Int32)) ≤ nh) && decide (nh ≤ ((24 : Int32))))) (va_runS (As := [.int (nh), .int (1), .int (24)]) (rest := []) ⟨hx, hb, hml, hown, hts⟩ (c_X7_isWithin (l := l) (G := G) (B := B) (tt := tt) (hW := hW) (x := x) (v := nh) (lo := 1) (hi := 24)) (va_cwS 3 hts gX7_night_X7_isWithin rfl rfl rfl (by decide +kernel) ⟨Nat.le_of_ble_eq_true rfl, Nat.le_of_ble_eq_true rfl⟩) (x_ps (w := (wX G B tt)) hW hX hK hE hS [.int (nh), .int (1), .int (24)]) rfl rfl hl.1 rfl (lv_room (Nat.le_of_ble_eq_true rfl)) dX7_night_25 ⟨Nat.zero_le _, Nat.zero_le _⟩) hS (fun H_7 lo_8 hX hS => ?_)
      refine x_ifeq (tgt := 45) hx hb dX7_night_28 (by decide) (fun c_9 => ?_) (fun c_9 => ?_)
      · refine lv_ldc (v := (-1000001)) hx hb hown (hts _ kX7_night_59) dX7_night_45 ?_
        rw [← hQ]
        refine x_iret (v := (-1000001)) hx hb hr hX hS hlocks dX7_night_47 ?_
        show PT_X7_night _ _ _ _ _ _ _ _ _ _
        unfold PT_X7_night
        rw [if_pos c_3, if_neg (ne_of_true c_6), if_pos c_9]
        exact ⟨rfl, rfl⟩
      · refine lv_iload hx hb dX7_night_31 (lv_at hl 4 rfl) ?_
        refine x_ip (w := (wX G B tt)) (x := x) (v := bI (decide (0 ≤ a) && decide (a ≤ 7))) (va_runS (As := [.int (a)]) (rest := []) ⟨hx, hb, hml, hown, hts⟩ (c_X7_isRow (l := l) (G := G) (B := B) (tt := tt) (hW := hW) (x := x) (v := a)) (va_cwS 1 hts gX7_night_X7_isRow rfl rfl rfl (by decide +kernel) ⟨Nat.le_of_ble_eq_true rfl, Nat.le_of_ble_eq_true rfl⟩) (x_ps (w := (wX G B tt)) hW hX hK hE hS [.int (a)]) rfl rfl hl.1 rfl (lv_room (Nat.le_of_ble_eq_true rfl)) dX7_night_33 ⟨Nat.zero_le _, Nat.zero_le _⟩) hS (fun H_10 lo_11 hX hS => ?_)
        refine x_ifeq (tgt := 45) hx hb dX7_night_36 (by decide) (fun c_12 => ?_) (fun c_12 => ?_)
        · refine lv_ldc (v := (-1000001)) hx hb hown (hts _ kX7_night_59) dX7_night_45 ?_
          rw [← hQ]
          refine x_iret (v := (-1000001)) hx hb hr hX hS hlocks dX7_night_47 ?_
          show PT_X7_night _ _ _ _ _ _ _ _ _ _
          unfold PT_X7_night
          rw [if_pos c_3, if_neg (ne_of_true c_6), if_neg (ne_of_true c_9), if_pos c_12]
          exact ⟨rfl, rfl⟩
        · obtain ⟨hae, ha8⟩ := rowN c_12
          refine lv_iload hx hb dX7_night_39 (lv_at hl 5 rfl) ?_
          refine lv_iconst (v := (-1)) hx hb dX7_night_41 (by decide) ?_
          refine lv_icmp_ge (tgt := 48) hx hb dX7_night_42 (by decide) (fun c_13 => ?_) (fun c_13 => ?_)
          · refine lv_aload_n hx hb dX7_night_48 rfl (lv_at hl 0 rfl) ?_
            refine x_get (w := (wX G B tt)) (a := 0) (v := .ref (B + (1))) hx hb hts iX7_night_X7 hown hK hX (Nat.le_of_ble_eq_true rfl) (shX_mn (G := G) (B := B)) rfl 0 (by decide) (hts _ kX7_night_11) (fun _ h9 => h9) rfl dX7_night_49 ?_
            refine lv_iload hx hb dX7_night_52 (lv_at hl 4 rfl) ?_
            refine x_aald (w := (wX G B tt)) (a := 1) (n := 8) (j := tn a) (q := B + (29 + 2 * (tn a))) (t0 := 5) hx hb hK hX (Nat.le_of_ble_eq_true rfl) (shX_ra (G := G) (B := B) (f := x (1))) rfl hae (by omega) (by decide) rfl dX7_night_54 ?_
            refine lv_astore (lv' := [(6, .ref (B + (29 + 2 * (tn a)))), (0, .ref (B + (0))), (1, .int (q)), (2, .int (w)), (3, .int (nh)), (4, .int (a)), (5, .int (i))]) hx hb dX7_night_55 hl (by decide) rfl (fun ls hl => ?_)
            refine lv_aload hx hb dX7_night_57 (lv_at hl 0 rfl) ?_
            refine x_ip (w := (wX G B tt)) (x := x) (v := bI (decide (x (29 + 2 * (tn a)) 2 = -1))) (va_runV (As := []) (rest := []) ⟨hx, hb, hml, hown, hts⟩ (c_X4_isMissing (l := l) (G := G) (B := B) (tt := tt) (hW := hW) (x := x) (ro := tn a) (hro := (by omega))) (cwV 0 hts gX7_night_X4_isMissing rfl rfl rfl (by decide +kernel) ⟨Nat.le_of_ble_eq_true rfl, Nat.le_of_ble_eq_true rfl⟩) (x_pv (w := (wX G B tt)) (a := 29 + 2 * (tn a)) hW hX hK hE hS [] (rw_lt (by omega)) (shX_rw (G := G) (B := B) (by omega)) rfl) rfl rfl hl.1 rfl (lv_room (Nat.le_of_ble_eq_true rfl)) dX7_night_59 ⟨Nat.zero_le _, Nat.zero_le _⟩) hS (fun H_14 lo_15 hX hS => ?_)
            refine x_ifeq (tgt := 71) hx hb dX7_night_62 (by decide) (fun c_16 => ?_) (fun c_16 => ?_)
            · refine lv_aload hx hb dX7_night_71 (lv_at hl 0 rfl) ?_
              refine lv_iconst (v := 0) hx hb dX7_night_73 (by decide) ?_
              refine lv_aload_n hx hb dX7_night_74 rfl (lv_at hl 1 rfl) ?_
              refine x_get (w := (wX G B tt)) (a := 0) (v := .ref (B + (5))) hx hb hts iX7_night_X7 hown hK hX (Nat.le_of_ble_eq_true rfl) (shX_mn (G := G) (B := B)) rfl 2 (by decide) (hts _ kX7_night_25) (fun _ h9 => h9) rfl dX7_night_75 ?_
              refine x_get (w := (wX G B tt)) (a := 5) (v := .int (x (5) 1)) hx hb hts iX7_night_X3 hown hK hX (rg_lt rg5) (shX_ri (G := G) (B := B) rg5) rfl 1 (by decide) (hts _ kX7_night_129) (fun _ h9 => h9) rfl dX7_night_78 ?_
              refine x_ip (w := (wX G B tt)) (x := x) (v := bI (decide (0 ≤ ((0 : Int32))) && (decide (0 ≤ (x (5) 1)) && decide ((x (5) 1) ≤ x (29 + 2 * (tn a)) 2 - ((0 : Int32)))))) (va_runV (As := [.int (0), .int (x (5) 1)]) (rest := []) ⟨hx, hb, hml, hown, hts⟩ (c_X4_covers (l := l) (G := G) (B := B) (tt := tt) (hW := hW) (x := x) (ro := tn a) (hro := (by omega)) (i := 0) (n := x (5) 1)) (cwV 2 hts gX7_night_X4_covers rfl rfl rfl (by decide +kernel) ⟨Nat.le_of_ble_eq_true rfl, Nat.le_of_ble_eq_true rfl⟩) (x_pv (w := (wX G B tt)) (a := 29 + 2 * (tn a)) hW hX hK hE hS [.int (0), .int (x (5) 1)] (rw_lt (by omega)) (shX_rw (G := G) (B := B) (by omega)) rfl) rfl rfl hl.1 rfl (lv_room (Nat.le_of_ble_eq_true rfl)) dX7_night_81 ⟨Nat.zero_le _, Nat.zero_le _⟩) hS (fun H_17 lo_18 hX hS => ?_)
              refine x_ifne (tgt := 93) hx hb dX7_night_84 (by decide) (fun c_19 => ?_) (fun c_19 => ?_)
              · refine lv_aload_n hx hb dX7_night_93 rfl (lv_at hl 1 rfl) ?_
                refine lv_aload_n hx hb dX7_night_94 rfl (lv_at hl 1 rfl) ?_
                refine lv_aload_n hx hb dX7_night_95 rfl (lv_at hl 1 rfl) ?_
                refine lv_iload_n hx hb dX7_night_96 rfl (lv_at hl 2 rfl) ?_
                refine lv_iload_n hx hb dX7_night_97 rfl (lv_at hl 3 rfl) ?_
                refine W.eq (g2 := F0 mm 98 ls [.int (w), .int (nI (tn q)), .ref (B + (0)), .ref (B + (0)), .ref (B + (0))]) (congrArg (fun z9 : Int32 => F0 mm 98 ls [.int (w), .int (z9), .ref (B + (0)), .ref (B + (0)), .ref (B + (0))]) hqe) ?_
                refine x_rf (w := (wX G B tt)) (va_runV (As := [.int (nI (tn q)), .int (w)]) (rest := [.ref (B + (0)), .ref (B + (0))]) ⟨hx, hb, hml, hown, hts⟩ (c_X7_windOf (l := l) (G := G) (B := B) (tt := tt) (hW := hW) (x := x) (q := tn q) (w := w) (n := n) (nw := nw) (hR := hR) (hq := (by omega))) (cwV 2 hts gX7_night_X7_windOf rfl rfl rfl (by decide +kernel) ⟨Nat.le_of_ble_eq_true rfl, Nat.le_of_ble_eq_true rfl⟩) (x_pv (w := (wX G B tt)) (a := 0) hW hX hK hE hS [.int (nI (tn q)), .int (w)] (Nat.le_of_ble_eq_true rfl) (shX_mn (G := G) (B := B)) rfl) rfl rfl hl.1 rfl (lv_room (Nat.le_of_ble_eq_true rfl)) dX7_night_98 ⟨Nat.zero_le _, Nat.zero_le _⟩) hS (fun x_22 H_20 lo_21 h_98 hX hS => ?_)
                try dsimp only at h_98
                obtain ⟨hof, hSV, hBL, hRq⟩ := h_98
                have hR1 := hR.off rc5 hof
                refine lv_iload_n hx hb dX7_night_101 rfl (lv_at hl 4 rfl) ?_
                refine lv_aload hx hb dX7_night_102 (lv_at hl 0 rfl) ?_
                refine lv_iload hx hb dX7_night_104 (lv_at hl 6 rfl) ?_
                refine x_ip (w := (wX G B tt)) (x := x_22) (v := nightV (nightF nw n (tn q) w nh x_22 (tn a)) i (2 ^ n)) (va_runV (As := [.ref (B + (65 + 13 * (tn q))), .int (nh), .ref (B + (29 + 2 * (tn a))), .int (i)]) (rest := [.ref (B + (0))]) ⟨hx, hb, hml, hown, hts⟩ (c_X7_nightSet (l := l) (G := G) (B := B) (tt := tt) (hW := hW) (x := x_22) (q := tn q) (hq := (by omega)) (nh := nh) (ro := tn a) (hro := (by omega)) (i := i) (n := n) (nw := nw) (w := w) (hR := hR1) (hRq := hRq) (hSV := hSV) (hBL := hBL)) (cwV 4 hts gX7_night_X7_nightSet rfl rfl rfl (by decide +kernel) ⟨Nat.le_of_ble_eq_true rfl, Nat.le_of_ble_eq_true rfl⟩) (x_pv (w := (wX G B tt)) (a := 0) hW hX hK hE hS [.ref (B + (65 + 13 * (tn q))), .int (nh), .ref (B + (29 + 2 * (tn a))), .int (i)] (Nat.le_of_ble_eq_true rfl) (shX_mn (G := G) (B := B)) rfl) rfl rfl hl.1 rfl (lv_room (Nat.le_of_ble_eq_true rfl)) dX7_night_106 ⟨Nat.zero_le _, Nat.zero_le _⟩) hS (fun H_23 lo_24 hX hS => ?_)
                refine x_if (w := (wX G B tt)) (va_runV (As := [.int (nightV (nightF nw n (tn q) w nh x_22 (tn a)) i (2 ^ n))]) (rest := []) ⟨hx, hb, hml, hown, hts⟩ (c_X7_unfound (l := l) (G := G) (B := B) (tt := tt) (hW := hW) (x := x_22) (a := nightV (nightF nw n (tn q) w nh x_22 (tn a)) i (2 ^ n))) (cwV 1 hts gX7_night_X7_unfound rfl rfl rfl (by decide +kernel) ⟨Nat.le_of_ble_eq_true rfl, Nat.le_of_ble_eq_true rfl⟩) (x_pv (w := (wX G B tt)) (a := 0) hW hX hK hE hS [.int (nightV (nightF nw n (tn q) w nh x_22 (tn a)) i (2 ^ n))] (Nat.le_of_ble_eq_true rfl) (shX_mn (G := G) (B := B)) rfl) rfl rfl hl.1 rfl (lv_room (Nat.le_of_ble_eq_true rfl)) dX7_night_109 ⟨Nat.zero_le _, Nat.zero_le _⟩) hS (fun r_27 x_28 H_25 lo_26 h_109 hX hS => ?_)
                try dsimp only at h_109
                rw [← hQ]
                refine x_iret (v := r_27) hx hb hr hX hS hlocks dX7_night_112 ?_
                show PT_X7_night _ _ _ _ _ _ _ _ _ _
                unfold PT_X7_night
                rw [if_pos c_3, if_neg (ne_of_true c_6), if_neg (ne_of_true c_9), if_neg (ne_of_true c_12), if_pos c_13, if_pos c_16, if_pos c_19]
                exact ⟨by rw [h_109.1, nightF_off hof hn8 ha8], _, hof, h_109.2⟩
              · refine lv_aload_n hx hb dX7_night_87 rfl (lv_at hl 1 rfl) ?_
                refine lv_iconst (v := 2) hx hb dX7_night_88 (by decide) ?_
                refine x_if (w := (wX G B tt)) (va_runV (As := [.int (2)]) (rest := []) ⟨hx, hb, hml, hown, hts⟩ (c_X7_found (l := l) (G := G) (B := B) (tt := tt) (hW := hW) (x := x) (f := 2)) (cwV 1 hts gX7_night_X7_found rfl rfl rfl (by decide +kernel) ⟨Nat.le_of_ble_eq_true rfl, Nat.le_of_ble_eq_true rfl⟩) (x_pv (w := (wX G B tt)) (a := 0) hW hX hK hE hS [.int (2)] (Nat.le_of_ble_eq_true rfl) (shX_mn (G := G) (B := B)) rfl) rfl rfl hl.1 rfl (lv_room (Nat.le_of_ble_eq_true rfl)) dX7_night_89 ⟨Nat.zero_le _, Nat.zero_le _⟩) hS (fun r_31 x_32 H_29 lo_30 h_89 hX hS => ?_)
                try dsimp only at h_89
                rw [← hQ]
                refine x_iret (v := r_31) hx hb hr hX hS hlocks dX7_night_92 ?_
                show PT_X7_night _ _ _ _ _ _ _ _ _ _
                unfold PT_X7_night
                rw [if_pos c_3, if_neg (ne_of_true c_6), if_neg (ne_of_true c_9), if_neg (ne_of_true c_12), if_pos c_13, if_pos c_16, if_neg (ne_of_false c_19)]
                exact h_89
            · refine lv_aload_n hx hb dX7_night_65 rfl (lv_at hl 1 rfl) ?_
              refine lv_iconst (v := 1) hx hb dX7_night_66 (by decide) ?_
              refine x_if (w := (wX G B tt)) (va_runV (As := [.int (1)]) (rest := []) ⟨hx, hb, hml, hown, hts⟩ (c_X7_found (l := l) (G := G) (B := B) (tt := tt) (hW := hW) (x := x) (f := 1)) (cwV 1 hts gX7_night_X7_found rfl rfl rfl (by decide +kernel) ⟨Nat.le_of_ble_eq_true rfl, Nat.le_of_ble_eq_true rfl⟩) (x_pv (w := (wX G B tt)) (a := 0) hW hX hK hE hS [.int (1)] (Nat.le_of_ble_eq_true rfl) (shX_mn (G := G) (B := B)) rfl) rfl rfl hl.1 rfl (lv_room (Nat.le_of_ble_eq_true rfl)) dX7_night_67 ⟨Nat.zero_le _, Nat.zero_le _⟩) hS (fun r_35 x_36 H_33 lo_34 h_67 hX hS => ?_)
              try dsimp only at h_67
              rw [← hQ]
              refine x_iret (v := r_35) hx hb hr hX hS hlocks dX7_night_70 ?_
              show PT_X7_night _ _ _ _ _ _ _ _ _ _
              unfold PT_X7_night
              rw [if_pos c_3, if_neg (ne_of_true c_6), if_neg (ne_of_true c_9), if_neg (ne_of_true c_12), if_pos c_13, if_neg (ne_of_true c_16)]
              exact h_67
          · refine lv_ldc (v := (-1000001)) hx hb hown (hts _ kX7_night_59) dX7_night_45 ?_
            rw [← hQ]
            refine x_iret (v := (-1000001)) hx hb hr hX hS hlocks dX7_night_47 ?_
            show PT_X7_night _ _ _ _ _ _ _ _ _ _
            unfold PT_X7_night
            rw [if_pos c_3, if_neg (ne_of_true c_6), if_neg (ne_of_true c_9), if_neg (ne_of_true c_12), if_neg c_13]
            exact ⟨rfl, rfl⟩
  · refine lv_ldc (v := (-1000002)) hx hb hown (hts _ kX7_night_155) dX7_night_10 ?_
    rw [← hQ]
    refine x_iret (v := (-1000002)) hx hb hr hX hS hlocks dX7_night_12 ?_
    show PT_X7_night _ _ _ _ _ _ _ _ _ _
    unfold PT_X7_night
    rw [if_neg (ne_of_true c_3)]
    exact ⟨rfl, rfl⟩
