theorem kX1_survey2_26 : (.fieldLink RX1 26 "WindTaken$Quarter" "turning" "I" : Cond) ∈ wsX1_survey := by decide +kernel
theorem iX1_survey2_X1 : ∀ w ∈ wsX10, w ∈ wsX1_survey := by decide +kernel
theorem kX1_survey2_29 : (.fieldLink RX1 29 "WindTaken$Quarter" "taking" "I" : Cond) ∈ wsX1_survey := by decide +kernel
theorem kX1_survey2_18 : (.fieldLink RX1 18 "WindTaken$Quarter" "ridge" "LWindTaken$Ridge;" : Cond) ∈ wsX1_survey := by decide +kernel
theorem kX1_survey2_32 : (.fieldLink RX1 32 "WindTaken$Ridge" "count" "I" : Cond) ∈ wsX1_survey := by decide +kernel
theorem iX1_survey2_X3 : ∀ w ∈ wsX30, w ∈ wsX1_survey := by decide +kernel
theorem kX1_survey2_37 : (.fieldLink RX1 37 "WindTaken$Ridge" "mills" "[LWindTaken$Mill;" : Cond) ∈ wsX1_survey := by decide +kernel
theorem kX1_survey2_22 : (.fieldLink RX1 22 "WindTaken$Quarter" "q" "I" : Cond) ∈ wsX1_survey := by decide +kernel
theorem kiX1_survey2_RX7 : (.initialized RX7 : Cond) ∈ wsX1_survey := by decide +kernel
theorem ksX1_survey2_X7_bit : (.static yX7_bit : Cond) ∈ wsX1_survey := by decide +kernel
theorem kX1_survey2_51 : (.fieldLink RX1 51 "WindTaken$Mill" "kind" "I" : Cond) ∈ wsX1_survey := by decide +kernel
theorem iX1_survey2_X0 : ∀ w ∈ wsX00, w ∈ wsX1_survey := by decide +kernel
theorem kX1_survey2_9 : (.fieldLink RX1 9 "WindTaken$Quarter" "behind" "[I" : Cond) ∈ wsX1_survey := by decide +kernel
abbrev rmX1_survey2 : Room := { frames := 3, cells := 0, slots := 0, locals := 67 }
set_option maxHeartbeats 4000000 in
set_option maxRecDepth 100000 in
theorem c_X1_survey2 (l : Launch) (G : GG) (B : Nat) (tt : Nat → Nat) (hW : WOK (wX G B tt)) (x : Mem) {q : Nat} (hq : q < 4) (rz : Int32) {n : Nat} {nw : Nat → Int32} {h : Int32} (hR : RR n x 5 nw) (hh : ∀ j, j < n → (if nI j = rz then jmin (sF nw j 0 + 1) 9 else sF nw j 0) = sFl nw j h) : Met l yX1_survey wsX1_survey rmX1_survey2 (XP G (wX G B tt) [.ref (B + (65 + 3 * q)), .int (rz)] x) (va_Qv (fun u => offQ q x u ∧ SV n nw u q h ∧ u (65 + 3 * q + 2) = x (65 + 3 * q + 2)) (XB G (wX G B tt)) (blkA B (B + 77))) 0 0 (blkA B (B + 77)) := by
  refine Met.ofW (cc := cX1_survey) (maxL := 7) (ret := none) (by decide) rfl ?_
  intro pp ee ss mm aa bb mt cd s1 Bd hml hv
  obtain ⟨hae, hX, hK, hE⟩ := hv
  have hx := Bd.exec
  have hb := Bd.bytes
  have hr := Bd.returns
  have hts := atoms_spec (ws := wsX1_survey) Bd.pre
  have hown : ss.vm.findClass RX1 = some mm.cls := findClass_of_methodNamed Bd.named
  have hlocks := Bd.notSynchronized
  have hS : va_S (blkA B (B + 77)) ss.heap ss.heap [] := va_S.rf
  have hl := lv_entry ([.ref (B + (65 + 3 * q)), .int (rz)]) (n := 7) (Nat.le_of_ble_eq_true rfl)
  subst hae
  rw [lg_entry_eq]
  generalize (lg_sl ([.ref (B + (65 + 3 * q)), .int (rz)]) ++ List.replicate (7 - (lg_sl ([.ref (B + (65 + 3 * q)), .int (rz)])).length) Slot.unset).toArray = ls at hl ⊢
  have hl : lv_has ls 7 [(0, .ref (B + (65 + 3 * q))), (1, .int (rz))] := hl
  generalize ([.ref (B + (65 + 3 * q)), .int (rz)] : List Value).toArray = aa at hts ⊢
  show W pp l ee rmX1_survey2 ss mm aa bb mt cd ss.heap [] 0 0 _ (F0 mm 0 ls [])
  generalize hQ : MQ bb (va_Qv (fun u => offQ q x u ∧ SV n nw u q h ∧ u (65 + 3 * q + 2) = x (65 + 3 * q + 2)) (XB G (wX G B tt)) (blkA B (B + 77))) aa ss 0 0 (blkA B (B + 77)) = Q
  have hn8 := hR.1
  refine lv_aload_n hx hb dX1_survey_0 rfl (lv_at hl 0 rfl) ?_
  refine lv_iconst (v := 0) hx hb dX1_survey_1 (by decide) ?_
  refine x_put (w := (wX G B tt)) (a := 65 + 3 * q) (v := 0) (ty := .int) hx hb hts iX1_survey2_X1 tyX1 tyX1_ok nmX1 hown hK hW hX hS (qu_lt hq) (shX_qu (G := G) (B := B) hq) rfl 4 (by decide) (hts _ kX1_survey2_26) (fun _ h9 => h9) rfl (by decide +kernel) rfl rfl (Nat.le_of_ble_eq_true rfl) (shX_qu (G := G) (B := B) hq) dX1_survey_2 (fun H_2 lo_3 hX hS => ?_)
  obtain ⟨x_1, ex_1⟩ : ∃ z, z = mst x (65 + 3 * q) 4 (0) := ⟨_, rfl⟩
  rw [← ex_1] at hX
  have z_4 : x_1 (65 + 3 * q) 4 = nI (0) := by rw [ex_1, mst_self]; exact rfl
  refine lv_aload_n hx hb dX1_survey_5 rfl (lv_at hl 0 rfl) ?_
  refine lv_iconst (v := 0) hx hb dX1_survey_6 (by decide) ?_
  refine x_put (w := (wX G B tt)) (a := 65 + 3 * q) (v := 0) (ty := .int) hx hb hts iX1_survey2_X1 tyX1 tyX1_ok nmX1 hown hK hW hX hS (qu_lt hq) (shX_qu (G := G) (B := B) hq) rfl 5 (by decide) (hts _ kX1_survey2_29) (fun _ h9 => h9) rfl (by decide +kernel) rfl rfl (Nat.le_of_ble_eq_true rfl) (shX_qu (G := G) (B := B) hq) dX1_survey_7 (fun H_6 lo_7 hX hS => ?_)
  obtain ⟨x_5, ex_5⟩ : ∃ z, z = mst x_1 (65 + 3 * q) 5 (0) := ⟨_, rfl⟩
  rw [← ex_5] at hX
  have z_8 : x_5 (65 + 3 * q) 4 = nI (0) := by rw [ex_5, mst_eq, upd_ne (by first | decide | omega)]; exact z_4
  have z_9 : x_5 (65 + 3 * q) 5 = nI (0) := by rw [ex_5, mst_self]; exact rfl
  refine lv_iconst (v := 0) hx hb dX1_survey_10 (by decide) ?_
  refine lv_istore_n (lv' := [(2, .int (0)), (0, .ref (B + (65 + 3 * q))), (1, .int (rz))]) hx hb dX1_survey_11 rfl hl (by decide) rfl (fun ls hl => ?_)
  have L_10 : ∀ (n9 : Nat) (i : Nat)  (u : Mem) (_ : n9 = n - i) (_ : i ≤ n ∧ SVo n nw x q h u i ∧ u (65 + 3 * q + 2) = x (65 + 3 * q + 2)) (H_11 : Heap) (lo_12 : List Loc) (_ : MR G (wX G B tt) u H_11) (_ : va_S (blkA B (B + 77)) ss.heap H_11 lo_12) (ls : Array Slot) (_ : lv_has ls 7 [(2, .int (nI i)), (0, .ref (B + (65 + 3 * q))), (1, .int (rz))]), W pp l ee rmX1_survey2 ss mm aa bb mt cd H_11 lo_12 0 0 Q (F0 mm 12 ls []) := by
    intro n9
    induction n9 using Nat.strongRecOn with
    | _ n9 ih => 
      have ih_12 := ih
      intro i u hn9 hI H_11 lo_12 hX hS ls hl
      obtain ⟨hi, ho, hz⟩ := hI
      have hRu := hR.off rg5 ho.1
      refine lv_iload_n hx hb dX1_survey_12 rfl (lv_at hl 0 rfl) ?_
      refine lv_aload_n hx hb dX1_survey_13 rfl (lv_at hl 1 rfl) ?_
      refine x_get (w := (wX G B tt)) (a := 65 + 3 * q) (v := .ref (B + (5))) hx hb hts iX1_survey2_X1 hown hK hX (qu_lt hq) (shX_qu (G := G) (B := B) hq) rfl 2 (by decide) (hts _ kX1_survey2_18) (fun _ h9 => h9) rfl dX1_survey_14 ?_
      refine x_get (w := (wX G B tt)) (a := 5) (v := .int (u (5) 1)) hx hb hts iX1_survey2_X3 hown hK hX (rg_lt rg5) (shX_ri (G := G) (B := B) rg5) rfl 1 (by decide) (hts _ kX1_survey2_32) (fun _ h9 => h9) rfl dX1_survey_17 ?_
      refine lv_icmp_ge (tgt := 182) hx hb dX1_survey_20 (by decide) (fun c_13 => ?_) (fun c_13 => ?_)
      · have nc_13 := (n_le (a := n) (b := i) hRu.cnt rfl (by omega) (by omega)).mp c_13
        rw [← hQ]
        refine x_vret hx hb hr hX hS hlocks dX1_survey_182 ?_
        have e9 : i = n := by omega
        subst e9
        exact ⟨ho.1, ho.2, hz⟩
      · have nc_13 := Nat.not_le.mp (fun q => c_13 ((n_le (a := n) (b := i) hRu.cnt rfl (by omega) (by omega)).mpr q))
        refine lv_aload_n hx hb dX1_survey_23 rfl (lv_at hl 1 rfl) ?_
        refine x_get (w := (wX G B tt)) (a := 65 + 3 * q) (v := .ref (B + (5))) hx hb hts iX1_survey2_X1 hown hK hX (qu_lt hq) (shX_qu (G := G) (B := B) hq) rfl 2 (by decide) (hts _ kX1_survey2_18) (fun _ h9 => h9) rfl dX1_survey_24 ?_
        refine x_get (w := (wX G B tt)) (a := 5) (v := .ref (B + (5 + 1))) hx hb hts iX1_survey2_X3 hown hK hX (rg_lt rg5) (shX_ri (G := G) (B := B) rg5) rfl 0 (by decide) (hts _ kX1_survey2_37) (fun _ h9 => h9) rfl dX1_survey_27 ?_
        refine lv_iload_n hx hb dX1_survey_30 rfl (lv_at hl 0 rfl) ?_
        refine x_aald (w := (wX G B tt)) (a := 5 + 1) (n := 8) (j := i) (q := B + (5 + 1 + 1 + i)) (t0 := 2) hx hb hK hX (rg_lt1 rg5) (shX_ma (G := G) (B := B) (f := u (5 + 1)) rg5) rfl rfl (by omega) (by decide) rfl dX1_survey_31 ?_
        refine lv_astore_n (lv' := [(3, .ref (B + (5 + 1 + 1 + i))), (2, .int (nI i)), (0, .ref (B + (65 + 3 * q))), (1, .int (rz))]) hx hb dX1_survey_32 rfl hl (by decide) rfl (fun ls hl => ?_)
        refine lv_aload_n hx hb dX1_survey_33 rfl (lv_at hl 0 rfl) ?_
        refine lv_aload_n hx hb dX1_survey_34 rfl (lv_at hl 2 rfl) ?_
        refine x_get (w := (wX G B tt)) (a := 65 + 3 * q) (v := .int (nI q)) hx hb hts iX1_survey2_X1 hown hK hX (qu_lt hq) (shX_qu (G := G) (B := B) hq) rfl 3 (by decide) (hts _ kX1_survey2_22) (fun _ h9 => h9) rfl dX1_survey_35 ?_
        refine x_ip (w := (wX G B tt)) (x := u) (v := bI (!decide (u (5 + 1 + 1 + i) 11 ≠ 0) && (decide (u (5 + 1 + 1 + i) 1 ≠ 5) && (decide (u (5 + 1 + 1 + i) 1 ≠ 1) || decide (u (5 + 1 + 1 + i) 10 = (nI q)))))) (va_runV (As := [.int (nI q)]) (rest := []) ⟨hx, hb, hml, hown, hts⟩ (c_X0_turnsIn (l := l) (G := G) (B := B) (tt := tt) (hW := hW) (x := u) (ρ := 5) (hρ := rg5) (j := i) (hj := (by omega)) (q := nI q)) (cwV 1 hts gX1_survey_X0_turnsIn rfl rfl rfl (by decide +kernel) ⟨Nat.le_of_ble_eq_true rfl, Nat.le_of_ble_eq_true rfl⟩) (x_pv (w := (wX G B tt)) (a := 5 + 1 + 1 + i) hW hX hK hE hS [.int (nI q)] (rg_ltm rg5 (by omega)) (shX_mi (G := G) (B := B) rg5 (by omega)) rfl) rfl rfl hl.1 rfl (lv_room (Nat.le_of_ble_eq_true rfl)) dX1_survey_38 ⟨Nat.zero_le _, Nat.zero_le _⟩) hS (fun H_14 lo_15 hX hS => ?_)
        refine x_ip (w := (wX G B tt)) (x := u) (v := bI (!decide (u (5 + 1 + 1 + i) 11 ≠ 0) && (decide (u (5 + 1 + 1 + i) 1 ≠ 5) && (decide (u (5 + 1 + 1 + i) 1 ≠ 1) || decide (u (5 + 1 + 1 + i) 10 = (nI q)))))) (va_runSN (host := "WindTaken") (As := [.int (bI (!decide (u (5 + 1 + 1 + i) 11 ≠ 0) && (decide (u (5 + 1 + 1 + i) 1 ≠ 5) && (decide (u (5 + 1 + 1 + i) 1 ≠ 1) || decide (u (5 + 1 + 1 + i) 10 = (nI q))))))]) (rest := []) ⟨hx, hb, hml, hown, hts⟩ (c_X7_bit (l := l) (G := G) (B := B) (tt := tt) (hW := hW) (x := u) (b := !decide (u (5 + 1 + 1 + i) 11 ≠ 0) && (decide (u (5 + 1 + 1 + i) 1 ≠ 5) && (decide (u (5 + 1 + 1 + i) 1 ≠ 1) || decide (u (5 + 1 + 1 + i) 10 = (nI q)))))) ⟨va_cnB 1 hts gX1_survey_X7_bit_n47 rfl rfl rfl (hK.2 _ (List.mem_of_getElem? (i := 3) rfl)) (hts _ kiX1_survey2_RX7) (by decide +kernel) ⟨Nat.le_of_ble_eq_true rfl, Nat.le_of_ble_eq_true rfl⟩, (hts _ ksX1_survey2_X7_bit), trivial⟩ (x_ps (w := (wX G B tt)) hW hX hK hE hS [.int (bI (!decide (u (5 + 1 + 1 + i) 11 ≠ 0) && (decide (u (5 + 1 + 1 + i) 1 ≠ 5) && (decide (u (5 + 1 + 1 + i) 1 ≠ 1) || decide (u (5 + 1 + 1 + i) 10 = (nI q))))))]) rfl rfl hl.1 rfl (lv_room (Nat.le_of_ble_eq_true rfl)) dX1_survey_41 ⟨Nat.zero_le _, Nat.zero_le _⟩) hS (fun H_16 lo_17 hX hS => ?_)
        refine lv_iload_n hx hb dX1_survey_44 rfl (lv_at hl 1 rfl) ?_
        refine lv_ishl hx hb dX1_survey_45 ?_
        refine lv_istore (lv' := [(4, .int ((bI (!decide (u (5 + 1 + 1 + i) 11 ≠ 0) && (decide (u (5 + 1 + 1 + i) 1 ≠ 5) && (decide (u (5 + 1 + 1 + i) 1 ≠ 1) || decide (u (5 + 1 + 1 + i) 10 = (nI q)))))) <<< (nI i &&& 31))), (3, .ref (B + (5 + 1 + 1 + i))), (2, .int (nI i)), (0, .ref (B + (65 + 3 * q))), (1, .int (rz))]) hx hb dX1_survey_46 hl (by decide) rfl (fun ls hl => ?_)
        refine lv_aload_n hx hb dX1_survey_48 rfl (lv_at hl 3 rfl) ?_
        refine lv_dup hx hb dX1_survey_49 rfl ?_
        refine x_get (w := (wX G B tt)) (a := 65 + 3 * q) (v := .int (u (65 + 3 * q) 4)) hx hb hts iX1_survey2_X1 hown hK hX (qu_lt hq) (shX_qu (G := G) (B := B) hq) rfl 4 (by decide) (hts _ kX1_survey2_26) (fun _ h9 => h9) rfl dX1_survey_50 ?_
        refine lv_iload hx hb dX1_survey_53 (lv_at hl 0 rfl) ?_
        refine lv_ior hx hb dX1_survey_55 ?_
        refine x_put (w := (wX G B tt)) (a := 65 + 3 * q) (v := (u (65 + 3 * q) 4) ||| ((bI (!decide (u (5 + 1 + 1 + i) 11 ≠ 0) && (decide (u (5 + 1 + 1 + i) 1 ≠ 5) && (decide (u (5 + 1 + 1 + i) 1 ≠ 1) || decide (u (5 + 1 + 1 + i) 10 = (nI q)))))) <<< (nI i &&& 31))) (ty := .int) hx hb hts iX1_survey2_X1 tyX1 tyX1_ok nmX1 hown hK hW hX hS (qu_lt hq) (shX_qu (G := G) (B := B) hq) rfl 4 (by decide) (hts _ kX1_survey2_26) (fun _ h9 => h9) rfl (by decide +kernel) rfl rfl (Nat.le_of_ble_eq_true rfl) (shX_qu (G := G) (B := B) hq) dX1_survey_56 (fun H_19 lo_20 hX hS => ?_)
        obtain ⟨x_18, ex_18⟩ : ∃ z, z = mst u (65 + 3 * q) 4 ((u (65 + 3 * q) 4) ||| ((bI (!decide (u (5 + 1 + 1 + i) 11 ≠ 0) && (decide (u (5 + 1 + 1 + i) 1 ≠ 5) && (decide (u (5 + 1 + 1 + i) 1 ≠ 1) || decide (u (5 + 1 + 1 + i) 10 = (nI q)))))) <<< (nI i &&& 31))) := ⟨_, rfl⟩
        rw [← ex_18] at hX
        have z_21 : x_18 (5) 1 = nI (n) := by rw [ex_18, mst_ne (by first | decide | omega)]; exact hRu.cnt
        refine lv_aload_n hx hb dX1_survey_59 rfl (lv_at hl 3 rfl) ?_
        refine lv_dup hx hb dX1_survey_60 rfl ?_
        refine x_get (w := (wX G B tt)) (a := 65 + 3 * q) (v := .int (x_18 (65 + 3 * q) 5)) hx hb hts iX1_survey2_X1 hown hK hX (qu_lt hq) (shX_qu (G := G) (B := B) hq) rfl 5 (by decide) (hts _ kX1_survey2_29) (fun _ h9 => h9) rfl dX1_survey_61 ?_
        refine lv_aload_n hx hb dX1_survey_64 rfl (lv_at hl 1 rfl) ?_
        refine x_get (w := (wX G B tt)) (a := 5 + 1 + 1 + i) (v := .int (x_18 (5 + 1 + 1 + i) 1)) hx hb hts iX1_survey2_X0 hown hK hX (rg_ltm rg5 (by omega)) (shX_mi (G := G) (B := B) rg5 (by omega)) rfl 1 (by decide) (hts _ kX1_survey2_51) (fun _ h9 => h9) rfl dX1_survey_65 ?_
        refine lv_iconst (v := 4) hx hb dX1_survey_68 (by decide) ?_
        have kJ_24 : ∀ (v_23 : Int32) (_ : v_23 = (if (x_18 (5 + 1 + 1 + i) 1) = 4 then 0 else ((bI (!decide (u (5 + 1 + 1 + i) 11 ≠ 0) && (decide (u (5 + 1 + 1 + i) 1 ≠ 5) && (decide (u (5 + 1 + 1 + i) 1 ≠ 1) || decide (u (5 + 1 + 1 + i) 10 = (nI q)))))) <<< (nI i &&& 31)))) (H_25 : Heap) (lo_26 : List Loc) (_ : MR G (wX G B tt) x_18 H_25) (_ : va_S (blkA B (B + 77)) ss.heap H_25 lo_26) (ls : Array Slot) (_ : lv_has ls 7 [(4, .int ((bI (!decide (u (5 + 1 + 1 + i) 11 ≠ 0) && (decide (u (5 + 1 + 1 + i) 1 ≠ 5) && (decide (u (5 + 1 + 1 + i) 1 ≠ 1) || decide (u (5 + 1 + 1 + i) 10 = (nI q)))))) <<< (nI i &&& 31))), (3, .ref (B + (5 + 1 + 1 + i))), (2, .int (nI i)), (0, .ref (B + (65 + 3 * q))), (1, .int (rz))]), W pp l ee rmX1_survey2 ss mm aa bb mt cd H_25 lo_26 0 0 Q (F0 mm 78 ls [.int (v_23), .int (x_18 (65 + 3 * q) 5), .ref (B + (65 + 3 * q))]) := by
          intro v_23 ev_23 H_25 lo_26 hX hS ls hl
          refine lv_ior hx hb dX1_survey_78 ?_
          refine x_put (w := (wX G B tt)) (a := 65 + 3 * q) (v := (x_18 (65 + 3 * q) 5) ||| v_23) (ty := .int) hx hb hts iX1_survey2_X1 tyX1 tyX1_ok nmX1 hown hK hW hX hS (qu_lt hq) (shX_qu (G := G) (B := B) hq) rfl 5 (by decide) (hts _ kX1_survey2_29) (fun _ h9 => h9) rfl (by decide +kernel) rfl rfl (Nat.le_of_ble_eq_true rfl) (shX_qu (G := G) (B := B) hq) dX1_survey_79 (fun H_28 lo_29 hX hS => ?_)
          obtain ⟨x_27, ex_27⟩ : ∃ z, z = mst x_18 (65 + 3 * q) 5 ((x_18 (65 + 3 * q) 5) ||| v_23) := ⟨_, rfl⟩
          rw [← ex_27] at hX
          have z_30 : x_27 (5) 1 = nI (n) := by rw [ex_27, mst_ne (by first | decide | omega)]; exact z_21
          refine lv_aload_n hx hb dX1_survey_82 rfl (lv_at hl 3 rfl) ?_
          refine x_get (w := (wX G B tt)) (a := 65 + 3 * q) (v := .ref (B + (65 + 3 * q + 1))) hx hb hts iX1_survey2_X1 hown hK hX (qu_lt hq) (shX_qu (G := G) (B := B) hq) rfl 0 (by decide) (hts _ kX1_survey2_9) (fun _ h9 => h9) rfl dX1_survey_83 ?_
          refine lv_iload_n hx hb dX1_survey_86 rfl (lv_at hl 2 rfl) ?_
          refine lv_iconst (v := 0) hx hb dX1_survey_87 (by decide) ?_
          refine x_iast (w := (wX G B tt)) (a := 65 + 3 * q + 1) (n := 8) (j := i) hx hb hK hW hX hS (bh_lt hq) (fun f => (shX_bh (G := G) (B := B) (f := f) hq)) rfl (by omega) (by decide) dX1_survey_88 (fun H_32 lo_33 hX hS => ?_)
          obtain ⟨x_31, ex_31⟩ : ∃ z, z = mst x_27 (65 + 3 * q + 1) i (0) := ⟨_, rfl⟩
          rw [← ex_31] at hX
          have z_34 : x_31 (5) 1 = nI (n) := by rw [ex_31, mst_ne (by first | decide | omega)]; exact z_30
          have z_35 : x_31 (65 + 3 * q + 1) i = nI (0) := by rw [ex_31, mst_self]; exact rfl
          refine lv_iconst (v := 0) hx hb dX1_survey_89 (by decide) ?_
          refine lv_istore (lv' := [(5, .int (0)), (4, .int ((bI (!decide (u (5 + 1 + 1 + i) 11 ≠ 0) && (decide (u (5 + 1 + 1 + i) 1 ≠ 5) && (decide (u (5 + 1 + 1 + i) 1 ≠ 1) || decide (u (5 + 1 + 1 + i) 10 = (nI q)))))) <<< (nI i &&& 31))), (3, .ref (B + (5 + 1 + 1 + i))), (2, .int (nI i)), (0, .ref (B + (65 + 3 * q))), (1, .int (rz))]) hx hb dX1_survey_90 hl (by decide) rfl (fun ls hl => ?_)
          have L_36 : ∀ (n9 : Nat) (j : Nat)  (u2 : Mem) (_ : n9 = n - j) (_ : j ≤ n ∧ SVi n nw x q h u2 i j ∧ u2 (65 + 3 * q + 2) = x (65 + 3 * q + 2)) (H_37 : Heap) (lo_38 : List Loc) (_ : MR G (wX G B tt) u2 H_37) (_ : va_S (blkA B (B + 77)) ss.heap H_37 lo_38) (ls : Array Slot) (_ : lv_has ls 7 [(5, .int (nI j)), (4, .int ((bI (!decide (u (5 + 1 + 1 + i) 11 ≠ 0) && (decide (u (5 + 1 + 1 + i) 1 ≠ 5) && (decide (u (5 + 1 + 1 + i) 1 ≠ 1) || decide (u (5 + 1 + 1 + i) 10 = (nI q)))))) <<< (nI i &&& 31))), (3, .ref (B + (5 + 1 + 1 + i))), (2, .int (nI i)), (0, .ref (B + (65 + 3 * q))), (1, .int (rz))]), W pp l ee rmX1_survey2 ss mm aa bb mt cd H_37 lo_38 0 0 Q (F0 mm 92 ls []) := by
            intro n9
            induction n9 using Nat.strongRecOn with
            | _ n9 ih => 
              have ih_92 := ih
              intro j u2 hn9 hI H_37 lo_38 hX hS ls hl
              obtain ⟨hj, ho2, hz2⟩ := hI
              have hRu2 := hR.off rg5 ho2.1
              refine lv_iload hx hb dX1_survey_92 (lv_at hl 0 rfl) ?_
              refine lv_aload_n hx hb dX1_survey_94 rfl (lv_at hl 4 rfl) ?_
              refine x_get (w := (wX G B tt)) (a := 65 + 3 * q) (v := .ref (B + (5))) hx hb hts iX1_survey2_X1 hown hK hX (qu_lt hq) (shX_qu (G := G) (B := B) hq) rfl 2 (by decide) (hts _ kX1_survey2_18) (fun _ h9 => h9) rfl dX1_survey_95 ?_
              refine x_get (w := (wX G B tt)) (a := 5) (v := .int (u2 (5) 1)) hx hb hts iX1_survey2_X3 hown hK hX (rg_lt rg5) (shX_ri (G := G) (B := B) rg5) rfl 1 (by decide) (hts _ kX1_survey2_32) (fun _ h9 => h9) rfl dX1_survey_98 ?_
              refine lv_icmp_ge (tgt := 176) hx hb dX1_survey_101 (by decide) (fun c_39 => ?_) (fun c_39 => ?_)
              · have nc_39 := (n_le (a := n) (b := j) hRu2.cnt rfl (by omega) (by omega)).mp c_39
                refine lv_iinc (v := nI (i + 1)) (lv' := [(2, .int (nI (i + 1))), (5, .int (nI j)), (4, .int ((bI (!decide (u (5 + 1 + 1 + i) 11 ≠ 0) && (decide (u (5 + 1 + 1 + i) 1 ≠ 5) && (decide (u (5 + 1 + 1 + i) 1 ≠ 1) || decide (u (5 + 1 + 1 + i) 10 = (nI q)))))) <<< (nI i &&& 31))), (3, .ref (B + (5 + 1 + 1 + i))), (0, .ref (B + (65 + 3 * q))), (1, .int (rz))]) hx hb dX1_survey_176 hl (k := 3) rfl (inc_nI _) (by decide) rfl (fun ls hl => ?_)
                refine lv_goto (tgt := 12) hx hb dX1_survey_179 (by decide) ?_
                exact ih_12 _ (by omega) (i + 1) (u2) rfl ⟨by omega, SVo_step ho2 (by omega), hz2⟩ _ _ hX hS ls (lv_sub hl [0, 4, 5] rfl)
              · have nc_39 := Nat.not_le.mp (fun q => c_39 ((n_le (a := n) (b := j) hRu2.cnt rfl (by omega) (by omega)).mpr q))
                refine lv_aload_n hx hb dX1_survey_104 rfl (lv_at hl 4 rfl) ?_
                refine lv_iload_n hx hb dX1_survey_105 rfl (lv_at hl 3 rfl) ?_
                refine lv_iload_n hx hb dX1_survey_106 rfl (lv_at hl 5 rfl) ?_
                refine x_ip (w := (wX G B tt)) (x := u2) (v := if nI i = rz then jmin (sF nw i 0 + 1) 9 else sF nw i 0) (va_runV (As := [.int (nI i), .int (rz)]) (rest := []) ⟨hx, hb, hml, hown, hts⟩ (c_X1_floorsOf (l := l) (G := G) (B := B) (tt := tt) (hW := hW) (x := u2) (q := q) (hq := hq) (m := i) (rz := rz) (n := n) (nw := nw) (hR := hRu2) (hm := (by omega))) (cwV 2 hts gX1_survey_X1_floorsOf rfl rfl rfl (by decide +kernel) ⟨Nat.le_of_ble_eq_true rfl, Nat.le_of_ble_eq_true rfl⟩) (x_pv (w := (wX G B tt)) (a := 65 + 3 * q) hW hX hK hE hS [.int (nI i), .int (rz)] (qu_lt hq) (shX_qu (G := G) (B := B) hq) rfl) rfl rfl hl.1 rfl (lv_room (Nat.le_of_ble_eq_true rfl)) dX1_survey_107 ⟨Nat.zero_le _, Nat.zero_le _⟩) hS (fun H_40 lo_41 hX hS => ?_)
                refine lv_aload_n hx hb dX1_survey_110 rfl (lv_at hl 4 rfl) ?_
                refine lv_iload hx hb dX1_survey_111 (lv_at hl 0 rfl) ?_
                refine lv_iload_n hx hb dX1_survey_113 rfl (lv_at hl 5 rfl) ?_
                refine x_ip (w := (wX G B tt)) (x := u2) (v := if nI j = rz then jmin (sF nw j 0 + 1) 9 else sF nw j 0) (va_runV (As := [.int (nI j), .int (rz)]) (rest := [.int (if nI i = rz then jmin (sF nw i 0 + 1) 9 else sF nw i 0)]) ⟨hx, hb, hml, hown, hts⟩ (c_X1_floorsOf (l := l) (G := G) (B := B) (tt := tt) (hW := hW) (x := u2) (q := q) (hq := hq) (m := j) (rz := rz) (n := n) (nw := nw) (hR := hRu2) (hm := (by omega))) (cwV 2 hts gX1_survey_X1_floorsOf rfl rfl rfl (by decide +kernel) ⟨Nat.le_of_ble_eq_true rfl, Nat.le_of_ble_eq_true rfl⟩) (x_pv (w := (wX G B tt)) (a := 65 + 3 * q) hW hX hK hE hS [.int (nI j), .int (rz)] (qu_lt hq) (shX_qu (G := G) (B := B) hq) rfl) rfl rfl hl.1 rfl (lv_room (Nat.le_of_ble_eq_true rfl)) dX1_survey_114 ⟨Nat.zero_le _, Nat.zero_le _⟩) hS (fun H_42 lo_43 hX hS => ?_)
                have kJ_46 : ∀ (v_45 : Bool) (_ : v_45 = (if (if nI j = rz then jmin (sF nw j 0 + 1) 9 else sF nw j 0) < (if nI i = rz then jmin (sF nw i 0 + 1) 9 else sF nw i 0) then false else true)) (H_47 : Heap) (lo_48 : List Loc) (_ : MR G (wX G B tt) u2 H_47) (_ : va_S (blkA B (B + 77)) ss.heap H_47 lo_48) (ls : Array Slot) (_ : lv_has ls 7 [(5, .int (nI j)), (4, .int ((bI (!decide (u (5 + 1 + 1 + i) 11 ≠ 0) && (decide (u (5 + 1 + 1 + i) 1 ≠ 5) && (decide (u (5 + 1 + 1 + i) 1 ≠ 1) || decide (u (5 + 1 + 1 + i) 10 = (nI q)))))) <<< (nI i &&& 31))), (3, .ref (B + (5 + 1 + 1 + i))), (2, .int (nI i)), (0, .ref (B + (65 + 3 * q))), (1, .int (rz))]), W pp l ee rmX1_survey2 ss mm aa bb mt cd H_47 lo_48 0 0 Q (F0 mm 125 ls [.int (bI (v_45))]) := by
                  intro v_45 ev_45 H_47 lo_48 hX hS ls hl
                  refine lv_istore (lv' := [(6, .int (bI (v_45))), (5, .int (nI j)), (4, .int ((bI (!decide (u (5 + 1 + 1 + i) 11 ≠ 0) && (decide (u (5 + 1 + 1 + i) 1 ≠ 5) && (decide (u (5 + 1 + 1 + i) 1 ≠ 1) || decide (u (5 + 1 + 1 + i) 10 = (nI q)))))) <<< (nI i &&& 31))), (3, .ref (B + (5 + 1 + 1 + i))), (2, .int (nI i)), (0, .ref (B + (65 + 3 * q))), (1, .int (rz))]) hx hb dX1_survey_125 hl (by decide) rfl (fun ls hl => ?_)
                  refine lv_aload_n hx hb dX1_survey_127 rfl (lv_at hl 5 rfl) ?_
                  refine x_get (w := (wX G B tt)) (a := 65 + 3 * q) (v := .ref (B + (65 + 3 * q + 1))) hx hb hts iX1_survey2_X1 hown hK hX (qu_lt hq) (shX_qu (G := G) (B := B) hq) rfl 0 (by decide) (hts _ kX1_survey2_9) (fun _ h9 => h9) rfl dX1_survey_128 ?_
                  refine lv_iload_n hx hb dX1_survey_131 rfl (lv_at hl 4 rfl) ?_
                  refine lv_dup2_11 hx hb dX1_survey_132 rfl rfl ?_
                  refine x_iald (w := (wX G B tt)) (a := 65 + 3 * q + 1) (n := 8) (j := i) hx hb hK hX (bh_lt hq) (shX_bh (G := G) (B := B) (f := u2 (65 + 3 * q + 1)) hq) rfl (by omega) (by decide) dX1_survey_133 ?_
                  refine lv_iload hx hb dX1_survey_134 (lv_at hl 0 rfl) ?_
                  have kJ_51 : ∀ (v_50 : Bool) (_ : v_50 = (if v_45 = false then false else (if (shB q (u2 (5 + 1 + 1 + j) 2 - u2 (5 + 1 + 1 + i) 2) (u2 (5 + 1 + 1 + j) 3 - u2 (5 + 1 + 1 + i) 3)) = false then false else true))) (H_52 : Heap) (lo_53 : List Loc) (_ : MR G (wX G B tt) u2 H_52) (_ : va_S (blkA B (B + 77)) ss.heap H_52 lo_53) (ls : Array Slot) (_ : lv_has ls 7 [(6, .int (bI (v_45))), (5, .int (nI j)), (4, .int ((bI (!decide (u (5 + 1 + 1 + i) 11 ≠ 0) && (decide (u (5 + 1 + 1 + i) 1 ≠ 5) && (decide (u (5 + 1 + 1 + i) 1 ≠ 1) || decide (u (5 + 1 + 1 + i) 10 = (nI q)))))) <<< (nI i &&& 31))), (3, .ref (B + (5 + 1 + 1 + i))), (2, .int (nI i)), (0, .ref (B + (65 + 3 * q))), (1, .int (rz))]), W pp l ee rmX1_survey2 ss mm aa bb mt cd H_52 lo_53 0 0 Q (F0 mm 162 ls [.int (bI (v_50)), .int (u2 (65 + 3 * q + 1) i), .int (nI i), .ref (B + (65 + 3 * q + 1))]) := by
                    intro v_50 ev_50 H_52 lo_53 hX hS ls hl
                    refine x_ip (w := (wX G B tt)) (x := u2) (v := bI v_50) (va_runSN (host := "WindTaken") (As := [.int (bI (v_50))]) (rest := [.int (u2 (65 + 3 * q + 1) i), .int (nI i), .ref (B + (65 + 3 * q + 1))]) ⟨hx, hb, hml, hown, hts⟩ (c_X7_bit (l := l) (G := G) (B := B) (tt := tt) (hW := hW) (x := u2) (b := v_50)) ⟨va_cnB 1 hts gX1_survey_X7_bit_n47 rfl rfl rfl (hK.2 _ (List.mem_of_getElem? (i := 3) rfl)) (hts _ kiX1_survey2_RX7) (by decide +kernel) ⟨Nat.le_of_ble_eq_true rfl, Nat.le_of_ble_eq_true rfl⟩, (hts _ ksX1_survey2_X7_bit), trivial⟩ (x_ps (w := (wX G B tt)) hW hX hK hE hS [.int (bI (v_50))]) rfl rfl hl.1 rfl (lv_room (Nat.le_of_ble_eq_true rfl)) dX1_survey_162 ⟨Nat.zero_le _, Nat.zero_le _⟩) hS (fun H_54 lo_55 hX hS => ?_)
                    refine lv_iload hx hb dX1_survey_165 (lv_at hl 1 rfl) ?_
                    refine lv_ishl hx hb dX1_survey_167 ?_
                    refine lv_ior hx hb dX1_survey_168 ?_
                    refine x_iast (w := (wX G B tt)) (a := 65 + 3 * q + 1) (n := 8) (j := i) hx hb hK hW hX hS (bh_lt hq) (fun f => (shX_bh (G := G) (B := B) (f := f) hq)) rfl (by omega) (by decide) dX1_survey_169 (fun H_57 lo_58 hX hS => ?_)
                    obtain ⟨x_56, ex_56⟩ : ∃ z, z = mst u2 (65 + 3 * q + 1) i ((u2 (65 + 3 * q + 1) i) ||| ((bI v_50) <<< (nI j &&& 31))) := ⟨_, rfl⟩
                    rw [← ex_56] at hX
                    have z_59 : x_56 (5) 1 = nI (n) := by rw [ex_56, mst_ne (by first | decide | omega)]; exact hRu2.cnt
                    refine lv_iinc (v := nI (j + 1)) (lv' := [(5, .int (nI (j + 1))), (6, .int (bI (v_45))), (4, .int ((bI (!decide (u (5 + 1 + 1 + i) 11 ≠ 0) && (decide (u (5 + 1 + 1 + i) 1 ≠ 5) && (decide (u (5 + 1 + 1 + i) 1 ≠ 1) || decide (u (5 + 1 + 1 + i) 10 = (nI q)))))) <<< (nI i &&& 31))), (3, .ref (B + (5 + 1 + 1 + i))), (2, .int (nI i)), (0, .ref (B + (65 + 3 * q))), (1, .int (rz))]) hx hb dX1_survey_170 hl (k := 1) rfl (inc_nI _) (by decide) rfl (fun ls hl => ?_)
                    refine lv_goto (tgt := 92) hx hb dX1_survey_173 (by decide) ?_
                    exact ih_92 _ (by omega) (j + 1) (x_56) rfl ⟨by omega, by rw [ex_56]; exact SVi_step ho2 (by omega) (by rw [ev_50, ev_45, hRu2.xx (by omega), hRu2.xx (by omega), hRu2.yy (by omega), hRu2.yy (by omega), hh i (by omega), hh j (by omega)]; exact beh_eq), by rw [ex_56, mst_ne (by omega)]; exact hz2⟩ _ _ hX hS ls (lv_sub hl [0, 2, 3, 4, 5, 6] rfl)
                  refine x_ifeq (tgt := 161) hx hb dX1_survey_136 (by decide) (fun c_49 => ?_) (fun c_49 => ?_)
                  · refine lv_iconst (v := 0) hx hb dX1_survey_161 (by decide) ?_
                    exact kJ_51 (false) (by rw [if_pos c_49]) _ _ hX hS ls (lv_sub hl [0, 1, 2, 3, 4, 5, 6] rfl)
                  · refine lv_aload_n hx hb dX1_survey_139 rfl (lv_at hl 5 rfl) ?_
                    refine lv_aload_n hx hb dX1_survey_140 rfl (lv_at hl 3 rfl) ?_
                    refine lv_aload_n hx hb dX1_survey_141 rfl (lv_at hl 5 rfl) ?_
                    refine x_get (w := (wX G B tt)) (a := 65 + 3 * q) (v := .ref (B + (5))) hx hb hts iX1_survey2_X1 hown hK hX (qu_lt hq) (shX_qu (G := G) (B := B) hq) rfl 2 (by decide) (hts _ kX1_survey2_18) (fun _ h9 => h9) rfl dX1_survey_142 ?_
                    refine x_get (w := (wX G B tt)) (a := 5) (v := .ref (B + (5 + 1))) hx hb hts iX1_survey2_X3 hown hK hX (rg_lt rg5) (shX_ri (G := G) (B := B) rg5) rfl 0 (by decide) (hts _ kX1_survey2_37) (fun _ h9 => h9) rfl dX1_survey_145 ?_
                    refine lv_iload hx hb dX1_survey_148 (lv_at hl 1 rfl) ?_
                    refine x_aald (w := (wX G B tt)) (a := 5 + 1) (n := 8) (j := j) (q := B + (5 + 1 + 1 + j)) (t0 := 2) hx hb hK hX (rg_lt1 rg5) (shX_ma (G := G) (B := B) (f := u2 (5 + 1)) rg5) rfl rfl (by omega) (by decide) rfl dX1_survey_150 ?_
                    refine x_ip (w := (wX G B tt)) (x := u2) (v := bI (shB q (u2 (5 + 1 + 1 + j) 2 - u2 (5 + 1 + 1 + i) 2) (u2 (5 + 1 + 1 + j) 3 - u2 (5 + 1 + 1 + i) 3))) (va_runV (As := [.ref (B + (5 + 1 + 1 + i)), .ref (B + (5 + 1 + 1 + j))]) (rest := [.int (u2 (65 + 3 * q + 1) i), .int (nI i), .ref (B + (65 + 3 * q + 1))]) ⟨hx, hb, hml, hown, hts⟩ (c_X1_isShaded (l := l) (G := G) (B := B) (tt := tt) (hW := hW) (x := u2) (q := q) (hq := hq) (i := i) (hi := (by omega)) (j := j) (hj := (by omega))) (cwV 2 hts gX1_survey_X1_isShaded rfl rfl rfl (by decide +kernel) ⟨Nat.le_of_ble_eq_true rfl, Nat.le_of_ble_eq_true rfl⟩) (x_pv (w := (wX G B tt)) (a := 65 + 3 * q) hW hX hK hE hS [.ref (B + (5 + 1 + 1 + i)), .ref (B + (5 + 1 + 1 + j))] (qu_lt hq) (shX_qu (G := G) (B := B) hq) rfl) rfl rfl hl.1 rfl (lv_room (Nat.le_of_ble_eq_true rfl)) dX1_survey_151 ⟨Nat.zero_le _, Nat.zero_le _⟩) hS (fun H_60 lo_61 hX hS => ?_)
                    refine x_ifeq (tgt := 161) hx hb dX1_survey_154 (by decide) (fun c_62 => ?_) (fun c_62 => ?_)
                    · refine lv_iconst (v := 0) hx hb dX1_survey_161 (by decide) ?_
                      exact kJ_51 (false) (by rw [if_neg (ne_of_true c_49), if_pos c_62]) _ _ hX hS ls (lv_sub hl [0, 1, 2, 3, 4, 5, 6] rfl)
                    · refine lv_iconst (v := 1) hx hb dX1_survey_157 (by decide) ?_
                      refine lv_goto (tgt := 162) hx hb dX1_survey_158 (by decide) ?_
                      exact kJ_51 (true) (by rw [if_neg (ne_of_true c_49), if_neg (ne_of_true c_62)]) _ _ hX hS ls (lv_sub hl [0, 1, 2, 3, 4, 5, 6] rfl)
                refine lv_icmp_gt (tgt := 124) hx hb dX1_survey_117 (by decide) (fun c_44 => ?_) (fun c_44 => ?_)
                · refine lv_iconst (v := 0) hx hb dX1_survey_124 (by decide) ?_
                  exact kJ_46 (false) (by rw [if_pos c_44]) _ _ hX hS ls (lv_sub hl [0, 1, 2, 3, 4, 5] rfl)
                · refine lv_iconst (v := 1) hx hb dX1_survey_120 (by decide) ?_
                  refine lv_goto (tgt := 125) hx hb dX1_survey_121 (by decide) ?_
                  exact kJ_46 (true) (by rw [if_neg c_44]) _ _ hX hS ls (lv_sub hl [0, 1, 2, 3, 4, 5] rfl)
          exact L_36 _ (0) (x_31) rfl ⟨Nat.zero_le _, by rw [ex_31, ex_27, ex_18, show ∀ z, mst u (65 + 3 * q) 4 z (65 + 3 * q) 5 = u (65 + 3 * q) 5 from fun z => by rw [mst_eq, upd_ne (by decide)]]; exact SVi_0 ho (by omega) (turns_eq hRu (by omega)) (by rw [ev_23, ex_18, mst_ne (by omega), turns_eq hRu (by omega), hRu.kd (by omega)]; exact takes_eq rfl (by omega)), by rw [ex_31, mst_ne (by omega), ex_27, mst_ne (by omega), ex_18, mst_ne (by omega)]; exact hz⟩ _ _ hX hS ls (lv_sub hl [0, 1, 2, 3, 4, 5] rfl)
        refine lv_icmp_ne (tgt := 76) hx hb dX1_survey_69 (by decide) (fun c_22 => ?_) (fun c_22 => ?_)
        · refine lv_iload hx hb dX1_survey_76 (lv_at hl 0 rfl) ?_
          exact kJ_24 ((bI (!decide (u (5 + 1 + 1 + i) 11 ≠ 0) && (decide (u (5 + 1 + 1 + i) 1 ≠ 5) && (decide (u (5 + 1 + 1 + i) 1 ≠ 1) || decide (u (5 + 1 + 1 + i) 10 = (nI q)))))) <<< (nI i &&& 31)) (by rw [if_neg c_22]) _ _ hX hS ls (lv_sub hl [0, 1, 2, 3, 4] rfl)
        · refine lv_iconst (v := 0) hx hb dX1_survey_72 (by decide) ?_
          refine lv_goto (tgt := 78) hx hb dX1_survey_73 (by decide) ?_
          exact kJ_24 (0) (by rw [if_pos c_22]) _ _ hX hS ls (lv_sub hl [0, 1, 2, 3, 4] rfl)
  exact L_10 _ (0) (x_5) rfl ⟨Nat.zero_le _, by rw [ex_5, ex_1]; exact SVo_0, by rw [ex_5, mst_ne (by omega), ex_1, mst_ne (by omega)]⟩ _ _ hX hS ls (lv_sub hl [0, 1, 2] rfl)
