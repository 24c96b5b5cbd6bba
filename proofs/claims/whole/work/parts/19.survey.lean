theorem kX1_survey_21 : (.fieldLink RX1 21 "WindTaken$Quarter" "ridge" "LWindTaken$Ridge;" : Cond) ∈ wsX1_survey := by decide +kernel
theorem iX1_survey_X1 : ∀ w ∈ wsX10, w ∈ wsX1_survey := by decide +kernel
theorem kX1_survey_29 : (.fieldLink RX1 29 "WindTaken$Quarter" "q" "I" : Cond) ∈ wsX1_survey := by decide +kernel
theorem kX1_survey_52 : (.fieldLink RX1 52 "WindTaken$Quarter" "turning" "I" : Cond) ∈ wsX1_survey := by decide +kernel
theorem kX1_survey_55 : (.fieldLink RX1 55 "WindTaken$Quarter" "taking" "I" : Cond) ∈ wsX1_survey := by decide +kernel
theorem kX1_survey_58 : (.fieldLink RX1 58 "WindTaken$Ridge" "count" "I" : Cond) ∈ wsX1_survey := by decide +kernel
theorem iX1_survey_X3 : ∀ w ∈ wsX30, w ∈ wsX1_survey := by decide +kernel
theorem kX1_survey_37 : (.fieldLink RX1 37 "WindTaken$Ridge" "mills" "[LWindTaken$Mill;" : Cond) ∈ wsX1_survey := by decide +kernel
theorem kiX1_survey_RX7 : (.initialized RX7 : Cond) ∈ wsX1_survey := by decide +kernel
theorem ksX1_survey_X7_bit : (.static yX7_bit : Cond) ∈ wsX1_survey := by decide +kernel
theorem kX1_survey_68 : (.fieldLink RX1 68 "WindTaken$Mill" "kind" "I" : Cond) ∈ wsX1_survey := by decide +kernel
theorem iX1_survey_X0 : ∀ w ∈ wsX00, w ∈ wsX1_survey := by decide +kernel
theorem kX1_survey_9 : (.fieldLink RX1 9 "WindTaken$Quarter" "behind" "[I" : Cond) ∈ wsX1_survey := by decide +kernel
theorem kX1_survey_41 : (.fieldLink RX1 41 "WindTaken$Mill" "floors" "I" : Cond) ∈ wsX1_survey := by decide +kernel
theorem kX1_survey_46 : (.methodLink RX1 46 Lib.Math.min.name : Cond) ∈ wsX1_survey := by decide +kernel
theorem ksX1_survey_min : (.static Lib.Math.min.name : Cond) ∈ wsX1_survey := by decide +kernel
theorem kiX1_survey_Math : (.initialized "java/lang/Math" : Cond) ∈ wsX1_survey := by decide +kernel
theorem kcX1_survey_min : (.code Lib.Math.min.name Lib.Math.min.code 2 (some .int) : Cond) ∈ wsX1_survey := by decide +kernel
abbrev rmX1_survey : Room := { frames := 3, cells := 0, slots := 0, locals := 67 }
set_option maxHeartbeats 4000000 in
set_option maxRecDepth 100000 in
theorem c_X1_survey (l : Launch) (G : GG) (B : Nat) (tt : Nat → Nat) (hW : WOK (wX G B tt)) (x : Mem) {q : Nat} (hq : q < 4) (rz : Int32) {n : Nat} {nw : Nat → Int32} {h : Int32} (hR : RR n x 5 nw) (hh : ∀ j, j < n → (if nI j = rz then jmin (sF nw j 0 + 1) 9 else sF nw j 0) = sFl nw j h) : Met l yX1_survey wsX1_survey rmX1_survey (XP G (wX G B tt) [.ref (B + (65 + 13 * q)), .ref (B + (5)), .int (nI q), .int (rz)] x) (va_Qv (fun u => offQ q x u ∧ SV n nw u q h ∧ RQ n u q nw ∧ u (65 + 13 * q + 2) = x (65 + 13 * q + 2)) (XB G (wX G B tt)) (blkA B (B + 117))) 0 0 (blkA B (B + 117)) := by
  refine Met.ofW (cc := cX1_survey) (maxL := 8) (ret := none) (by decide) rfl ?_
  intro pp ee ss mm aa bb mt cd s1 Bd hml hv
  obtain ⟨hae, hX, hK, hE⟩ := hv
  have hx := Bd.exec
  have hb := Bd.bytes
  have hr := Bd.returns
  have hts := atoms_spec (ws := wsX1_survey) Bd.pre
  have hown : ss.vm.findClass RX1 = some mm.cls := findClass_of_methodNamed Bd.named
  have hlocks := Bd.notSynchronized
  have hS : va_S (blkA B (B + 117)) ss.heap ss.heap [] := va_S.rf
  have hl := lv_entry ([.ref (B + (65 + 13 * q)), .ref (B + (5)), .int (nI q), .int (rz)]) (n := 8) (Nat.le_of_ble_eq_true rfl)
  subst hae
  rw [lg_entry_eq]
  generalize (lg_sl ([.ref (B + (65 + 13 * q)), .ref (B + (5)), .int (nI q), .int (rz)]) ++ List.replicate (8 - (lg_sl ([.ref (B + (65 + 13 * q)), .ref (B + (5)), .int (nI q), .int (rz)])).length) Slot.unset).toArray = ls at hl ⊢
  have hl : lv_has ls 8 [(0, .ref (B + (65 + 13 * q))), (1, .ref (B + (5))), (2, .int (nI q)), (3, .int (rz))] := hl
  generalize ([.ref (B + (65 + 13 * q)), .ref (B + (5)), .int (nI q), .int (rz)] : List Value).toArray = aa at hts ⊢
  show W pp l ee rmX1_survey ss mm aa bb mt cd ss.heap [] 0 0 _ (F0 mm 0 ls [])
  generalize hQ : MQ bb (va_Qv (fun u => offQ q x u ∧ SV n nw u q h ∧ RQ n u q nw ∧ u (65 + 13 * q + 2) = x (65 + 13 * q + 2)) (XB G (wX G B tt)) (blkA B (B + 117))) aa ss 0 0 (blkA B (B + 117)) = Q
  have hn8 := hR.1
  refine lv_aload_n hx hb dX1_survey_0 rfl (lv_at hl 0 rfl) ?_
  refine x_get (w := (wX G B tt)) (a := 65 + 13 * q) (v := .ref (B + (65 + 13 * q + 3))) hx hb hts iX1_survey_X1 hown hK hX (qu_lt hq) (shX_qu (G := G) (B := B) hq) rfl 2 (by decide) (hts _ kX1_survey_21) (fun _ h9 => h9) rfl dX1_survey_1 ?_
  refine lv_aload_n hx hb dX1_survey_4 rfl (lv_at hl 1 rfl) ?_
  refine x_vf (w := (wX G B tt)) (va_runV (As := [.ref (B + (5))]) (rest := []) ⟨hx, hb, hml, hown, hts⟩ (c_X3_become (l := l) (G := G) (B := B) (tt := tt) (hW := hW) (x := x) (ρ := 65 + 13 * q + 3) (hρ := (rgQ hq)) (σ := 5) (hσ := rg5) (n := n) (nw := nw) (hR := hR) (hne := (by omega))) (cwV 1 hts gX1_survey_X3_become rfl rfl rfl (by decide +kernel) ⟨Nat.le_of_ble_eq_true rfl, Nat.le_of_ble_eq_true rfl⟩) (x_pv (w := (wX G B tt)) (a := 65 + 13 * q + 3) hW hX hK hE hS [.ref (B + (5))] (rg_lt (rgQ hq)) (shX_ri (G := G) (B := B) (rgQ hq)) rfl) rfl rfl hl.1 rfl (lv_room (Nat.le_of_ble_eq_true rfl)) dX1_survey_5 ⟨Nat.zero_le _, Nat.zero_le _⟩) hS (fun x_3 H_1 lo_2 h_5 hX hS => ?_)
  try dsimp only at h_5
  refine lv_aload_n hx hb dX1_survey_8 rfl (lv_at hl 0 rfl) ?_
  refine lv_iload_n hx hb dX1_survey_9 rfl (lv_at hl 2 rfl) ?_
  refine x_put (w := (wX G B tt)) (a := 65 + 13 * q) (v := nI q) (ty := .int) hx hb hts iX1_survey_X1 tyX1 tyX1_ok nmX1 hown hK hW hX hS (qu_lt hq) (shX_qu (G := G) (B := B) hq) rfl 3 (by decide) (hts _ kX1_survey_29) (fun _ h9 => h9) rfl (by decide +kernel) rfl rfl (Nat.le_of_ble_eq_true rfl) (shX_qu (G := G) (B := B) hq) dX1_survey_10 (fun H_5 lo_6 hX hS => ?_)
  obtain ⟨x_4, ex_4⟩ : ∃ z, z = mst x_3 (65 + 13 * q) 3 (nI q) := ⟨_, rfl⟩
  rw [← ex_4] at hX
  have z_7 : x_4 (65 + 13 * q) 3 = nI (q) := by rw [ex_4, mst_self]; first | done | exact rfl
  have hRA : RR n x_4 (65 + 13 * q + 3) nw := h_5.1.same (fun a a1 a2 => by rw [ex_4, mst_ne (by omega)])
  have hqA : x_4 (65 + 13 * q) 3 = nI q := by rw [ex_4, mst_self]
  have hoA : offQ q x x_4 := fun a h9 => by rw [ex_4, mst_ne (by omega)]; exact h_5.2 a (by omega)
  have hzA : x_4 (65 + 13 * q + 2) = x (65 + 13 * q + 2) := by rw [ex_4, mst_ne (by omega)]; exact h_5.2 _ (by omega)
  have K_8 : ∀   (y1 : Mem) (_ : offQ q x y1 ∧ y1 (65 + 13 * q) 3 = nI q ∧ RV n y1 q nw h ∧ y1 (65 + 13 * q + 2) = x (65 + 13 * q + 2)) (H_9 : Heap) (lo_10 : List Loc) (_ : MR G (wX G B tt) y1 H_9) (_ : va_S (blkA B (B + 117)) ss.heap H_9 lo_10) (ls : Array Slot) (_ : lv_has ls 8 [(0, .ref (B + (65 + 13 * q))), (1, .ref (B + (5))), (2, .int (nI q)), (3, .int (rz))]), W pp l ee rmX1_survey ss mm aa bb mt cd H_9 lo_10 0 0 Q (F0 mm 52 ls []) := by
    intro y1 hI H_9 lo_10 hX hS ls hl
    obtain ⟨ho1, hq1, hRV1, hz1⟩ := hI
    refine lv_aload_n hx hb dX1_survey_52 rfl (lv_at hl 0 rfl) ?_
    refine lv_iconst (v := 0) hx hb dX1_survey_53 (by decide) ?_
    refine x_put (w := (wX G B tt)) (a := 65 + 13 * q) (v := 0) (ty := .int) hx hb hts iX1_survey_X1 tyX1 tyX1_ok nmX1 hown hK hW hX hS (qu_lt hq) (shX_qu (G := G) (B := B) hq) rfl 4 (by decide) (hts _ kX1_survey_52) (fun _ h9 => h9) rfl (by decide +kernel) rfl rfl (Nat.le_of_ble_eq_true rfl) (shX_qu (G := G) (B := B) hq) dX1_survey_54 (fun H_12 lo_13 hX hS => ?_)
    obtain ⟨x_11, ex_11⟩ : ∃ z, z = mst y1 (65 + 13 * q) 4 (0) := ⟨_, rfl⟩
    rw [← ex_11] at hX
    have z_14 : x_11 (65 + 13 * q) 4 = nI (0) := by rw [ex_11, mst_self]; first | done | exact rfl
    refine lv_aload_n hx hb dX1_survey_57 rfl (lv_at hl 0 rfl) ?_
    refine lv_iconst (v := 0) hx hb dX1_survey_58 (by decide) ?_
    refine x_put (w := (wX G B tt)) (a := 65 + 13 * q) (v := 0) (ty := .int) hx hb hts iX1_survey_X1 tyX1 tyX1_ok nmX1 hown hK hW hX hS (qu_lt hq) (shX_qu (G := G) (B := B) hq) rfl 5 (by decide) (hts _ kX1_survey_55) (fun _ h9 => h9) rfl (by decide +kernel) rfl rfl (Nat.le_of_ble_eq_true rfl) (shX_qu (G := G) (B := B) hq) dX1_survey_59 (fun H_16 lo_17 hX hS => ?_)
    obtain ⟨x_15, ex_15⟩ : ∃ z, z = mst x_11 (65 + 13 * q) 5 (0) := ⟨_, rfl⟩
    rw [← ex_15] at hX
    have z_18 : x_15 (65 + 13 * q) 4 = nI (0) := by rw [ex_15, mst_eq, upd_ne (by first | decide | omega)]; exact z_14
    have z_19 : x_15 (65 + 13 * q) 5 = nI (0) := by rw [ex_15, mst_self]; first | done | exact rfl
    refine lv_iconst (v := 0) hx hb dX1_survey_62 (by decide) ?_
    refine lv_istore (lv' := [(4, .int (0)), (0, .ref (B + (65 + 13 * q))), (1, .ref (B + (5))), (2, .int (nI q)), (3, .int (rz))]) hx hb dX1_survey_63 hl (by decide) rfl (fun ls hl => ?_)
    have L_20 : ∀ (n9 : Nat) (i : Nat)  (u : Mem) (_ : n9 = n - i) (_ : i ≤ n ∧ SVo n nw y1 q h u i) (H_21 : Heap) (lo_22 : List Loc) (_ : MR G (wX G B tt) u H_21) (_ : va_S (blkA B (B + 117)) ss.heap H_21 lo_22) (ls : Array Slot) (_ : lv_has ls 8 [(4, .int (nI i)), (0, .ref (B + (65 + 13 * q))), (1, .ref (B + (5))), (2, .int (nI q)), (3, .int (rz))]), W pp l ee rmX1_survey ss mm aa bb mt cd H_21 lo_22 0 0 Q (F0 mm 65 ls []) := by
      intro n9
      induction n9 using Nat.strongRecOn with
      | _ n9 ih => 
        have ih_65 := ih
        intro i u hn9 hI H_21 lo_22 hX hS ls hl
        obtain ⟨hi, ho⟩ := hI
        have hRu := hRV1.off ho.1
        refine lv_iload hx hb dX1_survey_65 (lv_at hl 0 rfl) ?_
        refine lv_aload_n hx hb dX1_survey_67 rfl (lv_at hl 1 rfl) ?_
        refine x_get (w := (wX G B tt)) (a := 65 + 13 * q) (v := .ref (B + (65 + 13 * q + 3))) hx hb hts iX1_survey_X1 hown hK hX (qu_lt hq) (shX_qu (G := G) (B := B) hq) rfl 2 (by decide) (hts _ kX1_survey_21) (fun _ h9 => h9) rfl dX1_survey_68 ?_
        refine x_get (w := (wX G B tt)) (a := 65 + 13 * q + 3) (v := .int (u (65 + 13 * q + 3) 1)) hx hb hts iX1_survey_X3 hown hK hX (rg_lt (rgQ hq)) (shX_ri (G := G) (B := B) (rgQ hq)) rfl 1 (by decide) (hts _ kX1_survey_58) (fun _ h9 => h9) rfl dX1_survey_71 ?_
        refine lv_icmp_ge (tgt := 208) hx hb dX1_survey_74 (by decide) (fun c_23 => ?_) (fun c_23 => ?_)
        · have nc_23 := (n_le (a := n) (b := i) hRu.cnt rfl (by omega) (by omega)).mp c_23
          rw [← hQ]
          refine x_vret hx hb hr hX hS hlocks dX1_survey_208 ?_
          have e9 : i = n := by omega
          subst e9
          exact ⟨ho1.tr (fun a h9 => ho.1 a (by omega) (by omega)), ho.2.2, hRu.rq, (ho.1 _ (by omega) (by omega)).trans hz1⟩
        · have nc_23 := Nat.not_le.mp (fun q => c_23 ((n_le (a := n) (b := i) hRu.cnt rfl (by omega) (by omega)).mpr q))
          refine lv_aload_n hx hb dX1_survey_77 rfl (lv_at hl 1 rfl) ?_
          refine x_get (w := (wX G B tt)) (a := 65 + 13 * q) (v := .ref (B + (65 + 13 * q + 3))) hx hb hts iX1_survey_X1 hown hK hX (qu_lt hq) (shX_qu (G := G) (B := B) hq) rfl 2 (by decide) (hts _ kX1_survey_21) (fun _ h9 => h9) rfl dX1_survey_78 ?_
          refine x_get (w := (wX G B tt)) (a := 65 + 13 * q + 3) (v := .ref (B + ((65 + 13 * q + 3) + 1))) hx hb hts iX1_survey_X3 hown hK hX (rg_lt (rgQ hq)) (shX_ri (G := G) (B := B) (rgQ hq)) rfl 0 (by decide) (hts _ kX1_survey_37) (fun _ h9 => h9) rfl dX1_survey_81 ?_
          refine lv_iload hx hb dX1_survey_84 (lv_at hl 0 rfl) ?_
          refine x_aald (w := (wX G B tt)) (a := (65 + 13 * q + 3) + 1) (n := 8) (j := i) (q := B + ((65 + 13 * q + 3) + 1 + 1 + i)) (t0 := 2) hx hb hK hX (rg_lt1 (rgQ hq)) (shX_ma (G := G) (B := B) (f := u ((65 + 13 * q + 3) + 1)) (rgQ hq)) rfl rfl (by omega) (by decide) rfl dX1_survey_86 ?_
          refine lv_astore (lv' := [(5, .ref (B + ((65 + 13 * q + 3) + 1 + 1 + i))), (4, .int (nI i)), (0, .ref (B + (65 + 13 * q))), (1, .ref (B + (5))), (2, .int (nI q)), (3, .int (rz))]) hx hb dX1_survey_87 hl (by decide) rfl (fun ls hl => ?_)
          refine lv_aload hx hb dX1_survey_89 (lv_at hl 0 rfl) ?_
          refine lv_aload_n hx hb dX1_survey_91 rfl (lv_at hl 2 rfl) ?_
          refine x_get (w := (wX G B tt)) (a := 65 + 13 * q) (v := .int (u (65 + 13 * q) 3)) hx hb hts iX1_survey_X1 hown hK hX (qu_lt hq) (shX_qu (G := G) (B := B) hq) rfl 3 (by decide) (hts _ kX1_survey_29) (fun _ h9 => h9) rfl dX1_survey_92 ?_
          refine x_ip (w := (wX G B tt)) (x := u) (v := bI (!decide (u ((65 + 13 * q + 3) + 1 + 1 + i) 11 ≠ 0) && (decide (u ((65 + 13 * q + 3) + 1 + 1 + i) 1 ≠ 5) && (decide (u ((65 + 13 * q + 3) + 1 + 1 + i) 1 ≠ 1) || decide (u ((65 + 13 * q + 3) + 1 + 1 + i) 10 = (u (65 + 13 * q) 3)))))) (va_runV (As := [.int (u (65 + 13 * q) 3)]) (rest := []) ⟨hx, hb, hml, hown, hts⟩ (c_X0_turnsIn (l := l) (G := G) (B := B) (tt := tt) (hW := hW) (x := u) (ρ := 65 + 13 * q + 3) (hρ := (rgQ hq)) (j := i) (hj := (by omega)) (q := u (65 + 13 * q) 3)) (cwV 1 hts gX1_survey_X0_turnsIn rfl rfl rfl (by decide +kernel) ⟨Nat.le_of_ble_eq_true rfl, Nat.le_of_ble_eq_true rfl⟩) (x_pv (w := (wX G B tt)) (a := (65 + 13 * q + 3) + 1 + 1 + i) hW hX hK hE hS [.int (u (65 + 13 * q) 3)] (rg_ltm (rgQ hq) (by omega)) (shX_mi (G := G) (B := B) (rgQ hq) (by omega)) rfl) rfl rfl hl.1 rfl (lv_room (Nat.le_of_ble_eq_true rfl)) dX1_survey_95 ⟨Nat.zero_le _, Nat.zero_le _⟩) hS (fun H_24 lo_25 hX hS => ?_)
          refine x_ip (w := (wX G B tt)) (x := u) (v := bI (!decide (u ((65 + 13 * q + 3) + 1 + 1 + i) 11 ≠ 0) && (decide (u ((65 + 13 * q + 3) + 1 + 1 + i) 1 ≠ 5) && (decide (u ((65 + 13 * q + 3) + 1 + 1 + i) 1 ≠ 1) || decide (u ((65 + 13 * q + 3) + 1 + 1 + i) 10 = (u (65 + 13 * q) 3)))))) (va_runSN (host := "WindTaken") (As := [.int (bI (!decide (u ((65 + 13 * q + 3) + 1 + 1 + i) 11 ≠ 0) && (decide (u ((65 + 13 * q + 3) + 1 + 1 + i) 1 ≠ 5) && (decide (u ((65 + 13 * q + 3) + 1 + 1 + i) 1 ≠ 1) || decide (u ((65 + 13 * q + 3) + 1 + 1 + i) 10 = (u (65 + 13 * q) 3))))))]) (rest := []) ⟨hx, hb, hml, hown, hts⟩ (c_X7_bit (l := l) (G := G) (B := B) (tt := tt) (hW := hW) (x := u) (b := !decide (u ((65 + 13 * q + 3) + 1 + 1 + i) 11 ≠ 0) && (decide (u ((65 + 13 * q + 3) + 1 + 1 + i) 1 ≠ 5) && (decide (u ((65 + 13 * q + 3) + 1 + 1 + i) 1 ≠ 1) || decide (u ((65 + 13 * q + 3) + 1 + 1 + i) 10 = (u (65 + 13 * q) 3)))))) ⟨va_cnB 1 hts gX1_survey_X7_bit_n64 rfl rfl rfl (hK.2 _ (List.mem_of_getElem? (i := 0) rfl)) (hts _ kiX1_survey_RX7) (by decide +kernel) ⟨Nat.le_of_ble_eq_true rfl, Nat.le_of_ble_eq_true rfl⟩, (hts _ ksX1_survey_X7_bit), trivial⟩ (x_ps (w := (wX G B tt)) hW hX hK hE hS [.int (bI (!decide (u ((65 + 13 * q + 3) + 1 + 1 + i) 11 ≠ 0) && (decide (u ((65 + 13 * q + 3) + 1 + 1 + i) 1 ≠ 5) && (decide (u ((65 + 13 * q + 3) + 1 + 1 + i) 1 ≠ 1) || decide (u ((65 + 13 * q + 3) + 1 + 1 + i) 10 = (u (65 + 13 * q) 3))))))]) rfl rfl hl.1 rfl (lv_room (Nat.le_of_ble_eq_true rfl)) dX1_survey_98 ⟨Nat.zero_le _, Nat.zero_le _⟩) hS (fun H_26 lo_27 hX hS => ?_)
          refine lv_iload hx hb dX1_survey_101 (lv_at hl 1 rfl) ?_
          refine lv_ishl hx hb dX1_survey_103 ?_
          refine lv_istore (lv' := [(6, .int ((bI (!decide (u ((65 + 13 * q + 3) + 1 + 1 + i) 11 ≠ 0) && (decide (u ((65 + 13 * q + 3) + 1 + 1 + i) 1 ≠ 5) && (decide (u ((65 + 13 * q + 3) + 1 + 1 + i) 1 ≠ 1) || decide (u ((65 + 13 * q + 3) + 1 + 1 + i) 10 = (u (65 + 13 * q) 3)))))) <<< (nI i &&& 31))), (5, .ref (B + ((65 + 13 * q + 3) + 1 + 1 + i))), (4, .int (nI i)), (0, .ref (B + (65 + 13 * q))), (1, .ref (B + (5))), (2, .int (nI q)), (3, .int (rz))]) hx hb dX1_survey_104 hl (by decide) rfl (fun ls hl => ?_)
          refine lv_aload_n hx hb dX1_survey_106 rfl (lv_at hl 3 rfl) ?_
          refine lv_dup hx hb dX1_survey_107 rfl ?_
          refine x_get (w := (wX G B tt)) (a := 65 + 13 * q) (v := .int (u (65 + 13 * q) 4)) hx hb hts iX1_survey_X1 hown hK hX (qu_lt hq) (shX_qu (G := G) (B := B) hq) rfl 4 (by decide) (hts _ kX1_survey_52) (fun _ h9 => h9) rfl dX1_survey_108 ?_
          refine lv_iload hx hb dX1_survey_111 (lv_at hl 0 rfl) ?_
          refine lv_ior hx hb dX1_survey_113 ?_
          refine x_put (w := (wX G B tt)) (a := 65 + 13 * q) (v := (u (65 + 13 * q) 4) ||| ((bI (!decide (u ((65 + 13 * q + 3) + 1 + 1 + i) 11 ≠ 0) && (decide (u ((65 + 13 * q + 3) + 1 + 1 + i) 1 ≠ 5) && (decide (u ((65 + 13 * q + 3) + 1 + 1 + i) 1 ≠ 1) || decide (u ((65 + 13 * q + 3) + 1 + 1 + i) 10 = (u (65 + 13 * q) 3)))))) <<< (nI i &&& 31))) (ty := .int) hx hb hts iX1_survey_X1 tyX1 tyX1_ok nmX1 hown hK hW hX hS (qu_lt hq) (shX_qu (G := G) (B := B) hq) rfl 4 (by decide) (hts _ kX1_survey_52) (fun _ h9 => h9) rfl (by decide +kernel) rfl rfl (Nat.le_of_ble_eq_true rfl) (shX_qu (G := G) (B := B) hq) dX1_survey_114 (fun H_29 lo_30 hX hS => ?_)
          obtain ⟨x_28, ex_28⟩ : ∃ z, z = mst u (65 + 13 * q) 4 ((u (65 + 13 * q) 4) ||| ((bI (!decide (u ((65 + 13 * q + 3) + 1 + 1 + i) 11 ≠ 0) && (decide (u ((65 + 13 * q + 3) + 1 + 1 + i) 1 ≠ 5) && (decide (u ((65 + 13 * q + 3) + 1 + 1 + i) 1 ≠ 1) || decide (u ((65 + 13 * q + 3) + 1 + 1 + i) 10 = (u (65 + 13 * q) 3)))))) <<< (nI i &&& 31))) := ⟨_, rfl⟩
          rw [← ex_28] at hX
          have z_31 : x_28 (65 + 13 * q + 3) 1 = nI (n) := by rw [ex_28, mst_ne (by first | decide | omega)]; exact hRu.cnt
          refine lv_aload_n hx hb dX1_survey_117 rfl (lv_at hl 3 rfl) ?_
          refine lv_dup hx hb dX1_survey_118 rfl ?_
          refine x_get (w := (wX G B tt)) (a := 65 + 13 * q) (v := .int (x_28 (65 + 13 * q) 5)) hx hb hts iX1_survey_X1 hown hK hX (qu_lt hq) (shX_qu (G := G) (B := B) hq) rfl 5 (by decide) (hts _ kX1_survey_55) (fun _ h9 => h9) rfl dX1_survey_119 ?_
          refine lv_aload hx hb dX1_survey_122 (lv_at hl 1 rfl) ?_
          refine x_get (w := (wX G B tt)) (a := (65 + 13 * q + 3) + 1 + 1 + i) (v := .int (x_28 ((65 + 13 * q + 3) + 1 + 1 + i) 1)) hx hb hts iX1_survey_X0 hown hK hX (rg_ltm (rgQ hq) (by omega)) (shX_mi (G := G) (B := B) (rgQ hq) (by omega)) rfl 1 (by decide) (hts _ kX1_survey_68) (fun _ h9 => h9) rfl dX1_survey_124 ?_
          refine lv_iconst (v := 4) hx hb dX1_survey_127 (by decide) ?_
          have kJ_34 : ∀ (v_33 : Int32) (_ : v_33 = (if (x_28 ((65 + 13 * q + 3) + 1 + 1 + i) 1) = 4 then (0 : Int32) else ((bI (!decide (u ((65 + 13 * q + 3) + 1 + 1 + i) 11 ≠ 0) && (decide (u ((65 + 13 * q + 3) + 1 + 1 + i) 1 ≠ 5) && (decide (u ((65 + 13 * q + 3) + 1 + 1 + i) 1 ≠ 1) || decide (u ((65 + 13 * q + 3) + 1 + 1 + i) 10 = (u (65 + 13 * q) 3)))))) <<< (nI i &&& 31)))) (H_35 : Heap) (lo_36 : List Loc) (_ : MR G (wX G B tt) x_28 H_35) (_ : va_S (blkA B (B + 117)) ss.heap H_35 lo_36) (ls : Array Slot) (_ : lv_has ls 8 [(6, .int ((bI (!decide (u ((65 + 13 * q + 3) + 1 + 1 + i) 11 ≠ 0) && (decide (u ((65 + 13 * q + 3) + 1 + 1 + i) 1 ≠ 5) && (decide (u ((65 + 13 * q + 3) + 1 + 1 + i) 1 ≠ 1) || decide (u ((65 + 13 * q + 3) + 1 + 1 + i) 10 = (u (65 + 13 * q) 3)))))) <<< (nI i &&& 31))), (5, .ref (B + ((65 + 13 * q + 3) + 1 + 1 + i))), (4, .int (nI i)), (0, .ref (B + (65 + 13 * q))), (1, .ref (B + (5))), (2, .int (nI q)), (3, .int (rz))]), W pp l ee rmX1_survey ss mm aa bb mt cd H_35 lo_36 0 0 Q (F0 mm 137 ls [.int (v_33), .int (x_28 (65 + 13 * q) 5), .ref (B + (65 + 13 * q))]) := by
            intro v_33 ev_33 H_35 lo_36 hX hS ls hl
            refine lv_ior hx hb dX1_survey_137 ?_
            refine x_put (w := (wX G B tt)) (a := 65 + 13 * q) (v := (x_28 (65 + 13 * q) 5) ||| v_33) (ty := .int) hx hb hts iX1_survey_X1 tyX1 tyX1_ok nmX1 hown hK hW hX hS (qu_lt hq) (shX_qu (G := G) (B := B) hq) rfl 5 (by decide) (hts _ kX1_survey_55) (fun _ h9 => h9) rfl (by decide +kernel) rfl rfl (Nat.le_of_ble_eq_true rfl) (shX_qu (G := G) (B := B) hq) dX1_survey_138 (fun H_38 lo_39 hX hS => ?_)
            obtain ⟨x_37, ex_37⟩ : ∃ z, z = mst x_28 (65 + 13 * q) 5 ((x_28 (65 + 13 * q) 5) ||| v_33) := ⟨_, rfl⟩
            rw [← ex_37] at hX
            have z_40 : x_37 (65 + 13 * q + 3) 1 = nI (n) := by rw [ex_37, mst_ne (by first | decide | omega)]; exact z_31
            refine lv_aload_n hx hb dX1_survey_141 rfl (lv_at hl 3 rfl) ?_
            refine x_get (w := (wX G B tt)) (a := 65 + 13 * q) (v := .ref (B + (65 + 13 * q + 1))) hx hb hts iX1_survey_X1 hown hK hX (qu_lt hq) (shX_qu (G := G) (B := B) hq) rfl 0 (by decide) (hts _ kX1_survey_9) (fun _ h9 => h9) rfl dX1_survey_142 ?_
            refine lv_iload hx hb dX1_survey_145 (lv_at hl 2 rfl) ?_
            refine lv_iconst (v := 0) hx hb dX1_survey_147 (by decide) ?_
            refine x_iast (w := (wX G B tt)) (a := 65 + 13 * q + 1) (n := 8) (j := i) hx hb hK hW hX hS (bh_lt hq) (fun f => (shX_bh (G := G) (B := B) (f := f) hq)) rfl (by omega) (by decide) dX1_survey_148 (fun H_42 lo_43 hX hS => ?_)
            obtain ⟨x_41, ex_41⟩ : ∃ z, z = mst x_37 (65 + 13 * q + 1) i (0) := ⟨_, rfl⟩
            rw [← ex_41] at hX
            have z_44 : x_41 (65 + 13 * q + 3) 1 = nI (n) := by rw [ex_41, mst_ne (by first | decide | omega)]; exact z_40
            have z_45 : x_41 (65 + 13 * q + 1) i = nI (0) := by rw [ex_41, mst_self]; first | done | exact rfl
            refine lv_iconst (v := 0) hx hb dX1_survey_149 (by decide) ?_
            refine lv_istore (lv' := [(7, .int (0)), (6, .int ((bI (!decide (u ((65 + 13 * q + 3) + 1 + 1 + i) 11 ≠ 0) && (decide (u ((65 + 13 * q + 3) + 1 + 1 + i) 1 ≠ 5) && (decide (u ((65 + 13 * q + 3) + 1 + 1 + i) 1 ≠ 1) || decide (u ((65 + 13 * q + 3) + 1 + 1 + i) 10 = (u (65 + 13 * q) 3)))))) <<< (nI i &&& 31))), (5, .ref (B + ((65 + 13 * q + 3) + 1 + 1 + i))), (4, .int (nI i)), (0, .ref (B + (65 + 13 * q))), (1, .ref (B + (5))), (2, .int (nI q)), (3, .int (rz))]) hx hb dX1_survey_150 hl (by decide) rfl (fun ls hl => ?_)
            have L_46 : ∀ (n9 : Nat) (j : Nat)  (u2 : Mem) (_ : n9 = n - j) (_ : j ≤ n ∧ SVi n nw y1 q h u2 i j) (H_47 : Heap) (lo_48 : List Loc) (_ : MR G (wX G B tt) u2 H_47) (_ : va_S (blkA B (B + 117)) ss.heap H_47 lo_48) (ls : Array Slot) (_ : lv_has ls 8 [(7, .int (nI j)), (6, .int ((bI (!decide (u ((65 + 13 * q + 3) + 1 + 1 + i) 11 ≠ 0) && (decide (u ((65 + 13 * q + 3) + 1 + 1 + i) 1 ≠ 5) && (decide (u ((65 + 13 * q + 3) + 1 + 1 + i) 1 ≠ 1) || decide (u ((65 + 13 * q + 3) + 1 + 1 + i) 10 = (u (65 + 13 * q) 3)))))) <<< (nI i &&& 31))), (5, .ref (B + ((65 + 13 * q + 3) + 1 + 1 + i))), (4, .int (nI i)), (0, .ref (B + (65 + 13 * q))), (1, .ref (B + (5))), (2, .int (nI q)), (3, .int (rz))]), W pp l ee rmX1_survey ss mm aa bb mt cd H_47 lo_48 0 0 Q (F0 mm 152 ls []) := by
              intro n9
              induction n9 using Nat.strongRecOn with
              | _ n9 ih => 
                have ih_152 := ih
                intro j u2 hn9 hI H_47 lo_48 hX hS ls hl
                obtain ⟨hj, ho2⟩ := hI
                have hRu2 := hRV1.off ho2.1
                have hq3 := ho2.2.1
                refine lv_iload hx hb dX1_survey_152 (lv_at hl 0 rfl) ?_
                refine lv_aload_n hx hb dX1_survey_154 rfl (lv_at hl 4 rfl) ?_
                refine x_get (w := (wX G B tt)) (a := 65 + 13 * q) (v := .ref (B + (65 + 13 * q + 3))) hx hb hts iX1_survey_X1 hown hK hX (qu_lt hq) (shX_qu (G := G) (B := B) hq) rfl 2 (by decide) (hts _ kX1_survey_21) (fun _ h9 => h9) rfl dX1_survey_155 ?_
                refine x_get (w := (wX G B tt)) (a := 65 + 13 * q + 3) (v := .int (u2 (65 + 13 * q + 3) 1)) hx hb hts iX1_survey_X3 hown hK hX (rg_lt (rgQ hq)) (shX_ri (G := G) (B := B) (rgQ hq)) rfl 1 (by decide) (hts _ kX1_survey_58) (fun _ h9 => h9) rfl dX1_survey_158 ?_
                refine lv_icmp_ge (tgt := 202) hx hb dX1_survey_161 (by decide) (fun c_49 => ?_) (fun c_49 => ?_)
                · have nc_49 := (n_le (a := n) (b := j) hRu2.cnt rfl (by omega) (by omega)).mp c_49
                  refine lv_iinc (v := nI (i + 1)) (lv' := [(4, .int (nI (i + 1))), (7, .int (nI j)), (6, .int ((bI (!decide (u ((65 + 13 * q + 3) + 1 + 1 + i) 11 ≠ 0) && (decide (u ((65 + 13 * q + 3) + 1 + 1 + i) 1 ≠ 5) && (decide (u ((65 + 13 * q + 3) + 1 + 1 + i) 1 ≠ 1) || decide (u ((65 + 13 * q + 3) + 1 + 1 + i) 10 = (u (65 + 13 * q) 3)))))) <<< (nI i &&& 31))), (5, .ref (B + ((65 + 13 * q + 3) + 1 + 1 + i))), (0, .ref (B + (65 + 13 * q))), (1, .ref (B + (5))), (2, .int (nI q)), (3, .int (rz))]) hx hb dX1_survey_202 hl (k := 3) rfl (inc_nI _) (by decide) rfl (fun ls hl => ?_)
                  refine lv_goto (tgt := 65) hx hb dX1_survey_205 (by decide) ?_
                  exact ih_65 _ (by omega) (i + 1) (u2) rfl ⟨by omega, SVo_step ho2 (by omega)⟩ _ _ hX hS ls (lv_sub hl [0, 4, 5, 6, 7] rfl)
                · have nc_49 := Nat.not_le.mp (fun q => c_49 ((n_le (a := n) (b := j) hRu2.cnt rfl (by omega) (by omega)).mpr q))
                  refine lv_aload_n hx hb dX1_survey_164 rfl (lv_at hl 4 rfl) ?_
                  refine x_get (w := (wX G B tt)) (a := 65 + 13 * q) (v := .ref (B + (65 + 13 * q + 1))) hx hb hts iX1_survey_X1 hown hK hX (qu_lt hq) (shX_qu (G := G) (B := B) hq) rfl 0 (by decide) (hts _ kX1_survey_9) (fun _ h9 => h9) rfl dX1_survey_165 ?_
                  refine lv_iload hx hb dX1_survey_168 (lv_at hl 3 rfl) ?_
                  refine lv_dup2_11 hx hb dX1_survey_170 rfl rfl ?_
                  refine x_iald (w := (wX G B tt)) (a := 65 + 13 * q + 1) (n := 8) (j := i) hx hb hK hX (bh_lt hq) (shX_bh (G := G) (B := B) (f := u2 (65 + 13 * q + 1)) hq) rfl (by omega) (by decide) dX1_survey_171 ?_
                  refine lv_aload_n hx hb dX1_survey_172 rfl (lv_at hl 4 rfl) ?_
                  refine lv_aload hx hb dX1_survey_173 (lv_at hl 2 rfl) ?_
                  refine lv_aload_n hx hb dX1_survey_175 rfl (lv_at hl 4 rfl) ?_
                  refine x_get (w := (wX G B tt)) (a := 65 + 13 * q) (v := .ref (B + (65 + 13 * q + 3))) hx hb hts iX1_survey_X1 hown hK hX (qu_lt hq) (shX_qu (G := G) (B := B) hq) rfl 2 (by decide) (hts _ kX1_survey_21) (fun _ h9 => h9) rfl dX1_survey_176 ?_
                  refine x_get (w := (wX G B tt)) (a := 65 + 13 * q + 3) (v := .ref (B + ((65 + 13 * q + 3) + 1))) hx hb hts iX1_survey_X3 hown hK hX (rg_lt (rgQ hq)) (shX_ri (G := G) (B := B) (rgQ hq)) rfl 0 (by decide) (hts _ kX1_survey_37) (fun _ h9 => h9) rfl dX1_survey_179 ?_
                  refine lv_iload hx hb dX1_survey_182 (lv_at hl 0 rfl) ?_
                  refine x_aald (w := (wX G B tt)) (a := (65 + 13 * q + 3) + 1) (n := 8) (j := j) (q := B + ((65 + 13 * q + 3) + 1 + 1 + j)) (t0 := 2) hx hb hK hX (rg_lt1 (rgQ hq)) (shX_ma (G := G) (B := B) (f := u2 ((65 + 13 * q + 3) + 1)) (rgQ hq)) rfl rfl (by omega) (by decide) rfl dX1_survey_184 ?_
                  refine x_ip (w := (wX G B tt)) (x := u2) (v := bI (decide (u2 ((65 + 13 * q + 3) + 1 + 1 + i) 4 ≤ u2 ((65 + 13 * q + 3) + 1 + 1 + j) 4) && shB q (u2 ((65 + 13 * q + 3) + 1 + 1 + j) 2 - u2 ((65 + 13 * q + 3) + 1 + 1 + i) 2) (u2 ((65 + 13 * q + 3) + 1 + 1 + j) 3 - u2 ((65 + 13 * q + 3) + 1 + 1 + i) 3))) (va_runV (As := [.ref (B + ((65 + 13 * q + 3) + 1 + 1 + i)), .ref (B + ((65 + 13 * q + 3) + 1 + 1 + j))]) (rest := [.int (u2 (65 + 13 * q + 1) i), .int (nI i), .ref (B + (65 + 13 * q + 1))]) ⟨hx, hb, hml, hown, hts⟩ (c_X1_isBehind (l := l) (G := G) (B := B) (tt := tt) (hW := hW) (x := u2) (q := q) (hq := hq) (ρ := 65 + 13 * q + 3) (hρ := (rgQ hq)) (i := i) (hi := (by omega)) (j := j) (hj := (by omega)) (hq3 := hq3)) (cwV 2 hts gX1_survey_X1_isBehind rfl rfl rfl (by decide +kernel) ⟨Nat.le_of_ble_eq_true rfl, Nat.le_of_ble_eq_true rfl⟩) (x_pv (w := (wX G B tt)) (a := 65 + 13 * q) hW hX hK hE hS [.ref (B + ((65 + 13 * q + 3) + 1 + 1 + i)), .ref (B + ((65 + 13 * q + 3) + 1 + 1 + j))] (qu_lt hq) (shX_qu (G := G) (B := B) hq) rfl) rfl rfl hl.1 rfl (lv_room (Nat.le_of_ble_eq_true rfl)) dX1_survey_185 ⟨Nat.zero_le _, Nat.zero_le _⟩) hS (fun H_50 lo_51 hX hS => ?_)
                  refine x_ip (w := (wX G B tt)) (x := u2) (v := bI (decide (u2 ((65 + 13 * q + 3) + 1 + 1 + i) 4 ≤ u2 ((65 + 13 * q + 3) + 1 + 1 + j) 4) && shB q (u2 ((65 + 13 * q + 3) + 1 + 1 + j) 2 - u2 ((65 + 13 * q + 3) + 1 + 1 + i) 2) (u2 ((65 + 13 * q + 3) + 1 + 1 + j) 3 - u2 ((65 + 13 * q + 3) + 1 + 1 + i) 3))) (va_runSN (host := "WindTaken") (As := [.int (bI (decide (u2 ((65 + 13 * q + 3) + 1 + 1 + i) 4 ≤ u2 ((65 + 13 * q + 3) + 1 + 1 + j) 4) && shB q (u2 ((65 + 13 * q + 3) + 1 + 1 + j) 2 - u2 ((65 + 13 * q + 3) + 1 + 1 + i) 2) (u2 ((65 + 13 * q + 3) + 1 + 1 + j) 3 - u2 ((65 + 13 * q + 3) + 1 + 1 + i) 3)))]) (rest := [.int (u2 (65 + 13 * q + 1) i), .int (nI i), .ref (B + (65 + 13 * q + 1))]) ⟨hx, hb, hml, hown, hts⟩ (c_X7_bit (l := l) (G := G) (B := B) (tt := tt) (hW := hW) (x := u2) (b := decide (u2 ((65 + 13 * q + 3) + 1 + 1 + i) 4 ≤ u2 ((65 + 13 * q + 3) + 1 + 1 + j) 4) && shB q (u2 ((65 + 13 * q + 3) + 1 + 1 + j) 2 - u2 ((65 + 13 * q + 3) + 1 + 1 + i) 2) (u2 ((65 + 13 * q + 3) + 1 + 1 + j) 3 - u2 ((65 + 13 * q + 3) + 1 + 1 + i) 3))) ⟨va_cnB 1 hts gX1_survey_X7_bit_n64 rfl rfl rfl (hK.2 _ (List.mem_of_getElem? (i := 0) rfl)) (hts _ kiX1_survey_RX7) (by decide +kernel) ⟨Nat.le_of_ble_eq_true rfl, Nat.le_of_ble_eq_true rfl⟩, (hts _ ksX1_survey_X7_bit), trivial⟩ (x_ps (w := (wX G B tt)) hW hX hK hE hS [.int (bI (decide (u2 ((65 + 13 * q + 3) + 1 + 1 + i) 4 ≤ u2 ((65 + 13 * q + 3) + 1 + 1 + j) 4) && shB q (u2 ((65 + 13 * q + 3) + 1 + 1 + j) 2 - u2 ((65 + 13 * q + 3) + 1 + 1 + i) 2) (u2 ((65 + 13 * q + 3) + 1 + 1 + j) 3 - u2 ((65 + 13 * q + 3) + 1 + 1 + i) 3)))]) rfl rfl hl.1 rfl (lv_room (Nat.le_of_ble_eq_true rfl)) dX1_survey_188 ⟨Nat.zero_le _, Nat.zero_le _⟩) hS (fun H_52 lo_53 hX hS => ?_)
                  refine lv_iload hx hb dX1_survey_191 (lv_at hl 0 rfl) ?_
                  refine lv_ishl hx hb dX1_survey_193 ?_
                  refine lv_ior hx hb dX1_survey_194 ?_
                  refine x_iast (w := (wX G B tt)) (a := 65 + 13 * q + 1) (n := 8) (j := i) hx hb hK hW hX hS (bh_lt hq) (fun f => (shX_bh (G := G) (B := B) (f := f) hq)) rfl (by omega) (by decide) dX1_survey_195 (fun H_55 lo_56 hX hS => ?_)
                  obtain ⟨x_54, ex_54⟩ : ∃ z, z = mst u2 (65 + 13 * q + 1) i ((u2 (65 + 13 * q + 1) i) ||| ((bI (decide (u2 ((65 + 13 * q + 3) + 1 + 1 + i) 4 ≤ u2 ((65 + 13 * q + 3) + 1 + 1 + j) 4) && shB q (u2 ((65 + 13 * q + 3) + 1 + 1 + j) 2 - u2 ((65 + 13 * q + 3) + 1 + 1 + i) 2) (u2 ((65 + 13 * q + 3) + 1 + 1 + j) 3 - u2 ((65 + 13 * q + 3) + 1 + 1 + i) 3))) <<< (nI j &&& 31))) := ⟨_, rfl⟩
                  rw [← ex_54] at hX
                  have z_57 : x_54 (65 + 13 * q + 3) 1 = nI (n) := by rw [ex_54, mst_ne (by first | decide | omega)]; exact hRu2.cnt
                  refine lv_iinc (v := nI (j + 1)) (lv' := [(7, .int (nI (j + 1))), (6, .int ((bI (!decide (u ((65 + 13 * q + 3) + 1 + 1 + i) 11 ≠ 0) && (decide (u ((65 + 13 * q + 3) + 1 + 1 + i) 1 ≠ 5) && (decide (u ((65 + 13 * q + 3) + 1 + 1 + i) 1 ≠ 1) || decide (u ((65 + 13 * q + 3) + 1 + 1 + i) 10 = (u (65 + 13 * q) 3)))))) <<< (nI i &&& 31))), (5, .ref (B + ((65 + 13 * q + 3) + 1 + 1 + i))), (4, .int (nI i)), (0, .ref (B + (65 + 13 * q))), (1, .ref (B + (5))), (2, .int (nI q)), (3, .int (rz))]) hx hb dX1_survey_196 hl (k := 0) rfl (inc_nI _) (by decide) rfl (fun ls hl => ?_)
                  refine lv_goto (tgt := 152) hx hb dX1_survey_199 (by decide) ?_
                  exact ih_152 _ (by omega) (j + 1) (x_54) rfl ⟨by omega, by rw [ex_54]; exact SVi_step ho2 (by omega) (by rw [hRu2.xx (j := i) (by omega), hRu2.xx (j := j) (by omega), hRu2.yy (j := i) (by omega), hRu2.yy (j := j) (by omega), hRu2.fl (j := i) (by omega), hRu2.fl (j := j) (by omega)]; rfl)⟩ _ _ hX hS ls (lv_sub hl [0, 1, 2, 3, 4, 5, 6, 7] rfl)
            exact L_46 _ (0) (x_41) rfl ⟨Nat.zero_le _, by rw [ex_41, ex_37, ex_28, show ∀ z, mst u (65 + 13 * q) 4 z (65 + 13 * q) 5 = u (65 + 13 * q) 5 from fun z => by rw [mst_eq, upd_ne (by decide)]]; exact SVi_0 ho (by omega) (turns_eq hRu ho.2.1 (by omega)) (by rw [ev_33, ex_28, mst_ne (by omega), turns_eq hRu ho.2.1 (by omega), hRu.kd (by omega)]; exact takes_eq rfl (by omega))⟩ _ _ hX hS ls (lv_sub hl [0, 1, 2, 3, 4, 5, 6, 7] rfl)
          refine lv_icmp_ne (tgt := 135) hx hb dX1_survey_128 (by decide) (fun c_32 => ?_) (fun c_32 => ?_)
          · refine lv_iload hx hb dX1_survey_135 (lv_at hl 0 rfl) ?_
            exact kJ_34 ((bI (!decide (u ((65 + 13 * q + 3) + 1 + 1 + i) 11 ≠ 0) && (decide (u ((65 + 13 * q + 3) + 1 + 1 + i) 1 ≠ 5) && (decide (u ((65 + 13 * q + 3) + 1 + 1 + i) 1 ≠ 1) || decide (u ((65 + 13 * q + 3) + 1 + 1 + i) 10 = (u (65 + 13 * q) 3)))))) <<< (nI i &&& 31)) (by rw [if_neg c_32]) _ _ hX hS ls (lv_sub hl [0, 1, 2, 3, 4, 5, 6] rfl)
          · refine lv_iconst (v := 0) hx hb dX1_survey_131 (by decide) ?_
            refine lv_goto (tgt := 137) hx hb dX1_survey_132 (by decide) ?_
            exact kJ_34 (0) (by rw [if_pos c_32]) _ _ hX hS ls (lv_sub hl [0, 1, 2, 3, 4, 5, 6] rfl)
    exact L_20 _ (0) (x_15) rfl ⟨Nat.zero_le _, by rw [ex_15, ex_11]; exact SVo_0 hq1⟩ _ _ hX hS ls (lv_sub hl [0, 1, 2, 3, 4] rfl)
  refine lv_aload_n hx hb dX1_survey_13 rfl (lv_at hl 0 rfl) ?_
  refine x_get (w := (wX G B tt)) (a := 65 + 13 * q) (v := .ref (B + (65 + 13 * q + 3))) hx hb hts iX1_survey_X1 hown hK hX (qu_lt hq) (shX_qu (G := G) (B := B) hq) rfl 2 (by decide) (hts _ kX1_survey_21) (fun _ h9 => h9) rfl dX1_survey_14 ?_
  refine lv_iload_n hx hb dX1_survey_17 rfl (lv_at hl 3 rfl) ?_
  refine x_ip (w := (wX G B tt)) (x := x_4) (v := bI (decide (0 ≤ rz) && decide (rz < x_4 (65 + 13 * q + 3) 1))) (va_runV (As := [.int (rz)]) (rest := []) ⟨hx, hb, hml, hown, hts⟩ (c_X3_has (l := l) (G := G) (B := B) (tt := tt) (hW := hW) (x := x_4) (ρ := 65 + 13 * q + 3) (hρ := (rgQ hq)) (v := rz)) (cwV 1 hts gX1_survey_X3_has rfl rfl rfl (by decide +kernel) ⟨Nat.le_of_ble_eq_true rfl, Nat.le_of_ble_eq_true rfl⟩) (x_pv (w := (wX G B tt)) (a := 65 + 13 * q + 3) hW hX hK hE hS [.int (rz)] (rg_lt (rgQ hq)) (shX_ri (G := G) (B := B) (rgQ hq)) rfl) rfl rfl hl.1 rfl (lv_room (Nat.le_of_ble_eq_true rfl)) dX1_survey_18 ⟨Nat.zero_le _, Nat.zero_le _⟩) hS (fun H_58 lo_59 hX hS => ?_)
  refine x_ifeq (tgt := 52) hx hb dX1_survey_21 (by decide) (fun c_60 => ?_) (fun c_60 => ?_)
  · exact K_8 (x_4) (by first | exact ⟨hoA, hqA, rs_no hRA hh c_60, hzA⟩ | exact ⟨fun a h9 => by rw [ex_4, mst_ne (by omega)]; exact hoA a h9, by rw [ex_4, mst_ne (by omega)]; exact hqA, by rw [ex_4]; exact rs_yes hRA hh hrze hrzn, by rw [ex_4, mst_ne (by omega)]; exact hzA⟩) _ _ hX hS ls (lv_sub hl [0, 1, 2, 3] rfl)
  · obtain ⟨hrze, hrzn⟩ := hasM hRA.cnt hn8 c_60
    refine lv_aload_n hx hb dX1_survey_24 rfl (lv_at hl 0 rfl) ?_
    refine x_get (w := (wX G B tt)) (a := 65 + 13 * q) (v := .ref (B + (65 + 13 * q + 3))) hx hb hts iX1_survey_X1 hown hK hX (qu_lt hq) (shX_qu (G := G) (B := B) hq) rfl 2 (by decide) (hts _ kX1_survey_21) (fun _ h9 => h9) rfl dX1_survey_25 ?_
    refine x_get (w := (wX G B tt)) (a := 65 + 13 * q + 3) (v := .ref (B + ((65 + 13 * q + 3) + 1))) hx hb hts iX1_survey_X3 hown hK hX (rg_lt (rgQ hq)) (shX_ri (G := G) (B := B) (rgQ hq)) rfl 0 (by decide) (hts _ kX1_survey_37) (fun _ h9 => h9) rfl dX1_survey_28 ?_
    refine lv_iload_n hx hb dX1_survey_31 rfl (lv_at hl 3 rfl) ?_
    refine x_aald (w := (wX G B tt)) (a := (65 + 13 * q + 3) + 1) (n := 8) (j := tn rz) (q := B + ((65 + 13 * q + 3) + 1 + 1 + (tn rz))) (t0 := 2) hx hb hK hX (rg_lt1 (rgQ hq)) (shX_ma (G := G) (B := B) (f := x_4 ((65 + 13 * q + 3) + 1)) (rgQ hq)) rfl hrze (by omega) (by decide) rfl dX1_survey_32 ?_
    refine lv_astore (lv' := [(4, .ref (B + ((65 + 13 * q + 3) + 1 + 1 + (tn rz)))), (0, .ref (B + (65 + 13 * q))), (1, .ref (B + (5))), (2, .int (nI q)), (3, .int (rz))]) hx hb dX1_survey_33 hl (by decide) rfl (fun ls hl => ?_)
    refine lv_aload hx hb dX1_survey_35 (lv_at hl 0 rfl) ?_
    refine lv_aload hx hb dX1_survey_37 (lv_at hl 0 rfl) ?_
    refine x_get (w := (wX G B tt)) (a := (65 + 13 * q + 3) + 1 + 1 + (tn rz)) (v := .int (x_4 ((65 + 13 * q + 3) + 1 + 1 + (tn rz)) 4)) hx hb hts iX1_survey_X0 hown hK hX (rg_ltm (rgQ hq) (by omega)) (shX_mi (G := G) (B := B) (rgQ hq) (by omega)) rfl 4 (by decide) (hts _ kX1_survey_41) (fun _ h9 => h9) rfl dX1_survey_39 ?_
    refine lv_iconst (v := 1) hx hb dX1_survey_42 (by decide) ?_
    refine lv_iadd hx hb dX1_survey_43 ?_
    refine lv_bipush (v := 9) hx hb dX1_survey_44 (by decide) ?_
    refine x_mmin hx hb (by rw [hml]; exact hl.1.symm) hown (hts _ kX1_survey_46) (hts _ ksX1_survey_min) (hts _ kiX1_survey_Math) (hts _ kcX1_survey_min) ⟨Nat.le_of_ble_eq_true rfl, Nat.le_of_ble_eq_true rfl, Nat.zero_le _, Nat.zero_le _⟩ dX1_survey_46 ?_
    refine x_put (w := (wX G B tt)) (a := (65 + 13 * q + 3) + 1 + 1 + (tn rz)) (v := jmin ((x_4 ((65 + 13 * q + 3) + 1 + 1 + (tn rz)) 4) + 1) 9) (ty := .int) hx hb hts iX1_survey_X0 tyX0 tyX0_ok nmX0 hown hK hW hX hS (rg_ltm (rgQ hq) (by omega)) (shX_mi (G := G) (B := B) (rgQ hq) (by omega)) rfl 4 (by decide) (hts _ kX1_survey_41) (fun _ h9 => h9) rfl (by decide +kernel) rfl rfl (Nat.le_of_ble_eq_true rfl) (shX_mi (G := G) (B := B) (rgQ hq) (by omega)) dX1_survey_49 (fun H_62 lo_63 hX hS => ?_)
    obtain ⟨x_61, ex_61⟩ : ∃ z, z = mst x_4 ((65 + 13 * q + 3) + 1 + 1 + (tn rz)) 4 (jmin ((x_4 ((65 + 13 * q + 3) + 1 + 1 + (tn rz)) 4) + 1) 9) := ⟨_, rfl⟩
    rw [← ex_61] at hX
    have z_64 : x_61 (65 + 13 * q) 3 = nI (q) := by rw [ex_61, mst_ne (by first | decide | omega)]; exact z_7
    have z_65 : x_61 (65 + 13 * q + 3) 1 = nI (n) := by rw [ex_61, mst_ne (by first | decide | omega)]; exact hRA.cnt
    exact K_8 (x_61) (by first | exact ⟨hoA, hqA, rs_no hRA hh c_60, hzA⟩ | exact ⟨fun a h9 => by rw [ex_61, mst_ne (by omega)]; exact hoA a h9, by rw [ex_61, mst_ne (by omega)]; exact hqA, by rw [ex_61]; exact rs_yes hRA hh hrze hrzn, by rw [ex_61, mst_ne (by omega)]; exact hzA⟩) _ _ hX hS ls (lv_sub hl [1, 2, 3, 4] rfl)

theorem kX1_blow_15 : (.fieldLink RX1 15 "WindTaken$Quarter" "after" "[I" : Cond) ∈ wsX1_blow := by decide +kernel
theorem iX1_blow_X1 : ∀ w ∈ wsX10, w ∈ wsX1_blow := by decide +kernel
theorem kX1_blow_21 : (.fieldLink RX1 21 "WindTaken$Quarter" "ridge" "LWindTaken$Ridge;" : Cond) ∈ wsX1_blow := by decide +kernel
theorem kX1_blow_89 : (.fieldLink RX1 89 "WindTaken$Ridge" "take" "I" : Cond) ∈ wsX1_blow := by decide +kernel
theorem iX1_blow_X3 : ∀ w ∈ wsX30, w ∈ wsX1_blow := by decide +kernel
abbrev rmX1_blow : Room := { frames := 0, cells := 0, slots := 0, locals := 0 }
set_option maxHeartbeats 4000000 in
set_option maxRecDepth 100000 in
theorem c_X1_blow (l : Launch) (G : GG) (B : Nat) (tt : Nat → Nat) (hW : WOK (wX G B tt)) (x : Mem) {q : Nat} (hq : q < 4) (w : Int32) {n : Nat} {nw : Nat → Int32} (hRq : RQ n x q nw) : Met l yX1_blow wsX1_blow rmX1_blow (XP G (wX G B tt) [.ref (B + (65 + 13 * q)), .int (w)] x) (va_Qv (fun u => (∀ a, a ≠ 65 + 13 * q + 2 → u a = x a) ∧ BL nw u q w) (XB G (wX G B tt)) (blkA B (B + 117))) 0 0 (blkA B (B + 117)) := by
  refine Met.ofW (cc := cX1_blow) (maxL := 3) (ret := none) (by decide) rfl ?_
  intro pp ee ss mm aa bb mt cd s1 Bd hml hv
  obtain ⟨hae, hX, hK, hE⟩ := hv
  have hx := Bd.exec
  have hb := Bd.bytes
  have hr := Bd.returns
  have hts := atoms_spec (ws := wsX1_blow) Bd.pre
  have hown : ss.vm.findClass RX1 = some mm.cls := findClass_of_methodNamed Bd.named
  have hlocks := Bd.notSynchronized
  have hS : va_S (blkA B (B + 117)) ss.heap ss.heap [] := va_S.rf
  have hl := lv_entry ([.ref (B + (65 + 13 * q)), .int (w)]) (n := 3) (Nat.le_of_ble_eq_true rfl)
  subst hae
  rw [lg_entry_eq]
  generalize (lg_sl ([.ref (B + (65 + 13 * q)), .int (w)]) ++ List.replicate (3 - (lg_sl ([.ref (B + (65 + 13 * q)), .int (w)])).length) Slot.unset).toArray = ls at hl ⊢
  have hl : lv_has ls 3 [(0, .ref (B + (65 + 13 * q))), (1, .int (w))] := hl
  generalize ([.ref (B + (65 + 13 * q)), .int (w)] : List Value).toArray = aa at hts ⊢
  show W pp l ee rmX1_blow ss mm aa bb mt cd ss.heap [] 0 0 _ (F0 mm 0 ls [])
  generalize hQ : MQ bb (va_Qv (fun u => (∀ a, a ≠ 65 + 13 * q + 2 → u a = x a) ∧ BL nw u q w) (XB G (wX G B tt)) (blkA B (B + 117))) aa ss 0 0 (blkA B (B + 117)) = Q
  refine lv_aload_n hx hb dX1_blow_0 rfl (lv_at hl 0 rfl) ?_
  refine x_get (w := (wX G B tt)) (a := 65 + 13 * q) (v := .ref (B + (65 + 13 * q + 2))) hx hb hts iX1_blow_X1 hown hK hX (qu_lt hq) (shX_qu (G := G) (B := B) hq) rfl 1 (by decide) (hts _ kX1_blow_15) (fun _ h9 => h9) rfl dX1_blow_1 ?_
  refine lv_iconst (v := 0) hx hb dX1_blow_4 (by decide) ?_
  refine lv_iload_n hx hb dX1_blow_5 rfl (lv_at hl 1 rfl) ?_
  refine x_iast (w := (wX G B tt)) (a := 65 + 13 * q + 2) (n := 9) (j := 0) hx hb hK hW hX hS (af_lt hq) (fun f => (shX_af (G := G) (B := B) (f := f) hq)) rfl (by decide) (by decide) dX1_blow_6 (fun H_2 lo_3 hX hS => ?_)
  obtain ⟨x_1, ex_1⟩ : ∃ z, z = mst x (65 + 13 * q + 2) 0 (w) := ⟨_, rfl⟩
  rw [← ex_1] at hX
  refine lv_iconst (v := 1) hx hb dX1_blow_7 (by decide) ?_
  refine lv_istore_n (lv' := [(2, .int (1)), (0, .ref (B + (65 + 13 * q))), (1, .int (w))]) hx hb dX1_blow_8 rfl hl (by decide) rfl (fun ls hl => ?_)
  have L_4 : ∀ (n9 : Nat) (i : Nat)  (u : Mem) (_ : n9 = 9 - i) (_ : 1 ≤ i ∧ i ≤ 9 ∧ (∀ a, a ≠ 65 + 13 * q + 2 → u a = x a) ∧ ∀ k, k < i → u (65 + 13 * q + 2) k = lIt (nw 2) w k) (H_5 : Heap) (lo_6 : List Loc) (_ : MR G (wX G B tt) u H_5) (_ : va_S (blkA B (B + 117)) ss.heap H_5 lo_6) (ls : Array Slot) (_ : lv_has ls 3 [(2, .int (nI i)), (0, .ref (B + (65 + 13 * q))), (1, .int (w))]), W pp l ee rmX1_blow ss mm aa bb mt cd H_5 lo_6 0 0 Q (F0 mm 9 ls []) := by
    intro n9
    induction n9 using Nat.strongRecOn with
    | _ n9 ih => 
      have ih_9 := ih
      intro i u hn9 hI H_5 lo_6 hX hS ls hl
      obtain ⟨hi1, hi, ho, hu⟩ := hI
      refine lv_iload_n hx hb dX1_blow_9 rfl (lv_at hl 0 rfl) ?_
      refine lv_bipush (v := 8) hx hb dX1_blow_10 (by decide) ?_
      refine lv_icmp_gt (tgt := 55) hx hb dX1_blow_12 (by decide) (fun c_7 => ?_) (fun c_7 => ?_)
      · have nc_7 := (n_lt (a := 8) (b := i) rfl rfl (by omega) (by omega)).mp c_7
        rw [← hQ]
        refine x_vret hx hb hr hX hS hlocks dX1_blow_55 ?_
        exact ⟨ho, fun k hk => hu k (by omega)⟩
      · have nc_7 := Nat.not_lt.mp (fun q => c_7 ((n_lt (a := 8) (b := i) rfl rfl (by omega) (by omega)).mpr q))
        refine lv_aload_n hx hb dX1_blow_15 rfl (lv_at hl 1 rfl) ?_
        refine x_get (w := (wX G B tt)) (a := 65 + 13 * q) (v := .ref (B + (65 + 13 * q + 2))) hx hb hts iX1_blow_X1 hown hK hX (qu_lt hq) (shX_qu (G := G) (B := B) hq) rfl 1 (by decide) (hts _ kX1_blow_15) (fun _ h9 => h9) rfl dX1_blow_16 ?_
        refine lv_iload_n hx hb dX1_blow_19 rfl (lv_at hl 0 rfl) ?_
        refine lv_aload_n hx hb dX1_blow_20 rfl (lv_at hl 1 rfl) ?_
        refine x_get (w := (wX G B tt)) (a := 65 + 13 * q) (v := .ref (B + (65 + 13 * q + 2))) hx hb hts iX1_blow_X1 hown hK hX (qu_lt hq) (shX_qu (G := G) (B := B) hq) rfl 1 (by decide) (hts _ kX1_blow_15) (fun _ h9 => h9) rfl dX1_blow_21 ?_
        refine lv_iload_n hx hb dX1_blow_24 rfl (lv_at hl 0 rfl) ?_
        refine lv_iconst (v := 1) hx hb dX1_blow_25 (by decide) ?_
        refine lv_isub hx hb dX1_blow_26 ?_
        refine x_iald (w := (wX G B tt)) (a := 65 + 13 * q + 2) (n := 9) (j := i - 1) hx hb hK hX (af_lt hq) (shX_af (G := G) (B := B) (f := u (65 + 13 * q + 2)) hq) (n_sub rfl rfl hi1) (by omega) (by decide) dX1_blow_27 ?_
        refine lv_aload_n hx hb dX1_blow_28 rfl (lv_at hl 1 rfl) ?_
        refine x_get (w := (wX G B tt)) (a := 65 + 13 * q) (v := .ref (B + (65 + 13 * q + 3))) hx hb hts iX1_blow_X1 hown hK hX (qu_lt hq) (shX_qu (G := G) (B := B) hq) rfl 2 (by decide) (hts _ kX1_blow_21) (fun _ h9 => h9) rfl dX1_blow_29 ?_
        refine x_get (w := (wX G B tt)) (a := 65 + 13 * q + 3) (v := .int (u (65 + 13 * q + 3) 3)) hx hb hts iX1_blow_X3 hown hK hX (rg_lt (rgQ hq)) (shX_ri (G := G) (B := B) (rgQ hq)) rfl 3 (by decide) (hts _ kX1_blow_89) (fun _ h9 => h9) rfl dX1_blow_32 ?_
        refine lv_aload_n hx hb dX1_blow_35 rfl (lv_at hl 1 rfl) ?_
        refine x_get (w := (wX G B tt)) (a := 65 + 13 * q) (v := .ref (B + (65 + 13 * q + 2))) hx hb hts iX1_blow_X1 hown hK hX (qu_lt hq) (shX_qu (G := G) (B := B) hq) rfl 1 (by decide) (hts _ kX1_blow_15) (fun _ h9 => h9) rfl dX1_blow_36 ?_
        refine lv_iload_n hx hb dX1_blow_39 rfl (lv_at hl 0 rfl) ?_
        refine lv_iconst (v := 1) hx hb dX1_blow_40 (by decide) ?_
        refine lv_isub hx hb dX1_blow_41 ?_
        refine x_iald (w := (wX G B tt)) (a := 65 + 13 * q + 2) (n := 9) (j := i - 1) hx hb hK hX (af_lt hq) (shX_af (G := G) (B := B) (f := u (65 + 13 * q + 2)) hq) (n_sub rfl rfl hi1) (by omega) (by decide) dX1_blow_42 ?_
        refine lv_imul hx hb dX1_blow_43 ?_
        refine lv_bipush (v := 100) hx hb dX1_blow_44 (by decide) ?_
        refine lv_idiv hx hb dX1_blow_46 (by decide) ?_
        refine lv_isub hx hb dX1_blow_47 ?_
        refine x_iast (w := (wX G B tt)) (a := 65 + 13 * q + 2) (n := 9) (j := i) hx hb hK hW hX hS (af_lt hq) (fun f => (shX_af (G := G) (B := B) (f := f) hq)) rfl (by omega) (by decide) dX1_blow_48 (fun H_9 lo_10 hX hS => ?_)
        obtain ⟨x_8, ex_8⟩ : ∃ z, z = mst u (65 + 13 * q + 2) i ((u (65 + 13 * q + 2) (i - 1)) - (((u (65 + 13 * q + 3) 3) * (u (65 + 13 * q + 2) (i - 1))) / 100)) := ⟨_, rfl⟩
        rw [← ex_8] at hX
        refine lv_iinc (v := nI (i + 1)) (lv' := [(2, .int (nI (i + 1))), (0, .ref (B + (65 + 13 * q))), (1, .int (w))]) hx hb dX1_blow_49 hl (k := 0) rfl (inc_nI _) (by decide) rfl (fun ls hl => ?_)
        refine lv_goto (tgt := 9) hx hb dX1_blow_52 (by decide) ?_
        exact ih_9 _ (by omega) (i + 1) (x_8) rfl ⟨by omega, by omega, fun a h => by rw [ex_8, mst_ne h]; exact ho a h, fun k hk => by
          rw [ex_8]
          by_cases hk2 : k = i
          · subst hk2; rw [mst_self, ho (65 + 13 * q + 3) (by omega), hRq.tk, hu (k - 1) (by omega)]; obtain ⟨k3, rfl⟩ : ∃ k3, k = k3 + 1 := ⟨k - 1, by omega⟩; rfl
          · rw [mst_eq, upd_ne hk2]; exact hu k (by omega)⟩ _ _ hX hS ls (lv_sub hl [0, 1, 2] rfl)
  exact L_4 _ (1) (x_1) rfl ⟨Nat.le_refl 1, by decide, fun a h => by rw [ex_1, mst_ne h], fun k hk => by rw [ex_1, show k = 0 by omega, mst_self]; rfl⟩ _ _ hX hS ls (lv_sub hl [0, 1, 2] rfl)

theorem kX1_wouldGrind_21 : (.fieldLink RX1 21 "WindTaken$Quarter" "ridge" "LWindTaken$Ridge;" : Cond) ∈ wsX1_wouldGrind := by decide +kernel
theorem iX1_wouldGrind_X1 : ∀ w ∈ wsX10, w ∈ wsX1_wouldGrind := by decide +kernel
theorem kX1_wouldGrind_58 : (.fieldLink RX1 58 "WindTaken$Ridge" "count" "I" : Cond) ∈ wsX1_wouldGrind := by decide +kernel
theorem iX1_wouldGrind_X3 : ∀ w ∈ wsX30, w ∈ wsX1_wouldGrind := by decide +kernel
theorem kX1_wouldGrind_37 : (.fieldLink RX1 37 "WindTaken$Ridge" "mills" "[LWindTaken$Mill;" : Cond) ∈ wsX1_wouldGrind := by decide +kernel
theorem kX1_wouldGrind_107 : (.fieldLink RX1 107 "WindTaken$Mill" "corn" "I" : Cond) ∈ wsX1_wouldGrind := by decide +kernel
theorem iX1_wouldGrind_X0 : ∀ w ∈ wsX00, w ∈ wsX1_wouldGrind := by decide +kernel
theorem kX1_wouldGrind_46 : (.methodLink RX1 46 Lib.Math.min.name : Cond) ∈ wsX1_wouldGrind := by decide +kernel
theorem ksX1_wouldGrind_min : (.static Lib.Math.min.name : Cond) ∈ wsX1_wouldGrind := by decide +kernel
theorem kiX1_wouldGrind_Math : (.initialized "java/lang/Math" : Cond) ∈ wsX1_wouldGrind := by decide +kernel
theorem kcX1_wouldGrind_min : (.code Lib.Math.min.name Lib.Math.min.code 2 (some .int) : Cond) ∈ wsX1_wouldGrind := by decide +kernel
abbrev rmX1_wouldGrind : Room := { frames := 3, cells := 0, slots := 0, locals := 66 }
set_option maxHeartbeats 4000000 in
set_option maxRecDepth 100000 in
theorem c_X1_wouldGrind (l : Launch) (G : GG) (B : Nat) (tt : Nat → Nat) (hW : WOK (wX G B tt)) (x : Mem) {q : Nat} (hq : q < 4) {ro : Nat} (hro : ro < 8) (nh : Int32) {s : Nat} {n : Nat} {nw : Nat → Int32} {h : Int32} {w : Int32} (hRq : RQ n x q nw) (hSV : SV n nw x q h) (hBL : BL nw x q w) : Met l yX1_wouldGrind wsX1_wouldGrind rmX1_wouldGrind (XP G (wX G B tt) [.ref (B + (65 + 13 * q)), .ref (B + (29 + 2 * ro + 1)), .int (nh), .int (nI s)] x) (va_Qi (fun r u => r = bI (allN (fun m => decide (jmin (nh * sFree nw n m q w s h) (sF nw m 3) = x (29 + 2 * ro + 1) m)) n) ∧ u = x) (XB G (wX G B tt)) (blkA B (B + 117))) 0 0 (blkA B (B + 117)) := by
  refine Met.ofW (cc := cX1_wouldGrind) (maxL := 6) (ret := (some .boolean)) (by decide) rfl ?_
  intro pp ee ss mm aa bb mt cd s1 Bd hml hv
  obtain ⟨hae, hX, hK, hE⟩ := hv
  have hx := Bd.exec
  have hb := Bd.bytes
  have hr := Bd.returns
  have hts := atoms_spec (ws := wsX1_wouldGrind) Bd.pre
  have hown : ss.vm.findClass RX1 = some mm.cls := findClass_of_methodNamed Bd.named
  have hlocks := Bd.notSynchronized
  have hS : va_S (blkA B (B + 117)) ss.heap ss.heap [] := va_S.rf
  have hl := lv_entry ([.ref (B + (65 + 13 * q)), .ref (B + (29 + 2 * ro + 1)), .int (nh), .int (nI s)]) (n := 6) (Nat.le_of_ble_eq_true rfl)
  subst hae
  rw [lg_entry_eq]
  generalize (lg_sl ([.ref (B + (65 + 13 * q)), .ref (B + (29 + 2 * ro + 1)), .int (nh), .int (nI s)]) ++ List.replicate (6 - (lg_sl ([.ref (B + (65 + 13 * q)), .ref (B + (29 + 2 * ro + 1)), .int (nh), .int (nI s)])).length) Slot.unset).toArray = ls at hl ⊢
  have hl : lv_has ls 6 [(0, .ref (B + (65 + 13 * q))), (1, .ref (B + (29 + 2 * ro + 1))), (2, .int (nh)), (3, .int (nI s))] := hl
  generalize ([.ref (B + (65 + 13 * q)), .ref (B + (29 + 2 * ro + 1)), .int (nh), .int (nI s)] : List Value).toArray = aa at hts ⊢
  show W pp l ee rmX1_wouldGrind ss mm aa bb mt cd ss.heap [] 0 0 _ (F0 mm 0 ls [])
  generalize hQ : MQ bb (va_Qi (fun r u => r = bI (allN (fun m => decide (jmin (nh * sFree nw n m q w s h) (sF nw m 3) = x (29 + 2 * ro + 1) m)) n) ∧ u = x) (XB G (wX G B tt)) (blkA B (B + 117))) aa ss 0 0 (blkA B (B + 117)) = Q
  have hn8 := hRq.1
  refine lv_iconst (v := 0) hx hb dX1_wouldGrind_0 (by decide) ?_
  refine lv_istore (lv' := [(4, .int (0)), (0, .ref (B + (65 + 13 * q))), (1, .ref (B + (29 + 2 * ro + 1))), (2, .int (nh)), (3, .int (nI s))]) hx hb dX1_wouldGrind_1 hl (by decide) rfl (fun ls hl => ?_)
  have L_1 : ∀ (n9 : Nat) (i : Nat)  (_ : n9 = n - i) (_ : i ≤ n ∧ ∀ j, j < i → jmin (nh * sFree nw n j q w s h) (sF nw j 3) = x (29 + 2 * ro + 1) j) (H_2 : Heap) (lo_3 : List Loc) (_ : MR G (wX G B tt) x H_2) (_ : va_S (blkA B (B + 117)) ss.heap H_2 lo_3) (ls : Array Slot) (_ : lv_has ls 6 [(4, .int (nI i)), (0, .ref (B + (65 + 13 * q))), (1, .ref (B + (29 + 2 * ro + 1))), (2, .int (nh)), (3, .int (nI s))]), W pp l ee rmX1_wouldGrind ss mm aa bb mt cd H_2 lo_3 0 0 Q (F0 mm 3 ls []) := by
    intro n9
    induction n9 using Nat.strongRecOn with
    | _ n9 ih => 
      have ih_3 := ih
      intro i hn9 hI H_2 lo_3 hX hS ls hl
      obtain ⟨hi, hp⟩ := hI
      refine lv_iload hx hb dX1_wouldGrind_3 (lv_at hl 0 rfl) ?_
      refine lv_aload_n hx hb dX1_wouldGrind_5 rfl (lv_at hl 1 rfl) ?_
      refine x_get (w := (wX G B tt)) (a := 65 + 13 * q) (v := .ref (B + (65 + 13 * q + 3))) hx hb hts iX1_wouldGrind_X1 hown hK hX (qu_lt hq) (shX_qu (G := G) (B := B) hq) rfl 2 (by decide) (hts _ kX1_wouldGrind_21) (fun _ h9 => h9) rfl dX1_wouldGrind_6 ?_
      refine x_get (w := (wX G B tt)) (a := 65 + 13 * q + 3) (v := .int (x (65 + 13 * q + 3) 1)) hx hb hts iX1_wouldGrind_X3 hown hK hX (rg_lt (rgQ hq)) (shX_ri (G := G) (B := B) (rgQ hq)) rfl 1 (by decide) (hts _ kX1_wouldGrind_58) (fun _ h9 => h9) rfl dX1_wouldGrind_9 ?_
      refine lv_icmp_ge (tgt := 66) hx hb dX1_wouldGrind_12 (by decide) (fun c_4 => ?_) (fun c_4 => ?_)
      · have nc_4 := (n_le (a := n) (b := i) hRq.cnt rfl (by omega) (by omega)).mp c_4
        refine lv_iconst (v := 1) hx hb dX1_wouldGrind_66 (by decide) ?_
        rw [← hQ]
        refine x_zret (v := 1) (ty := .boolean) hx hb hr rfl hX hS hlocks dX1_wouldGrind_67 ?_
        refine ⟨?_, rfl⟩
        rw [allN_true n (fun j hj => decide_eq_true (hp j (by omega)))]
        rfl
      · have nc_4 := Nat.not_le.mp (fun q => c_4 ((n_le (a := n) (b := i) hRq.cnt rfl (by omega) (by omega)).mpr q))
        refine lv_iload hx hb dX1_wouldGrind_15 (lv_at hl 0 rfl) ?_
        refine lv_aload_n hx hb dX1_wouldGrind_17 rfl (lv_at hl 2 rfl) ?_
        refine x_alen (w := (wX G B tt)) (a := 29 + 2 * ro + 1) (t0 := 0) (v := nI 40) hx hb hK hX (it_lt hro) (shX_it (G := G) (B := B) (f := x (29 + 2 * ro + 1)) hro) rfl rfl dX1_wouldGrind_18 ?_
        refine lv_icmp_ge (tgt := 66) hx hb dX1_wouldGrind_19 (by decide) (fun c_5 => ?_) (fun c_5 => ?_)
        · have nc_5 := (n_le (a := 40) (b := i) rfl rfl (by omega) (by omega)).mp c_5
          refine lv_iconst (v := 1) hx hb dX1_wouldGrind_66 (by decide) ?_
          rw [← hQ]
          refine x_zret (v := 1) (ty := .boolean) hx hb hr rfl hX hS hlocks dX1_wouldGrind_67 ?_
          refine ⟨?_, rfl⟩
          rw [allN_true n (fun j hj => decide_eq_true (hp j (by omega)))]
          rfl
        · have nc_5 := Nat.not_le.mp (fun q => c_5 ((n_le (a := 40) (b := i) rfl rfl (by omega) (by omega)).mpr q))
          refine lv_iload_n hx hb dX1_wouldGrind_22 rfl (lv_at hl 3 rfl) ?_
          refine lv_aload_n hx hb dX1_wouldGrind_23 rfl (lv_at hl 1 rfl) ?_
          refine lv_iload hx hb dX1_wouldGrind_24 (lv_at hl 0 rfl) ?_
          refine lv_iload_n hx hb dX1_wouldGrind_26 rfl (lv_at hl 4 rfl) ?_
          refine x_ip (w := (wX G B tt)) (x := x) (v := sFree nw n i q w s h) (va_runV (As := [.int (nI i), .int (nI s)]) (rest := [.int (nh)]) ⟨hx, hb, hml, hown, hts⟩ (c_X1_strengthOf (l := l) (G := G) (B := B) (tt := tt) (hW := hW) (x := x) (q := q) (hq := hq) (m := i) (s := s) (n := n) (nw := nw) (h := h) (w := w) (hRq := hRq) (hSV := hSV) (hBL := hBL) (hm := (by omega))) (cwV 2 hts gX1_wouldGrind_X1_strengthOf rfl rfl rfl (by decide +kernel) ⟨Nat.le_of_ble_eq_true rfl, Nat.le_of_ble_eq_true rfl⟩) (x_pv (w := (wX G B tt)) (a := 65 + 13 * q) hW hX hK hE hS [.int (nI i), .int (nI s)] (qu_lt hq) (shX_qu (G := G) (B := B) hq) rfl) rfl rfl hl.1 rfl (lv_room (Nat.le_of_ble_eq_true rfl)) dX1_wouldGrind_27 ⟨Nat.zero_le _, Nat.zero_le _⟩) hS (fun H_6 lo_7 hX hS => ?_)
          refine lv_imul hx hb dX1_wouldGrind_30 ?_
          refine lv_aload_n hx hb dX1_wouldGrind_31 rfl (lv_at hl 1 rfl) ?_
          refine x_get (w := (wX G B tt)) (a := 65 + 13 * q) (v := .ref (B + (65 + 13 * q + 3))) hx hb hts iX1_wouldGrind_X1 hown hK hX (qu_lt hq) (shX_qu (G := G) (B := B) hq) rfl 2 (by decide) (hts _ kX1_wouldGrind_21) (fun _ h9 => h9) rfl dX1_wouldGrind_32 ?_
          refine x_get (w := (wX G B tt)) (a := 65 + 13 * q + 3) (v := .ref (B + ((65 + 13 * q + 3) + 1))) hx hb hts iX1_wouldGrind_X3 hown hK hX (rg_lt (rgQ hq)) (shX_ri (G := G) (B := B) (rgQ hq)) rfl 0 (by decide) (hts _ kX1_wouldGrind_37) (fun _ h9 => h9) rfl dX1_wouldGrind_35 ?_
          refine lv_iload hx hb dX1_wouldGrind_38 (lv_at hl 0 rfl) ?_
          refine x_aald (w := (wX G B tt)) (a := (65 + 13 * q + 3) + 1) (n := 8) (j := i) (q := B + ((65 + 13 * q + 3) + 1 + 1 + i)) (t0 := 2) hx hb hK hX (rg_lt1 (rgQ hq)) (shX_ma (G := G) (B := B) (f := x ((65 + 13 * q + 3) + 1)) (rgQ hq)) rfl rfl (by omega) (by decide) rfl dX1_wouldGrind_40 ?_
          refine x_get (w := (wX G B tt)) (a := (65 + 13 * q + 3) + 1 + 1 + i) (v := .int (x ((65 + 13 * q + 3) + 1 + 1 + i) 7)) hx hb hts iX1_wouldGrind_X0 hown hK hX (rg_ltm (rgQ hq) (by omega)) (shX_mi (G := G) (B := B) (rgQ hq) (by omega)) rfl 7 (by decide) (hts _ kX1_wouldGrind_107) (fun _ h9 => h9) rfl dX1_wouldGrind_41 ?_
          refine x_mmin hx hb (by rw [hml]; exact hl.1.symm) hown (hts _ kX1_wouldGrind_46) (hts _ ksX1_wouldGrind_min) (hts _ kiX1_wouldGrind_Math) (hts _ kcX1_wouldGrind_min) ⟨Nat.le_of_ble_eq_true rfl, Nat.le_of_ble_eq_true rfl, Nat.zero_le _, Nat.zero_le _⟩ dX1_wouldGrind_44 ?_
          refine lv_istore (lv' := [(5, .int (jmin (nh * (sFree nw n i q w s h)) (x ((65 + 13 * q + 3) + 1 + 1 + i) 7))), (4, .int (nI i)), (0, .ref (B + (65 + 13 * q))), (1, .ref (B + (29 + 2 * ro + 1))), (2, .int (nh)), (3, .int (nI s))]) hx hb dX1_wouldGrind_47 hl (by decide) rfl (fun ls hl => ?_)
          refine lv_iload hx hb dX1_wouldGrind_49 (lv_at hl 0 rfl) ?_
          refine lv_aload_n hx hb dX1_wouldGrind_51 rfl (lv_at hl 3 rfl) ?_
          refine lv_iload hx hb dX1_wouldGrind_52 (lv_at hl 1 rfl) ?_
          refine x_iald (w := (wX G B tt)) (a := 29 + 2 * ro + 1) (n := 40) (j := i) hx hb hK hX (it_lt hro) (shX_it (G := G) (B := B) (f := x (29 + 2 * ro + 1)) hro) rfl (by omega) (by decide) dX1_wouldGrind_54 ?_
          refine lv_icmp_eq (tgt := 60) hx hb dX1_wouldGrind_55 (by decide) (fun c_8 => ?_) (fun c_8 => ?_)
          · refine lv_iinc (v := nI (i + 1)) (lv' := [(4, .int (nI (i + 1))), (5, .int (jmin (nh * (sFree nw n i q w s h)) (x ((65 + 13 * q + 3) + 1 + 1 + i) 7))), (0, .ref (B + (65 + 13 * q))), (1, .ref (B + (29 + 2 * ro + 1))), (2, .int (nh)), (3, .int (nI s))]) hx hb dX1_wouldGrind_60 hl (k := 1) rfl (inc_nI _) (by decide) rfl (fun ls hl => ?_)
            refine lv_goto (tgt := 3) hx hb dX1_wouldGrind_63 (by decide) ?_
            exact ih_3 _ (by omega) (i + 1) rfl ⟨by omega, fun j hj => by
          by_cases hj2 : j = i
          · subst hj2; rw [← hRq.co (by omega)]; exact c_8
          · exact hp j (by omega)⟩ _ _ hX hS ls (lv_sub hl [0, 2, 3, 4, 5] rfl)
          · refine lv_iconst (v := 0) hx hb dX1_wouldGrind_58 (by decide) ?_
            rw [← hQ]
            refine x_zret (v := 0) (ty := .boolean) hx hb hr rfl hX hS hlocks dX1_wouldGrind_59 ?_
            refine ⟨?_, rfl⟩
            rw [allN_false (i := i) (by rw [← hRq.co (by omega)]; exact decide_eq_false c_8) n (by omega)]
            rfl
  exact L_1 _ (0) rfl ⟨Nat.zero_le _, fun j hj => absurd hj (Nat.not_lt_zero j)⟩ _ _ hX hS ls (lv_sub hl [0, 1, 2, 3, 4] rfl)
