theorem kX2_read_18 : (.fieldLink RX2 18 "WindTaken$Reader" "end" "I" : Cond) ∈ wsX2_read := by decide +kernel
theorem iX2_read_X2 : ∀ w ∈ wsX20, w ∈ wsX2_read := by decide +kernel
theorem kX2_read_22 : (.fieldLink RX2 22 "WindTaken$Reader" "fault" "I" : Cond) ∈ wsX2_read := by decide +kernel
theorem kX2_read_25 : (.fieldLink RX2 25 "WindTaken$Ridge" "count" "I" : Cond) ∈ wsX2_read := by decide +kernel
theorem iX2_read_X3 : ∀ w ∈ wsX30, w ∈ wsX2_read := by decide +kernel
theorem kX2_read_30 : (.fieldLink RX2 30 "WindTaken$Ridge" "gone" "I" : Cond) ∈ wsX2_read := by decide +kernel
theorem kX2_read_43 : (.fieldLink RX2 43 "WindTaken$Reader" "token" "I" : Cond) ∈ wsX2_read := by decide +kernel
abbrev rmX2_read : Room := { frames := 8, cells := 0, slots := 0, locals := 175 }
set_option maxHeartbeats 4000000 in
set_option maxRecDepth 100000 in
theorem c_X2_read (l : Launch) (G : GG) (B : Nat) (tt : Nat → Nat) (hW : WOK (wX G B tt)) (x : Mem) {t : Nat} (ht9 : x 3 1 = nI t) (ht400 : t ≤ 400) : Met l yX2_read wsX2_read rmX2_read (XP G (wX G B tt) [.ref (B + (2)), .ref (B + (15))] x) (va_Qi (fun r u => r = (rdF (x 4) t).1.2 ∧ RD (x 4) t (rdF (x 4) t).1.1 (rdF (x 4) t).1.2 u ∧ (∀ a, a ≠ 2 → ¬ (15 ≤ a ∧ a < 25) → u a = x a) ∧ ((rdF (x 4) t).1.2 = 0 → (rdF (x 4) t).2.1 ≤ 8 ∧ RR (rdF (x 4) t).2.1 u 15 (rdF (x 4) t).2.2)) (XB G (wX G B tt)) (blkA B (B + 117))) 0 0 (blkA B (B + 117)) := by
  refine Met.ofW (cc := cX2_read) (maxL := 3) (ret := (some .int)) (by decide) rfl ?_
  intro pp ee ss mm aa bb mt cd s1 Bd hml hv
  obtain ⟨hae, hX, hK, hE⟩ := hv
  have hx := Bd.exec
  have hb := Bd.bytes
  have hr := Bd.returns
  have hts := atoms_spec (ws := wsX2_read) Bd.pre
  have hown : ss.vm.findClass RX2 = some mm.cls := findClass_of_methodNamed Bd.named
  have hlocks := Bd.notSynchronized
  have hS : va_S (blkA B (B + 117)) ss.heap ss.heap [] := va_S.rf
  have hl := lv_entry ([.ref (B + (2)), .ref (B + (15))]) (n := 3) (Nat.le_of_ble_eq_true rfl)
  subst hae
  rw [lg_entry_eq]
  generalize (lg_sl ([.ref (B + (2)), .ref (B + (15))]) ++ List.replicate (3 - (lg_sl ([.ref (B + (2)), .ref (B + (15))])).length) Slot.unset).toArray = ls at hl ⊢
  have hl : lv_has ls 3 [(0, .ref (B + (2))), (1, .ref (B + (15)))] := hl
  generalize ([.ref (B + (2)), .ref (B + (15))] : List Value).toArray = aa at hts ⊢
  show W pp l ee rmX2_read ss mm aa bb mt cd ss.heap [] 0 0 _ (F0 mm 0 ls [])
  generalize hQ : MQ bb (va_Qi (fun r u => r = (rdF (x 4) t).1.2 ∧ RD (x 4) t (rdF (x 4) t).1.1 (rdF (x 4) t).1.2 u ∧ (∀ a, a ≠ 2 → ¬ (15 ≤ a ∧ a < 25) → u a = x a) ∧ ((rdF (x 4) t).1.2 = 0 → (rdF (x 4) t).2.1 ≤ 8 ∧ RR (rdF (x 4) t).2.1 u 15 (rdF (x 4) t).2.2)) (XB G (wX G B tt)) (blkA B (B + 117))) aa ss 0 0 (blkA B (B + 117)) = Q
  refine lv_aload_n hx hb dX2_read_0 rfl (lv_at hl 0 rfl) ?_
  refine lv_iconst (v := 0) hx hb dX2_read_1 (by decide) ?_
  refine x_put (w := (wX G B tt)) (a := 2) (v := 0) (ty := .int) hx hb hts iX2_read_X2 tyX2 tyX2_ok nmX2 hown hK hW hX hS (Nat.le_of_ble_eq_true rfl) (shX_rd (G := G) (B := B)) rfl 3 (by decide) (hts _ kX2_read_18) (fun _ h9 => h9) rfl (by decide +kernel) rfl rfl (Nat.le_of_ble_eq_true rfl) (shX_rd (G := G) (B := B)) dX2_read_2 (fun H_2 lo_3 hX hS => ?_)
  obtain ⟨x_1, ex_1⟩ : ∃ z, z = mst x (2) 3 (0) := ⟨_, rfl⟩
  rw [← ex_1] at hX
  have z_4 : x_1 (2) 3 = nI (0) := by rw [ex_1, mst_self]; first | done | exact rfl
  refine lv_aload_n hx hb dX2_read_5 rfl (lv_at hl 0 rfl) ?_
  refine lv_iconst (v := 0) hx hb dX2_read_6 (by decide) ?_
  refine x_put (w := (wX G B tt)) (a := 2) (v := 0) (ty := .int) hx hb hts iX2_read_X2 tyX2 tyX2_ok nmX2 hown hK hW hX hS (Nat.le_of_ble_eq_true rfl) (shX_rd (G := G) (B := B)) rfl 5 (by decide) (hts _ kX2_read_22) (fun _ h9 => h9) rfl (by decide +kernel) rfl rfl (Nat.le_of_ble_eq_true rfl) (shX_rd (G := G) (B := B)) dX2_read_7 (fun H_6 lo_7 hX hS => ?_)
  obtain ⟨x_5, ex_5⟩ : ∃ z, z = mst x_1 (2) 5 (0) := ⟨_, rfl⟩
  rw [← ex_5] at hX
  have z_8 : x_5 (2) 3 = nI (0) := by rw [ex_5, mst_eq, upd_ne (by first | decide | omega)]; exact z_4
  have z_9 : x_5 (2) 5 = nI (0) := by rw [ex_5, mst_self]; first | done | exact rfl
  refine lv_aload_n hx hb dX2_read_10 rfl (lv_at hl 1 rfl) ?_
  refine lv_iconst (v := 0) hx hb dX2_read_11 (by decide) ?_
  refine x_put (w := (wX G B tt)) (a := 15) (v := 0) (ty := .int) hx hb hts iX2_read_X3 tyX3 tyX3_ok nmX3 hown hK hW hX hS (rg_lt rg15) (shX_ri (G := G) (B := B) rg15) rfl 1 (by decide) (hts _ kX2_read_25) (fun _ h9 => h9) rfl (by decide +kernel) rfl rfl (Nat.le_of_ble_eq_true rfl) (shX_ri (G := G) (B := B) rg15) dX2_read_12 (fun H_11 lo_12 hX hS => ?_)
  obtain ⟨x_10, ex_10⟩ : ∃ z, z = mst x_5 (15) 1 (0) := ⟨_, rfl⟩
  rw [← ex_10] at hX
  have z_13 : x_10 (2) 3 = nI (0) := by rw [ex_10, mst_ne (by first | decide | omega)]; exact z_8
  have z_14 : x_10 (2) 5 = nI (0) := by rw [ex_10, mst_ne (by first | decide | omega)]; exact z_9
  have z_15 : x_10 (15) 1 = nI (0) := by rw [ex_10, mst_self]; first | done | exact rfl
  refine lv_aload_n hx hb dX2_read_15 rfl (lv_at hl 1 rfl) ?_
  refine lv_iconst (v := 0) hx hb dX2_read_16 (by decide) ?_
  refine x_put (w := (wX G B tt)) (a := 15) (v := 0) (ty := .int) hx hb hts iX2_read_X3 tyX3 tyX3_ok nmX3 hown hK hW hX hS (rg_lt rg15) (shX_ri (G := G) (B := B) rg15) rfl 2 (by decide) (hts _ kX2_read_30) (fun _ h9 => h9) rfl (by decide +kernel) rfl rfl (Nat.le_of_ble_eq_true rfl) (shX_ri (G := G) (B := B) rg15) dX2_read_17 (fun H_17 lo_18 hX hS => ?_)
  obtain ⟨x_16, ex_16⟩ : ∃ z, z = mst x_10 (15) 2 (0) := ⟨_, rfl⟩
  rw [← ex_16] at hX
  have z_19 : x_16 (2) 3 = nI (0) := by rw [ex_16, mst_ne (by first | decide | omega)]; exact z_13
  have z_20 : x_16 (2) 5 = nI (0) := by rw [ex_16, mst_ne (by first | decide | omega)]; exact z_14
  have z_21 : x_16 (15) 1 = nI (0) := by rw [ex_16, mst_eq, upd_ne (by first | decide | omega)]; exact z_15
  have z_22 : x_16 (15) 2 = nI (0) := by rw [ex_16, mst_self]; first | done | exact rfl
  have hA3 : x_16 4 = x 4 := by rw [ex_16, mst_ne (by decide), ex_10, mst_ne (by decide), ex_5, mst_ne (by decide), ex_1, mst_ne (by decide)]
  have hA2 : x_16 3 1 = nI t := by rw [ex_16, mst_ne (by decide), ex_10, mst_ne (by decide), ex_5, mst_ne (by decide), ex_1, mst_ne (by decide)]; exact ht9
  have hA4 : x_16 2 3 = nI 0 := by rw [ex_16, mst_ne (by decide), ex_10, mst_ne (by decide), ex_5, mst_eq, upd_ne (by decide), ex_1, mst_self]; rfl
  have hA5 : x_16 2 5 = 0 := by rw [ex_16, mst_ne (by decide), ex_10, mst_ne (by decide), ex_5, mst_self]
  have hA15 : x_16 15 1 = nI 0 := by rw [ex_16, mst_eq, upd_ne (by decide), ex_10, mst_self]; rfl
  have hA16 : x_16 15 2 = 0 := by rw [ex_16, mst_self]
  have hAo : ∀ a, a ≠ 2 → a ≠ 15 → x_16 a = x a := fun a a1 a2 => by rw [ex_16, mst_ne a2, ex_10, mst_ne a2, ex_5, mst_ne a1, ex_1, mst_ne a1]
  refine lv_aload_n hx hb dX2_read_20 rfl (lv_at hl 0 rfl) ?_
  refine x_vf (w := (wX G B tt)) (va_runV (As := []) (rest := []) ⟨hx, hb, hml, hown, hts⟩ (c_X2_step (l := l) (G := G) (B := B) (tt := tt) (hW := hW) (x := x_16) (t := t) (p := 0) (ht9 := hA2) (ht400 := ht400) (hp := hA4) (hpt := (by omega))) (cwV 0 hts gX2_read_X2_step rfl rfl rfl (by decide +kernel) ⟨Nat.le_of_ble_eq_true rfl, Nat.le_of_ble_eq_true rfl⟩) (x_pv (w := (wX G B tt)) (a := 2) hW hX hK hE hS [] (Nat.le_of_ble_eq_true rfl) (shX_rd (G := G) (B := B)) rfl) rfl rfl hl.1 rfl (lv_room (Nat.le_of_ble_eq_true rfl)) dX2_read_21 ⟨Nat.zero_le _, Nat.zero_le _⟩) hS (fun x_25 H_23 lo_24 h_21 hX hS => ?_)
  try dsimp only at h_21
  have hD0 : RD (x 4) t 0 0 x_25 := ⟨by rw [h_21.1 3 (by decide)]; exact hA2, by rw [h_21.1 4 (by decide)]; exact hA3, by have z := h_21.2.1; rw [hA3] at z; exact z, by rw [h_21.2.2.1]; exact hA5, fun z => absurd rfl z⟩
  refine lv_aload_n hx hb dX2_read_24 rfl (lv_at hl 0 rfl) ?_
  refine lv_aload_n hx hb dX2_read_25 rfl (lv_at hl 1 rfl) ?_
  refine x_vf (w := (wX G B tt)) (va_runV (As := [.ref (B + (15))]) (rest := []) ⟨hx, hb, hml, hown, hts⟩ (c_X2_readLaw (l := l) (G := G) (B := B) (tt := tt) (hW := hW) (x := x_25) (f := (x 4)) (t := t) (p := 0) (w := 0) (hRD := hD0) (ht400 := ht400) (hpt := (Nat.zero_le t))) (cwV 1 hts gX2_read_X2_readLaw rfl rfl rfl (by decide +kernel) ⟨Nat.le_of_ble_eq_true rfl, Nat.le_of_ble_eq_true rfl⟩) (x_pv (w := (wX G B tt)) (a := 2) hW hX hK hE hS [.ref (B + (15))] (Nat.le_of_ble_eq_true rfl) (shX_rd (G := G) (B := B)) rfl) rfl rfl hl.1 rfl (lv_room (Nat.le_of_ble_eq_true rfl)) dX2_read_26 ⟨Nat.zero_le _, Nat.zero_le _⟩) hS (fun x_28 H_26 lo_27 h_26 hX hS => ?_)
  try dsimp only at h_26
  have hDl : RD (x 4) t (lw5 (x 4) t (0, 0)).1 (lw5 (x 4) t (0, 0)).2 x_28 := h_26.1
  have hpl : (lw5 (x 4) t (0, 0)).1 ≤ t := lw5_le (s := (0, 0)) (Nat.zero_le t)
  have hc0 : x_28 15 1 = nI 0 := by rw [h_26.2.2.1 1 (by decide) (by decide) (by decide), h_21.1 15 (by decide)]; exact hA15
  have hR0 : (lw5 (x 4) t (0, 0)).2 = 0 → RR 0 x_28 15 (lawR (x 4) t (0, 0)) := fun z => ⟨by decide, hc0, rfl, by rw [h_26.2.2.1 2 (by decide) (by decide) (by decide), h_21.1 15 (by decide)]; exact hA16, (h_26.2.2.2 z).1, (h_26.2.2.2 z).2.1, (h_26.2.2.2 z).2.2, fun j hj => absurd hj (Nat.not_lt_zero j)⟩
  refine lv_aload_n hx hb dX2_read_29 rfl (lv_at hl 0 rfl) ?_
  refine lv_aload_n hx hb dX2_read_30 rfl (lv_at hl 1 rfl) ?_
  refine x_vf (w := (wX G B tt)) (va_runV (As := [.ref (B + (15))]) (rest := []) ⟨hx, hb, hml, hown, hts⟩ (c_X2_readMill (l := l) (G := G) (B := B) (tt := tt) (hW := hW) (x := x_28) (f := (x 4)) (t := t) (p := (lw5 (x 4) t (0, 0)).1) (w := (lw5 (x 4) t (0, 0)).2) (c := 0) (d := (lawR (x 4) t (0, 0))) (hRD := hDl) (ht400 := ht400) (hpt := hpl) (hc := hc0) (hc8 := (by omega)) (hRR := hR0)) (cwV 1 hts gX2_read_X2_readMill rfl rfl rfl (by decide +kernel) ⟨Nat.le_of_ble_eq_true rfl, Nat.le_of_ble_eq_true rfl⟩) (x_pv (w := (wX G B tt)) (a := 2) hW hX hK hE hS [.ref (B + (15))] (Nat.le_of_ble_eq_true rfl) (shX_rd (G := G) (B := B)) rfl) rfl rfl hl.1 rfl (lv_room (Nat.le_of_ble_eq_true rfl)) dX2_read_31 ⟨Nat.zero_le _, Nat.zero_le _⟩) hS (fun x_31 H_29 lo_30 h_31 hX hS => ?_)
  try dsimp only at h_31
  have ho31 : ∀ a, a ≠ 2 → ¬ (15 ≤ a ∧ a < 25) → x_31 a = x a := fun a a1 a2 => by rw [h_31.2.1 a a1 a2, h_26.2.1 a a1 (by omega), h_21.1 a a1, hAo a a1 (by omega)]
  refine lv_iconst (v := 0) hx hb dX2_read_34 (by decide) ?_
  refine lv_istore_n (lv' := [(2, .int (0)), (0, .ref (B + (2))), (1, .ref (B + (15)))]) hx hb dX2_read_35 rfl hl (by decide) rfl (fun ls hl => ?_)
  have L_32 : ∀ (n9 : Nat) (i : Nat) (g9 : RS) (u1 : Mem) (_ : n9 = 8 - i) (_ : i ≤ 8 ∧ RD (x 4) t g9.1.1 g9.1.2 u1 ∧ (∀ a, a ≠ 2 → ¬ (15 ≤ a ∧ a < 25) → u1 a = x a) ∧ (g9.1.2 = 0 → g9.2.1 ≤ 8 ∧ RR g9.2.1 u1 15 g9.2.2) ∧ g9.1.1 ≤ t ∧ mlRun (x 4) t (8 - i) g9 = rdF (x 4) t) (H_33 : Heap) (lo_34 : List Loc) (_ : MR G (wX G B tt) u1 H_33) (_ : va_S (blkA B (B + 117)) ss.heap H_33 lo_34) (ls : Array Slot) (_ : lv_has ls 3 [(2, .int (nI i)), (0, .ref (B + (2))), (1, .ref (B + (15)))]), W pp l ee rmX2_read ss mm aa bb mt cd H_33 lo_34 0 0 Q (F0 mm 36 ls []) := by
    intro n9
    induction n9 using Nat.strongRecOn with
    | _ n9 ih => 
      have ih_36 := ih
      intro i g9 u1 hn9 hI H_33 lo_34 hX hS ls hl
      obtain ⟨hi, hD, ho, hRR, hpt, hrun⟩ := hI
      refine lv_iload_n hx hb dX2_read_36 rfl (lv_at hl 0 rfl) ?_
      refine lv_bipush (v := 8) hx hb dX2_read_37 (by decide) ?_
      refine lv_icmp_ge (tgt := 67) hx hb dX2_read_39 (by decide) (fun c_35 => ?_) (fun c_35 => ?_)
      · have nc_35 := (n_le (a := 8) (b := i) rfl rfl (by omega) (by omega)).mp c_35
        refine lv_aload_n hx hb dX2_read_67 rfl (lv_at hl 1 rfl) ?_
        refine x_get (w := (wX G B tt)) (a := 2) (v := .int (u1 (2) 5)) hx hb hts iX2_read_X2 hown hK hX (Nat.le_of_ble_eq_true rfl) (shX_rd (G := G) (B := B)) rfl 5 (by decide) (hts _ kX2_read_22) (fun _ h9 => h9) rfl dX2_read_68 ?_
        rw [← hQ]
        refine x_iret (v := u1 (2) 5) hx hb hr hX hS hlocks dX2_read_71 ?_
        have e9 : rdF (x 4) t = g9 := by first | (rw [← hrun, show 8 - i = 0 by omega]; rfl) | exact hrun.symm.trans (mlRun_w (fun z => c_35 (hD.2.2.2.1.trans z)) _) | exact hrun.symm.trans (mlRun_e (hD.2.2.1.1.symm.trans c_35) _)
        rw [e9]
        exact ⟨hD.2.2.2.1, hD, ho, hRR⟩
      · have nc_35 := Nat.not_le.mp (fun q => c_35 ((n_le (a := 8) (b := i) rfl rfl (by omega) (by omega)).mpr q))
        refine lv_aload_n hx hb dX2_read_42 rfl (lv_at hl 1 rfl) ?_
        refine x_get (w := (wX G B tt)) (a := 2) (v := .int (u1 (2) 5)) hx hb hts iX2_read_X2 hown hK hX (Nat.le_of_ble_eq_true rfl) (shX_rd (G := G) (B := B)) rfl 5 (by decide) (hts _ kX2_read_22) (fun _ h9 => h9) rfl dX2_read_43 ?_
        refine lv_if_ne (tgt := 67) hx hb dX2_read_46 (by decide) (fun c_36 => ?_) (fun c_36 => ?_)
        · refine lv_aload_n hx hb dX2_read_67 rfl (lv_at hl 1 rfl) ?_
          refine x_get (w := (wX G B tt)) (a := 2) (v := .int (u1 (2) 5)) hx hb hts iX2_read_X2 hown hK hX (Nat.le_of_ble_eq_true rfl) (shX_rd (G := G) (B := B)) rfl 5 (by decide) (hts _ kX2_read_22) (fun _ h9 => h9) rfl dX2_read_68 ?_
          rw [← hQ]
          refine x_iret (v := u1 (2) 5) hx hb hr hX hS hlocks dX2_read_71 ?_
          have e9 : rdF (x 4) t = g9 := by first | (rw [← hrun, show 8 - i = 0 by omega]; rfl) | exact hrun.symm.trans (mlRun_w (fun z => c_36 (hD.2.2.2.1.trans z)) _) | exact hrun.symm.trans (mlRun_e (hD.2.2.1.1.symm.trans c_36) _)
          rw [e9]
          exact ⟨hD.2.2.2.1, hD, ho, hRR⟩
        · have hw0 : g9.1.2 = 0 := hD.2.2.2.1.symm.trans c_36
          refine lv_aload_n hx hb dX2_read_49 rfl (lv_at hl 1 rfl) ?_
          refine x_get (w := (wX G B tt)) (a := 2) (v := .int (u1 (2) 1)) hx hb hts iX2_read_X2 hown hK hX (Nat.le_of_ble_eq_true rfl) (shX_rd (G := G) (B := B)) rfl 1 (by decide) (hts _ kX2_read_43) (fun _ h9 => h9) rfl dX2_read_50 ?_
          refine lv_if_eq (tgt := 67) hx hb dX2_read_53 (by decide) (fun c_37 => ?_) (fun c_37 => ?_)
          · refine lv_aload_n hx hb dX2_read_67 rfl (lv_at hl 1 rfl) ?_
            refine x_get (w := (wX G B tt)) (a := 2) (v := .int (u1 (2) 5)) hx hb hts iX2_read_X2 hown hK hX (Nat.le_of_ble_eq_true rfl) (shX_rd (G := G) (B := B)) rfl 5 (by decide) (hts _ kX2_read_22) (fun _ h9 => h9) rfl dX2_read_68 ?_
            rw [← hQ]
            refine x_iret (v := u1 (2) 5) hx hb hr hX hS hlocks dX2_read_71 ?_
            have e9 : rdF (x 4) t = g9 := by first | (rw [← hrun, show 8 - i = 0 by omega]; rfl) | exact hrun.symm.trans (mlRun_w (fun z => c_37 (hD.2.2.2.1.trans z)) _) | exact hrun.symm.trans (mlRun_e (hD.2.2.1.1.symm.trans c_37) _)
            rw [e9]
            exact ⟨hD.2.2.2.1, hD, ho, hRR⟩
          · have htk0 : tkI (x 4) t g9.1.1 ≠ 0 := fun z => c_37 (hD.2.2.1.1.trans z)
            refine lv_aload_n hx hb dX2_read_56 rfl (lv_at hl 1 rfl) ?_
            refine lv_aload_n hx hb dX2_read_57 rfl (lv_at hl 2 rfl) ?_
            refine x_vf (w := (wX G B tt)) (va_runV (As := [.ref (B + (15))]) (rest := []) ⟨hx, hb, hml, hown, hts⟩ (c_X2_readMill (l := l) (G := G) (B := B) (tt := tt) (hW := hW) (x := u1) (f := (x 4)) (t := t) (p := g9.1.1) (w := g9.1.2) (c := g9.2.1) (d := g9.2.2) (hRD := hD) (ht400 := ht400) (hpt := hpt) (hc := (hRR hw0).2.cnt) (hc8 := (hRR hw0).1) (hRR := (fun z => (hRR z).2))) (cwV 1 hts gX2_read_X2_readMill rfl rfl rfl (by decide +kernel) ⟨Nat.le_of_ble_eq_true rfl, Nat.le_of_ble_eq_true rfl⟩) (x_pv (w := (wX G B tt)) (a := 2) hW hX hK hE hS [.ref (B + (15))] (Nat.le_of_ble_eq_true rfl) (shX_rd (G := G) (B := B)) rfl) rfl rfl hl.1 rfl (lv_room (Nat.le_of_ble_eq_true rfl)) dX2_read_58 ⟨Nat.zero_le _, Nat.zero_le _⟩) hS (fun x_40 H_38 lo_39 h_58 hX hS => ?_)
            try dsimp only at h_58
            refine lv_iinc (v := nI (i + 1)) (lv' := [(2, .int (nI (i + 1))), (0, .ref (B + (2))), (1, .ref (B + (15)))]) hx hb dX2_read_61 hl (k := 0) rfl (inc_nI _) (by decide) rfl (fun ls hl => ?_)
            refine lv_goto (tgt := 36) hx hb dX2_read_64 (by decide) ?_
            exact ih_36 _ (by omega) (i + 1) (mlNx (x 4) t g9) (x_40) rfl ⟨by omega, h_58.1, fun a a1 a2 => (h_58.2.1 a a1 a2).trans (ho a a1 a2), fun z => ⟨(h_58.2.2.2 z).1, (h_58.2.2.2 z).2⟩, mlNx_le hpt, by rw [← hrun, show 8 - i = (8 - (i + 1)) + 1 by omega, mlRun_go hw0 htk0]⟩ _ _ hX hS ls (lv_sub hl [0, 1, 2] rfl)
  exact L_32 _ (0) (mlNx (x 4) t (rd0 (x 4) t)) (x_31) rfl ⟨Nat.zero_le _, h_31.1, ho31, fun z => ⟨(h_31.2.2.2 z).1, (h_31.2.2.2 z).2⟩, mlNx_le (g := rd0 (x 4) t) hpl, rfl⟩ _ _ hX hS ls (lv_sub hl [0, 1, 2] rfl)
