theorem kX7_ridge_18 : (.fieldLink RX7 18 "WindTaken" "reader" "LWindTaken$Reader;" : Cond) ∈ wsX7_ridge := by decide +kernel
theorem iX7_ridge_X7 : ∀ w ∈ wsX70, w ∈ wsX7_ridge := by decide +kernel
theorem kX7_ridge_29 : (.fieldLink RX7 29 "WindTaken" "draft" "LWindTaken$Ridge;" : Cond) ∈ wsX7_ridge := by decide +kernel
theorem kX7_ridge_100 : (.fieldLink RX7 100 "WindTaken$Reader" "tape" "LWindTaken$Tape;" : Cond) ∈ wsX7_ridge := by decide +kernel
theorem iX7_ridge_X2 : ∀ w ∈ wsX20, w ∈ wsX7_ridge := by decide +kernel
theorem kX7_ridge_104 : (.fieldLink RX7 104 "WindTaken$Tape" "length" "I" : Cond) ∈ wsX7_ridge := by decide +kernel
theorem iX7_ridge_X5 : ∀ w ∈ wsX50, w ∈ wsX7_ridge := by decide +kernel
theorem kX7_ridge_25 : (.fieldLink RX7 25 "WindTaken" "ridge" "LWindTaken$Ridge;" : Cond) ∈ wsX7_ridge := by decide +kernel
theorem kX7_ridge_129 : (.fieldLink RX7 129 "WindTaken$Ridge" "count" "I" : Cond) ∈ wsX7_ridge := by decide +kernel
theorem iX7_ridge_X3 : ∀ w ∈ wsX30, w ∈ wsX7_ridge := by decide +kernel
theorem kX7_ridge_118 : (.fieldLink RX7 118 "WindTaken" "fault" "I" : Cond) ∈ wsX7_ridge := by decide +kernel
theorem kX7_ridge_121 : (.constant RX7 121 (-1000100) : Cond) ∈ wsX7_ridge := by decide +kernel
theorem kX7_ridge_122 : (.fieldLink RX7 122 "WindTaken$Reader" "faultPlace" "I" : Cond) ∈ wsX7_ridge := by decide +kernel
abbrev rmX7_ridge : Room := { frames := 9, cells := 0, slots := 0, locals := 197 }
set_option maxHeartbeats 4000000 in
set_option maxRecDepth 100000 in
theorem c_X7_ridge (l : Launch) (G : GG) (B : Nat) (tt : Nat → Nat) (hW : WOK (wX G B tt)) (x : Mem) {t : Nat} (ht9 : x 3 1 = nI t) (ht400 : t ≤ 400) : Met l yX7_ridge wsX7_ridge rmX7_ridge (XP G (wX G B tt) [.ref (B + (0))] x) (va_Qi (fun r u => ((rdF (x 4) t).1.2 = 0 → r = nI (rdF (x 4) t).2.1 ∧ (rdF (x 4) t).2.1 ≤ 8 ∧ RR (rdF (x 4) t).2.1 u 5 (rdF (x 4) t).2.2 ∧ u 0 = x 0) ∧ ((rdF (x 4) t).1.2 ≠ 0 → r = -1000100 - nI (tsN (x 4) t (rdF (x 4) t).1.1) ∧ (∀ a, 5 ≤ a → a < 15 → u a = x a) ∧ u 0 = upd (x 0) 7 (rdF (x 4) t).1.2) ∧ u 3 1 = 0 ∧ (∀ a, a ≠ 0 → a ≠ 3 → a ≠ 2 → ¬ (5 ≤ a ∧ a < 25) → u a = x a)) (XB G (wX G B tt)) (blkA B (B + 117))) 0 0 (blkA B (B + 117)) := by
  refine Met.ofW (cc := cX7_ridge) (maxL := 2) (ret := (some .int)) (by decide) rfl ?_
  intro pp ee ss mm aa bb mt cd s1 Bd hml hv
  obtain ⟨hae, hX, hK, hE⟩ := hv
  have hx := Bd.exec
  have hb := Bd.bytes
  have hr := Bd.returns
  have hts := atoms_spec (ws := wsX7_ridge) Bd.pre
  have hown : ss.vm.findClass RX7 = some mm.cls := findClass_of_methodNamed Bd.named
  have hlocks := Bd.notSynchronized
  have hS : va_S (blkA B (B + 117)) ss.heap ss.heap [] := va_S.rf
  have hl := lv_entry ([.ref (B + (0))]) (n := 2) (Nat.le_of_ble_eq_true rfl)
  subst hae
  rw [lg_entry_eq]
  generalize (lg_sl ([.ref (B + (0))]) ++ List.replicate (2 - (lg_sl ([.ref (B + (0))])).length) Slot.unset).toArray = ls at hl ⊢
  have hl : lv_has ls 2 [(0, .ref (B + (0)))] := hl
  generalize ([.ref (B + (0))] : List Value).toArray = aa at hts ⊢
  show W pp l ee rmX7_ridge ss mm aa bb mt cd ss.heap [] 0 0 _ (F0 mm 0 ls [])
  generalize hQ : MQ bb (va_Qi (fun r u => ((rdF (x 4) t).1.2 = 0 → r = nI (rdF (x 4) t).2.1 ∧ (rdF (x 4) t).2.1 ≤ 8 ∧ RR (rdF (x 4) t).2.1 u 5 (rdF (x 4) t).2.2 ∧ u 0 = x 0) ∧ ((rdF (x 4) t).1.2 ≠ 0 → r = -1000100 - nI (tsN (x 4) t (rdF (x 4) t).1.1) ∧ (∀ a, 5 ≤ a → a < 15 → u a = x a) ∧ u 0 = upd (x 0) 7 (rdF (x 4) t).1.2) ∧ u 3 1 = 0 ∧ (∀ a, a ≠ 0 → a ≠ 3 → a ≠ 2 → ¬ (5 ≤ a ∧ a < 25) → u a = x a)) (XB G (wX G B tt)) (blkA B (B + 117))) aa ss 0 0 (blkA B (B + 117)) = Q
  refine lv_aload_n hx hb dX7_ridge_0 rfl (lv_at hl 0 rfl) ?_
  refine x_get (w := (wX G B tt)) (a := 0) (v := .ref (B + (2))) hx hb hts iX7_ridge_X7 hown hK hX (Nat.le_of_ble_eq_true rfl) (shX_mn (G := G) (B := B)) rfl 1 (by decide) (hts _ kX7_ridge_18) (fun _ h9 => h9) rfl dX7_ridge_1 ?_
  refine lv_aload_n hx hb dX7_ridge_4 rfl (lv_at hl 0 rfl) ?_
  refine x_get (w := (wX G B tt)) (a := 0) (v := .ref (B + (15))) hx hb hts iX7_ridge_X7 hown hK hX (Nat.le_of_ble_eq_true rfl) (shX_mn (G := G) (B := B)) rfl 3 (by decide) (hts _ kX7_ridge_29) (fun _ h9 => h9) rfl dX7_ridge_5 ?_
  refine x_if (w := (wX G B tt)) (va_runV (As := [.ref (B + (15))]) (rest := []) ⟨hx, hb, hml, hown, hts⟩ (c_X2_read (l := l) (G := G) (B := B) (tt := tt) (hW := hW) (x := x) (t := t) (ht9 := ht9) (ht400 := ht400)) (cwV 1 hts gX7_ridge_X2_read rfl rfl rfl (by decide +kernel) ⟨Nat.le_of_ble_eq_true rfl, Nat.le_of_ble_eq_true rfl⟩) (x_pv (w := (wX G B tt)) (a := 2) hW hX hK hE hS [.ref (B + (15))] (Nat.le_of_ble_eq_true rfl) (shX_rd (G := G) (B := B)) rfl) rfl rfl hl.1 rfl (lv_room (Nat.le_of_ble_eq_true rfl)) dX7_ridge_8 ⟨Nat.zero_le _, Nat.zero_le _⟩) hS (fun r_3 x_4 H_1 lo_2 h_8 hX hS => ?_)
  try dsimp only at h_8
  refine lv_istore_n (lv' := [(1, .int (r_3)), (0, .ref (B + (0)))]) hx hb dX7_ridge_11 rfl hl (by decide) rfl (fun ls hl => ?_)
  refine lv_aload_n hx hb dX7_ridge_12 rfl (lv_at hl 1 rfl) ?_
  refine x_get (w := (wX G B tt)) (a := 0) (v := .ref (B + (2))) hx hb hts iX7_ridge_X7 hown hK hX (Nat.le_of_ble_eq_true rfl) (shX_mn (G := G) (B := B)) rfl 1 (by decide) (hts _ kX7_ridge_18) (fun _ h9 => h9) rfl dX7_ridge_13 ?_
  refine x_get (w := (wX G B tt)) (a := 2) (v := .ref (B + (3))) hx hb hts iX7_ridge_X2 hown hK hX (Nat.le_of_ble_eq_true rfl) (shX_rd (G := G) (B := B)) rfl 0 (by decide) (hts _ kX7_ridge_100) (fun _ h9 => h9) rfl dX7_ridge_16 ?_
  refine lv_iconst (v := 0) hx hb dX7_ridge_19 (by decide) ?_
  refine x_put (w := (wX G B tt)) (a := 3) (v := 0) (ty := .int) hx hb hts iX7_ridge_X5 tyX5 tyX5_ok nmX5 hown hK hW hX hS (Nat.le_of_ble_eq_true rfl) (shX_tp (G := G) (B := B)) rfl 1 (by decide) (hts _ kX7_ridge_104) (fun _ h9 => h9) rfl (by decide +kernel) rfl rfl (Nat.le_of_ble_eq_true rfl) (shX_tp (G := G) (B := B)) dX7_ridge_20 (fun H_6 lo_7 hX hS => ?_)
  obtain ⟨x_5, ex_5⟩ : ∃ z, z = mst x_4 (3) 1 (0) := ⟨_, rfl⟩
  rw [← ex_5] at hX
  have z_8 : x_5 (3) 1 = nI (0) := by rw [ex_5, mst_self]; first | done | exact rfl
  have hR17 : (rdF (x 4) t).1.2 = 0 → RR (rdF (x 4) t).2.1 x_5 15 (rdF (x 4) t).2.2 := fun z => (h_8.2.2.2 z).2.cells (fun a a1 a2 => by rw [ex_5, mst_ne (by omega)])
  refine lv_iload_n hx hb dX7_ridge_23 rfl (lv_at hl 0 rfl) ?_
  refine lv_if_eq (tgt := 43) hx hb dX7_ridge_24 (by decide) (fun c_9 => ?_) (fun c_9 => ?_)
  · have hw0 : (rdF (x 4) t).1.2 = 0 := h_8.1.symm.trans c_9
    refine lv_aload_n hx hb dX7_ridge_43 rfl (lv_at hl 1 rfl) ?_
    refine x_get (w := (wX G B tt)) (a := 0) (v := .ref (B + (5))) hx hb hts iX7_ridge_X7 hown hK hX (Nat.le_of_ble_eq_true rfl) (shX_mn (G := G) (B := B)) rfl 2 (by decide) (hts _ kX7_ridge_25) (fun _ h9 => h9) rfl dX7_ridge_44 ?_
    refine lv_aload_n hx hb dX7_ridge_47 rfl (lv_at hl 1 rfl) ?_
    refine x_get (w := (wX G B tt)) (a := 0) (v := .ref (B + (15))) hx hb hts iX7_ridge_X7 hown hK hX (Nat.le_of_ble_eq_true rfl) (shX_mn (G := G) (B := B)) rfl 3 (by decide) (hts _ kX7_ridge_29) (fun _ h9 => h9) rfl dX7_ridge_48 ?_
    refine x_vf (w := (wX G B tt)) (va_runV (As := [.ref (B + (15))]) (rest := []) ⟨hx, hb, hml, hown, hts⟩ (c_X3_become (l := l) (G := G) (B := B) (tt := tt) (hW := hW) (x := x_5) (ρ := 5) (hρ := rg5) (σ := 15) (hσ := rg15) (n := (rdF (x 4) t).2.1) (nw := (rdF (x 4) t).2.2) (hR := (hR17 hw0)) (hne := (by omega))) (cwV 1 hts gX7_ridge_X3_become rfl rfl rfl (by decide +kernel) ⟨Nat.le_of_ble_eq_true rfl, Nat.le_of_ble_eq_true rfl⟩) (x_pv (w := (wX G B tt)) (a := 5) hW hX hK hE hS [.ref (B + (15))] (rg_lt rg5) (shX_ri (G := G) (B := B) rg5) rfl) rfl rfl hl.1 rfl (lv_room (Nat.le_of_ble_eq_true rfl)) dX7_ridge_51 ⟨Nat.zero_le _, Nat.zero_le _⟩) hS (fun x_12 H_10 lo_11 h_51 hX hS => ?_)
    try dsimp only at h_51
    refine lv_aload_n hx hb dX7_ridge_54 rfl (lv_at hl 1 rfl) ?_
    refine x_get (w := (wX G B tt)) (a := 0) (v := .ref (B + (5))) hx hb hts iX7_ridge_X7 hown hK hX (Nat.le_of_ble_eq_true rfl) (shX_mn (G := G) (B := B)) rfl 2 (by decide) (hts _ kX7_ridge_25) (fun _ h9 => h9) rfl dX7_ridge_55 ?_
    refine x_get (w := (wX G B tt)) (a := 5) (v := .int (x_12 (5) 1)) hx hb hts iX7_ridge_X3 hown hK hX (rg_lt rg5) (shX_ri (G := G) (B := B) rg5) rfl 1 (by decide) (hts _ kX7_ridge_129) (fun _ h9 => h9) rfl dX7_ridge_58 ?_
    rw [← hQ]
    refine x_iret (v := x_12 (5) 1) hx hb hr hX hS hlocks dX7_ridge_61 ?_
    refine ⟨fun _ => ⟨h_51.1.cnt, (h_8.2.2.2 hw0).1, h_51.1, ?_⟩, fun z => absurd hw0 z, ?_, fun a a1 a2 a3 a4 => ?_⟩
    · rw [h_51.2 0 (by decide), ex_5, mst_ne (by decide), h_8.2.2.1 0 (by decide) (by decide)]
    · rw [h_51.2 3 (by decide), ex_5, mst_self]
    · rw [h_51.2 a (by omega), ex_5, mst_ne a2, h_8.2.2.1 a a3 (by omega)]
  · have hw1 : (rdF (x 4) t).1.2 ≠ 0 := fun z => c_9 (h_8.1.trans z)
    refine lv_aload_n hx hb dX7_ridge_27 rfl (lv_at hl 1 rfl) ?_
    refine lv_iload_n hx hb dX7_ridge_28 rfl (lv_at hl 0 rfl) ?_
    refine x_put (w := (wX G B tt)) (a := 0) (v := r_3) (ty := .int) hx hb hts iX7_ridge_X7 tyX7 tyX7_ok nmX7 hown hK hW hX hS (Nat.le_of_ble_eq_true rfl) (shX_mn (G := G) (B := B)) rfl 7 (by decide) (hts _ kX7_ridge_118) (fun _ h9 => h9) rfl (by decide +kernel) rfl rfl (Nat.le_of_ble_eq_true rfl) (shX_mn (G := G) (B := B)) dX7_ridge_29 (fun H_14 lo_15 hX hS => ?_)
    obtain ⟨x_13, ex_13⟩ : ∃ z, z = mst x_5 (0) 7 (r_3) := ⟨_, rfl⟩
    rw [← ex_13] at hX
    have z_16 : x_13 (3) 1 = nI (0) := by rw [ex_13, mst_ne (by first | decide | omega)]; exact z_8
    refine lv_ldc (v := (-1000100)) hx hb hown (hts _ kX7_ridge_121) dX7_ridge_32 ?_
    refine lv_aload_n hx hb dX7_ridge_34 rfl (lv_at hl 1 rfl) ?_
    refine x_get (w := (wX G B tt)) (a := 0) (v := .ref (B + (2))) hx hb hts iX7_ridge_X7 hown hK hX (Nat.le_of_ble_eq_true rfl) (shX_mn (G := G) (B := B)) rfl 1 (by decide) (hts _ kX7_ridge_18) (fun _ h9 => h9) rfl dX7_ridge_35 ?_
    refine x_get (w := (wX G B tt)) (a := 2) (v := .int (x_13 (2) 6)) hx hb hts iX7_ridge_X2 hown hK hX (Nat.le_of_ble_eq_true rfl) (shX_rd (G := G) (B := B)) rfl 6 (by decide) (hts _ kX7_ridge_122) (fun _ h9 => h9) rfl dX7_ridge_38 ?_
    refine lv_isub hx hb dX7_ridge_41 ?_
    rw [← hQ]
    refine x_iret (v := ((-1000100)) - (x_13 (2) 6)) hx hb hr hX hS hlocks dX7_ridge_42 ?_
    refine ⟨fun z => absurd z hw1, fun _ => ⟨?_, fun a a1 a2 => ?_, ?_⟩, ?_, fun a a1 a2 a3 a4 => ?_⟩
    · rw [ex_13, mst_ne (by decide), ex_5, mst_ne (by decide), h_8.2.1.2.2.2.2 hw1]
    · rw [ex_13, mst_ne (by omega), ex_5, mst_ne (by omega), h_8.2.2.1 a (by omega) (by omega)]
    · rw [ex_13, mst_eq, ex_5, mst_ne (by decide), h_8.2.2.1 0 (by decide) (by decide), h_8.1]
    · rw [ex_13, mst_ne (by decide), ex_5, mst_self]
    · rw [ex_13, mst_ne a1, ex_5, mst_ne a2, h_8.2.2.1 a a3 (by omega)]
