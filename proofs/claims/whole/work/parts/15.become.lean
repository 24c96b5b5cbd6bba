theorem kX3_become_18 : (.fieldLink RX3 18 "WindTaken$Ridge" "count" "I" : Cond) ∈ wsX3_become := by decide +kernel
theorem iX3_become_X3 : ∀ w ∈ wsX30, w ∈ wsX3_become := by decide +kernel
theorem kX3_become_22 : (.fieldLink RX3 22 "WindTaken$Ridge" "gone" "I" : Cond) ∈ wsX3_become := by decide +kernel
theorem kX3_become_25 : (.fieldLink RX3 25 "WindTaken$Ridge" "take" "I" : Cond) ∈ wsX3_become := by decide +kernel
theorem kX3_become_28 : (.fieldLink RX3 28 "WindTaken$Ridge" "due" "I" : Cond) ∈ wsX3_become := by decide +kernel
theorem kX3_become_31 : (.fieldLink RX3 31 "WindTaken$Ridge" "price" "I" : Cond) ∈ wsX3_become := by decide +kernel
theorem kX3_become_11 : (.fieldLink RX3 11 "WindTaken$Ridge" "mills" "[LWindTaken$Mill;" : Cond) ∈ wsX3_become := by decide +kernel
abbrev rmX3_become : Room := { frames := 1, cells := 0, slots := 0, locals := 21 }
set_option maxHeartbeats 4000000 in
set_option maxRecDepth 100000 in
theorem c_X3_become (l : Launch) (G : GG) (B : Nat) (tt : Nat → Nat) (hW : WOK (wX G B tt)) (x : Mem) {ρ : Nat} (hρ : isRg ρ) {σ : Nat} (hσ : isRg σ) {n : Nat} {nw : Nat → Int32} (hR : RR n x σ nw) (hne : ρ ≠ σ) : Met l yX3_become wsX3_become rmX3_become (XP G (wX G B tt) [.ref (B + (ρ)), .ref (B + (σ))] x) (va_Qv (fun u => RR n u ρ nw ∧ ∀ a, ¬ (ρ ≤ a ∧ a < ρ + 10) → u a = x a) (XB G (wX G B tt)) (blkA B (B + 117))) 0 0 (blkA B (B + 117)) := by
  refine Met.ofW (cc := cX3_become) (maxL := 3) (ret := none) (by decide) rfl ?_
  intro pp ee ss mm aa bb mt cd s1 Bd hml hv
  obtain ⟨hae, hX, hK, hE⟩ := hv
  have hx := Bd.exec
  have hb := Bd.bytes
  have hr := Bd.returns
  have hts := atoms_spec (ws := wsX3_become) Bd.pre
  have hown : ss.vm.findClass RX3 = some mm.cls := findClass_of_methodNamed Bd.named
  have hlocks := Bd.notSynchronized
  have hS : va_S (blkA B (B + 117)) ss.heap ss.heap [] := va_S.rf
  have hl := lv_entry ([.ref (B + (ρ)), .ref (B + (σ))]) (n := 3) (Nat.le_of_ble_eq_true rfl)
  subst hae
  rw [lg_entry_eq]
  generalize (lg_sl ([.ref (B + (ρ)), .ref (B + (σ))]) ++ List.replicate (3 - (lg_sl ([.ref (B + (ρ)), .ref (B + (σ))])).length) Slot.unset).toArray = ls at hl ⊢
  have hl : lv_has ls 3 [(0, .ref (B + (ρ))), (1, .ref (B + (σ)))] := hl
  generalize ([.ref (B + (ρ)), .ref (B + (σ))] : List Value).toArray = aa at hts ⊢
  show W pp l ee rmX3_become ss mm aa bb mt cd ss.heap [] 0 0 _ (F0 mm 0 ls [])
  generalize hQ : MQ bb (va_Qv (fun u => RR n u ρ nw ∧ ∀ a, ¬ (ρ ≤ a ∧ a < ρ + 10) → u a = x a) (XB G (wX G B tt)) (blkA B (B + 117))) aa ss 0 0 (blkA B (B + 117)) = Q
  have hn8 := hR.1
  have hap := rg_apart hρ hσ hne
  refine lv_aload_n hx hb dX3_become_0 rfl (lv_at hl 0 rfl) ?_
  refine lv_aload_n hx hb dX3_become_1 rfl (lv_at hl 1 rfl) ?_
  refine x_get (w := (wX G B tt)) (a := σ) (v := .int (x (σ) 1)) hx hb hts iX3_become_X3 hown hK hX (rg_lt hσ) (shX_ri (G := G) (B := B) hσ) rfl 1 (by decide) (hts _ kX3_become_18) (fun _ h9 => h9) rfl dX3_become_2 ?_
  refine x_put (w := (wX G B tt)) (a := ρ) (v := x (σ) 1) (ty := .int) hx hb hts iX3_become_X3 tyX3 tyX3_ok nmX3 hown hK hW hX hS (rg_lt hρ) (shX_ri (G := G) (B := B) hρ) rfl 1 (by decide) (hts _ kX3_become_18) (fun _ h9 => h9) rfl (by decide +kernel) rfl rfl (Nat.le_of_ble_eq_true rfl) (shX_ri (G := G) (B := B) hρ) dX3_become_5 (fun H_2 lo_3 hX hS => ?_)
  obtain ⟨x_1, ex_1⟩ : ∃ z, z = mst x (ρ) 1 (x (σ) 1) := ⟨_, rfl⟩
  rw [← ex_1] at hX
  refine lv_aload_n hx hb dX3_become_8 rfl (lv_at hl 0 rfl) ?_
  refine lv_aload_n hx hb dX3_become_9 rfl (lv_at hl 1 rfl) ?_
  refine x_get (w := (wX G B tt)) (a := σ) (v := .int (x_1 (σ) 2)) hx hb hts iX3_become_X3 hown hK hX (rg_lt hσ) (shX_ri (G := G) (B := B) hσ) rfl 2 (by decide) (hts _ kX3_become_22) (fun _ h9 => h9) rfl dX3_become_10 ?_
  refine x_put (w := (wX G B tt)) (a := ρ) (v := x_1 (σ) 2) (ty := .int) hx hb hts iX3_become_X3 tyX3 tyX3_ok nmX3 hown hK hW hX hS (rg_lt hρ) (shX_ri (G := G) (B := B) hρ) rfl 2 (by decide) (hts _ kX3_become_22) (fun _ h9 => h9) rfl (by decide +kernel) rfl rfl (Nat.le_of_ble_eq_true rfl) (shX_ri (G := G) (B := B) hρ) dX3_become_13 (fun H_5 lo_6 hX hS => ?_)
  obtain ⟨x_4, ex_4⟩ : ∃ z, z = mst x_1 (ρ) 2 (x_1 (σ) 2) := ⟨_, rfl⟩
  rw [← ex_4] at hX
  refine lv_aload_n hx hb dX3_become_16 rfl (lv_at hl 0 rfl) ?_
  refine lv_aload_n hx hb dX3_become_17 rfl (lv_at hl 1 rfl) ?_
  refine x_get (w := (wX G B tt)) (a := σ) (v := .int (x_4 (σ) 3)) hx hb hts iX3_become_X3 hown hK hX (rg_lt hσ) (shX_ri (G := G) (B := B) hσ) rfl 3 (by decide) (hts _ kX3_become_25) (fun _ h9 => h9) rfl dX3_become_18 ?_
  refine x_put (w := (wX G B tt)) (a := ρ) (v := x_4 (σ) 3) (ty := .int) hx hb hts iX3_become_X3 tyX3 tyX3_ok nmX3 hown hK hW hX hS (rg_lt hρ) (shX_ri (G := G) (B := B) hρ) rfl 3 (by decide) (hts _ kX3_become_25) (fun _ h9 => h9) rfl (by decide +kernel) rfl rfl (Nat.le_of_ble_eq_true rfl) (shX_ri (G := G) (B := B) hρ) dX3_become_21 (fun H_8 lo_9 hX hS => ?_)
  obtain ⟨x_7, ex_7⟩ : ∃ z, z = mst x_4 (ρ) 3 (x_4 (σ) 3) := ⟨_, rfl⟩
  rw [← ex_7] at hX
  refine lv_aload_n hx hb dX3_become_24 rfl (lv_at hl 0 rfl) ?_
  refine lv_aload_n hx hb dX3_become_25 rfl (lv_at hl 1 rfl) ?_
  refine x_get (w := (wX G B tt)) (a := σ) (v := .int (x_7 (σ) 4)) hx hb hts iX3_become_X3 hown hK hX (rg_lt hσ) (shX_ri (G := G) (B := B) hσ) rfl 4 (by decide) (hts _ kX3_become_28) (fun _ h9 => h9) rfl dX3_become_26 ?_
  refine x_put (w := (wX G B tt)) (a := ρ) (v := x_7 (σ) 4) (ty := .int) hx hb hts iX3_become_X3 tyX3 tyX3_ok nmX3 hown hK hW hX hS (rg_lt hρ) (shX_ri (G := G) (B := B) hρ) rfl 4 (by decide) (hts _ kX3_become_28) (fun _ h9 => h9) rfl (by decide +kernel) rfl rfl (Nat.le_of_ble_eq_true rfl) (shX_ri (G := G) (B := B) hρ) dX3_become_29 (fun H_11 lo_12 hX hS => ?_)
  obtain ⟨x_10, ex_10⟩ : ∃ z, z = mst x_7 (ρ) 4 (x_7 (σ) 4) := ⟨_, rfl⟩
  rw [← ex_10] at hX
  refine lv_aload_n hx hb dX3_become_32 rfl (lv_at hl 0 rfl) ?_
  refine lv_aload_n hx hb dX3_become_33 rfl (lv_at hl 1 rfl) ?_
  refine x_get (w := (wX G B tt)) (a := σ) (v := .int (x_10 (σ) 5)) hx hb hts iX3_become_X3 hown hK hX (rg_lt hσ) (shX_ri (G := G) (B := B) hσ) rfl 5 (by decide) (hts _ kX3_become_31) (fun _ h9 => h9) rfl dX3_become_34 ?_
  refine x_put (w := (wX G B tt)) (a := ρ) (v := x_10 (σ) 5) (ty := .int) hx hb hts iX3_become_X3 tyX3 tyX3_ok nmX3 hown hK hW hX hS (rg_lt hρ) (shX_ri (G := G) (B := B) hρ) rfl 5 (by decide) (hts _ kX3_become_31) (fun _ h9 => h9) rfl (by decide +kernel) rfl rfl (Nat.le_of_ble_eq_true rfl) (shX_ri (G := G) (B := B) hρ) dX3_become_37 (fun H_14 lo_15 hX hS => ?_)
  obtain ⟨x_13, ex_13⟩ : ∃ z, z = mst x_10 (ρ) 5 (x_10 (σ) 5) := ⟨_, rfl⟩
  rw [← ex_13] at hX
  refine lv_iconst (v := 0) hx hb dX3_become_40 (by decide) ?_
  refine lv_istore_n (lv' := [(2, .int (0)), (0, .ref (B + (ρ))), (1, .ref (B + (σ)))]) hx hb dX3_become_41 rfl hl (by decide) rfl (fun ls hl => ?_)
  have L_16 : ∀ (n9 : Nat) (i : Nat)  (u : Mem) (_ : n9 = 8 - i) (_ : i ≤ 8 ∧ (∀ a, ¬ (ρ ≤ a ∧ a < ρ + 10) → u a = x a) ∧ (u ρ 1 = x σ 1 ∧ u ρ 2 = x σ 2 ∧ u ρ 3 = x σ 3 ∧ u ρ 4 = x σ 4 ∧ u ρ 5 = x σ 5) ∧ ∀ j, j < i → (∀ k9, k9 < 11 → u (ρ + 1 + 1 + j) k9 = x (σ + 1 + 1 + j) k9) ∧ bI (decide (u (ρ + 1 + 1 + j) 11 ≠ 0)) = bI (decide (x (σ + 1 + 1 + j) 11 ≠ 0))) (H_17 : Heap) (lo_18 : List Loc) (_ : MR G (wX G B tt) u H_17) (_ : va_S (blkA B (B + 117)) ss.heap H_17 lo_18) (ls : Array Slot) (_ : lv_has ls 3 [(2, .int (nI i)), (0, .ref (B + (ρ))), (1, .ref (B + (σ)))]), W pp l ee rmX3_become ss mm aa bb mt cd H_17 lo_18 0 0 Q (F0 mm 42 ls []) := by
    intro n9
    induction n9 using Nat.strongRecOn with
    | _ n9 ih => 
      have ih_42 := ih
      intro i u hn9 hI H_17 lo_18 hX hS ls hl
      obtain ⟨hi, hof, hsc, hmi⟩ := hI
      refine lv_iload_n hx hb dX3_become_42 rfl (lv_at hl 0 rfl) ?_
      refine lv_bipush (v := 8) hx hb dX3_become_43 (by decide) ?_
      refine lv_icmp_ge (tgt := 69) hx hb dX3_become_45 (by decide) (fun c_19 => ?_) (fun c_19 => ?_)
      · have nc_19 := (n_le (a := 8) (b := i) rfl rfl (by omega) (by omega)).mp c_19
        rw [← hQ]
        refine x_vret hx hb hr hX hS hlocks dX3_become_69 ?_
        refine ⟨⟨hn8, by rw [hsc.1]; exact hR.2.1, hR.2.2.1, by rw [hsc.2.1]; exact hR.2.2.2.1, by rw [hsc.2.2.1]; exact hR.2.2.2.2.1, by rw [hsc.2.2.2.1]; exact hR.2.2.2.2.2.1, by rw [hsc.2.2.2.2]; exact hR.2.2.2.2.2.2.1, fun j hj => ?_⟩, hof⟩
        obtain ⟨h1, h2⟩ := hmi j (by omega)
        rw [h1 0 (by decide), h1 1 (by decide), h1 2 (by decide), h1 3 (by decide), h1 4 (by decide), h1 5 (by decide), h1 6 (by decide), h1 7 (by decide), h1 8 (by decide), h1 9 (by decide), h1 10 (by decide), h2]
        exact hR.2.2.2.2.2.2.2 j hj
      · have nc_19 := Nat.not_le.mp (fun q => c_19 ((n_le (a := 8) (b := i) rfl rfl (by omega) (by omega)).mpr q))
        refine lv_aload_n hx hb dX3_become_48 rfl (lv_at hl 1 rfl) ?_
        refine x_get (w := (wX G B tt)) (a := ρ) (v := .ref (B + (ρ + 1))) hx hb hts iX3_become_X3 hown hK hX (rg_lt hρ) (shX_ri (G := G) (B := B) hρ) rfl 0 (by decide) (hts _ kX3_become_11) (fun _ h9 => h9) rfl dX3_become_49 ?_
        refine lv_iload_n hx hb dX3_become_52 rfl (lv_at hl 0 rfl) ?_
        refine x_aald (w := (wX G B tt)) (a := ρ + 1) (n := 8) (j := i) (q := B + (ρ + 1 + 1 + i)) (t0 := 2) hx hb hK hX (rg_lt1 hρ) (shX_ma (G := G) (B := B) (f := u (ρ + 1)) hρ) rfl rfl (by omega) (by decide) rfl dX3_become_53 ?_
        refine lv_aload_n hx hb dX3_become_54 rfl (lv_at hl 2 rfl) ?_
        refine x_get (w := (wX G B tt)) (a := σ) (v := .ref (B + (σ + 1))) hx hb hts iX3_become_X3 hown hK hX (rg_lt hσ) (shX_ri (G := G) (B := B) hσ) rfl 0 (by decide) (hts _ kX3_become_11) (fun _ h9 => h9) rfl dX3_become_55 ?_
        refine lv_iload_n hx hb dX3_become_58 rfl (lv_at hl 0 rfl) ?_
        refine x_aald (w := (wX G B tt)) (a := σ + 1) (n := 8) (j := i) (q := B + (σ + 1 + 1 + i)) (t0 := 2) hx hb hK hX (rg_lt1 hσ) (shX_ma (G := G) (B := B) (f := u (σ + 1)) hσ) rfl rfl (by omega) (by decide) rfl dX3_become_59 ?_
        refine x_vf (w := (wX G B tt)) (va_runV (As := [.ref (B + (σ + 1 + 1 + i))]) (rest := []) ⟨hx, hb, hml, hown, hts⟩ (c_X0_become (l := l) (G := G) (B := B) (tt := tt) (hW := hW) (x := u) (ρ := ρ) (hρ := hρ) (j := i) (hj := (by omega)) (σ := σ) (hσ := hσ) (k := i) (hk := (by omega))) (cwV 1 hts gX3_become_X0_become rfl rfl rfl (by decide +kernel) ⟨Nat.le_of_ble_eq_true rfl, Nat.le_of_ble_eq_true rfl⟩) (x_pv (w := (wX G B tt)) (a := ρ + 1 + 1 + i) hW hX hK hE hS [.ref (B + (σ + 1 + 1 + i))] (rg_ltm hρ (by omega)) (shX_mi (G := G) (B := B) hρ (by omega)) rfl) rfl rfl hl.1 rfl (lv_room (Nat.le_of_ble_eq_true rfl)) dX3_become_60 ⟨Nat.zero_le _, Nat.zero_le _⟩) hS (fun x_22 H_20 lo_21 h_60 hX hS => ?_)
        try dsimp only at h_60
        refine lv_iinc (v := nI (i + 1)) (lv' := [(2, .int (nI (i + 1))), (0, .ref (B + (ρ))), (1, .ref (B + (σ)))]) hx hb dX3_become_63 hl (k := 0) rfl (inc_nI _) (by decide) rfl (fun ls hl => ?_)
        refine lv_goto (tgt := 42) hx hb dX3_become_66 (by decide) ?_
        exact ih_42 _ (by omega) (i + 1) (x_22) rfl ⟨by omega, fun a h => by rw [h_60.1 a (by omega)]; exact hof a h, by rw [h_60.1 ρ (by omega)]; exact hsc, fun j hj => by
          by_cases hji : j = i
          · subst hji
            have hz := h_60.2 (by omega)
            rw [← hof (σ + 1 + 1 + j) (by omega)]
            exact hz
          · rw [h_60.1 (ρ + 1 + 1 + j) (by omega)]; exact hmi j (by omega)⟩ _ _ hX hS ls (lv_sub hl [0, 1, 2] rfl)
  exact L_16 _ (0) (x_13) rfl ⟨Nat.zero_le _, fun a h => by simp only [ex_13, ex_10, ex_7, ex_4, ex_1, mst_ne (show a ≠ ρ by omega)], by simp only [ex_13, ex_10, ex_7, ex_4, ex_1, mst_eq, mst_ne (show σ ≠ ρ from Ne.symm hne)]; simp [upd], fun j hj => absurd hj (Nat.not_lt_zero j)⟩ _ _ hX hS ls (lv_sub hl [0, 1, 2] rfl)
