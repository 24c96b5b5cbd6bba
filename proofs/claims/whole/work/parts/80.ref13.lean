theorem kX8_readAll_31 : (.fieldLink RX8 31 "WindTakenModel" "read" "[I" : Cond) ∈ wsX8_readAll := by decide +kernel
theorem iX8_readAll_X8 : ∀ w ∈ wsX80, w ∈ wsX8_readAll := by decide +kernel
theorem kX8_readAll_88 : (.fieldLink RX8 88 "WindTakenModel" "behind" "I" : Cond) ∈ wsX8_readAll := by decide +kernel
theorem kX8_readAll_124 : (.fieldLink RX8 124 "WindTakenModel" "wrong" "I" : Cond) ∈ wsX8_readAll := by decide +kernel
theorem kX8_readAll_102 : (.fieldLink RX8 102 "WindTakenModel" "kind" "I" : Cond) ∈ wsX8_readAll := by decide +kernel
abbrev rmX8_readAll : Room := { frames := 4, cells := 0, slots := 0, locals := 93 }
set_option maxHeartbeats 4000000 in
set_option maxRecDepth 100000 in
theorem c_X8_readAll (l : Launch) (G : GG) (B : Nat) (hW : WOK (wM G B)) (x : Mem) {t : Nat} (ht9 : x 0 4 = nI t) (ht400 : t ≤ 400) : Met l yX8_readAll wsX8_readAll rmX8_readAll (XP G (wM G B) [.ref (B + (0))] x) (va_Qi (fun r u => r = bI (decide ((rdF (x 4) t).1.2 = 0)) ∧ NG x u ∧ ((rdF (x 4) t).1.2 ≠ 0 → u 0 18 = (rdF (x 4) t).1.2 ∧ u 0 14 = nI (tsN (x 4) t (rdF (x 4) t).1.1)) ∧ ((rdF (x 4) t).1.2 = 0 → (rdF (x 4) t).2.1 ≤ 8 ∧ u 8 0 = nI (rdF (x 4) t).2.1 ∧ AG (rdF (x 4) t).2.1 (u 8) (rdF (x 4) t).2.2)) (XB G (wM G B)) (blkA B (B + 13))) 0 0 (blkA B (B + 13)) := by
  refine Met.ofW (cc := cX8_readAll) (maxL := 1) (ret := (some .boolean)) (by decide) rfl ?_
  intro pp ee ss mm aa bb mt cd s1 Bd hml hv
  obtain ⟨hae, hX, hK, hE⟩ := hv
  have hx := Bd.exec
  have hb := Bd.bytes
  have hr := Bd.returns
  have hts := atoms_spec (ws := wsX8_readAll) Bd.pre
  have hown : ss.vm.findClass RX8 = some mm.cls := findClass_of_methodNamed Bd.named
  have hlocks := Bd.notSynchronized
  have hS : va_S (blkA B (B + 13)) ss.heap ss.heap [] := va_S.rf
  have hl := lv_entry ([.ref (B + (0))]) (n := 1) (Nat.le_of_ble_eq_true rfl)
  subst hae
  rw [lg_entry_eq]
  generalize (lg_sl ([.ref (B + (0))]) ++ List.replicate (1 - (lg_sl ([.ref (B + (0))])).length) Slot.unset).toArray = ls at hl ⊢
  have hl : lv_has ls 1 [(0, .ref (B + (0)))] := hl
  generalize ([.ref (B + (0))] : List Value).toArray = aa at hts ⊢
  show W pp l ee rmX8_readAll ss mm aa bb mt cd ss.heap [] 0 0 _ (F0 mm 0 ls [])
  generalize hQ : MQ bb (va_Qi (fun r u => r = bI (decide ((rdF (x 4) t).1.2 = 0)) ∧ NG x u ∧ ((rdF (x 4) t).1.2 ≠ 0 → u 0 18 = (rdF (x 4) t).1.2 ∧ u 0 14 = nI (tsN (x 4) t (rdF (x 4) t).1.1)) ∧ ((rdF (x 4) t).1.2 = 0 → (rdF (x 4) t).2.1 ≤ 8 ∧ u 8 0 = nI (rdF (x 4) t).2.1 ∧ AG (rdF (x 4) t).2.1 (u 8) (rdF (x 4) t).2.2)) (XB G (wM G B)) (blkA B (B + 13))) aa ss 0 0 (blkA B (B + 13)) = Q
  refine lv_aload_n hx hb dX8_readAll_0 rfl (lv_at hl 0 rfl) ?_
  refine x_get (w := (wM G B)) (a := 0) (v := .ref (B + (8))) hx hb hts iX8_readAll_X8 hown hK hX (Nat.le_of_ble_eq_true rfl) (shM_0 (G := G) (B := B)) rfl 10 (by decide) (hts _ kX8_readAll_31) (fun _ h9 => h9) rfl dX8_readAll_1 ?_
  refine lv_iconst (v := 0) hx hb dX8_readAll_4 (by decide) ?_
  refine lv_iconst (v := 0) hx hb dX8_readAll_5 (by decide) ?_
  refine x_iast (w := (wM G B)) (a := 8) (n := 93) (j := 0) hx hb hK hW hX hS (Nat.le_of_ble_eq_true rfl) (fun f => (shM_a (G := G) (B := B) (a := 8) (f := f) (by decide))) rfl (by decide) (by decide) dX8_readAll_6 (fun H_2 lo_3 hX hS => ?_)
  obtain ⟨x_1, ex_1⟩ : ∃ z, z = mst x (8) 0 (0) := ⟨_, rfl⟩
  rw [← ex_1] at hX
  have z_4 : x_1 (8) 0 = nI (0) := by rw [ex_1, mst_self]; first | done | exact rfl
  refine lv_aload_n hx hb dX8_readAll_7 rfl (lv_at hl 0 rfl) ?_
  refine x_get (w := (wM G B)) (a := 0) (v := .ref (B + (8))) hx hb hts iX8_readAll_X8 hown hK hX (Nat.le_of_ble_eq_true rfl) (shM_0 (G := G) (B := B)) rfl 10 (by decide) (hts _ kX8_readAll_31) (fun _ h9 => h9) rfl dX8_readAll_8 ?_
  refine lv_iconst (v := 1) hx hb dX8_readAll_11 (by decide) ?_
  refine lv_iconst (v := 0) hx hb dX8_readAll_12 (by decide) ?_
  refine x_iast (w := (wM G B)) (a := 8) (n := 93) (j := 1) hx hb hK hW hX hS (Nat.le_of_ble_eq_true rfl) (fun f => (shM_a (G := G) (B := B) (a := 8) (f := f) (by decide))) rfl (by decide) (by decide) dX8_readAll_13 (fun H_6 lo_7 hX hS => ?_)
  obtain ⟨x_5, ex_5⟩ : ∃ z, z = mst x_1 (8) 1 (0) := ⟨_, rfl⟩
  rw [← ex_5] at hX
  have z_8 : x_5 (8) 0 = nI (0) := by rw [ex_5, mst_eq, upd_ne (by first | decide | omega)]; exact z_4
  have z_9 : x_5 (8) 1 = nI (0) := by rw [ex_5, mst_self]; first | done | exact rfl
  refine lv_aload_n hx hb dX8_readAll_14 rfl (lv_at hl 0 rfl) ?_
  refine lv_iconst (v := 0) hx hb dX8_readAll_15 (by decide) ?_
  refine x_put (w := (wM G B)) (a := 0) (v := 0) (ty := .int) hx hb hts iX8_readAll_X8 tyX8 tyX8_ok nmX8 hown hK hW hX hS (Nat.le_of_ble_eq_true rfl) (shM_0 (G := G) (B := B)) rfl 15 (by decide) (hts _ kX8_readAll_88) (fun _ h9 => h9) rfl (by decide +kernel) rfl rfl (Nat.le_of_ble_eq_true rfl) (shM_0 (G := G) (B := B)) dX8_readAll_16 (fun H_11 lo_12 hX hS => ?_)
  obtain ⟨x_10, ex_10⟩ : ∃ z, z = mst x_5 (0) 15 (0) := ⟨_, rfl⟩
  rw [← ex_10] at hX
  have z_13 : x_10 (8) 0 = nI (0) := by rw [ex_10, mst_ne (by first | decide | omega)]; exact z_8
  have z_14 : x_10 (8) 1 = nI (0) := by rw [ex_10, mst_ne (by first | decide | omega)]; exact z_9
  have z_15 : x_10 (0) 15 = nI (0) := by rw [ex_10, mst_self]; first | done | exact rfl
  refine lv_aload_n hx hb dX8_readAll_19 rfl (lv_at hl 0 rfl) ?_
  refine lv_iconst (v := 0) hx hb dX8_readAll_20 (by decide) ?_
  refine x_put (w := (wM G B)) (a := 0) (v := 0) (ty := .int) hx hb hts iX8_readAll_X8 tyX8 tyX8_ok nmX8 hown hK hW hX hS (Nat.le_of_ble_eq_true rfl) (shM_0 (G := G) (B := B)) rfl 18 (by decide) (hts _ kX8_readAll_124) (fun _ h9 => h9) rfl (by decide +kernel) rfl rfl (Nat.le_of_ble_eq_true rfl) (shM_0 (G := G) (B := B)) dX8_readAll_21 (fun H_17 lo_18 hX hS => ?_)
  obtain ⟨x_16, ex_16⟩ : ∃ z, z = mst x_10 (0) 18 (0) := ⟨_, rfl⟩
  rw [← ex_16] at hX
  have z_19 : x_16 (8) 0 = nI (0) := by rw [ex_16, mst_ne (by first | decide | omega)]; exact z_13
  have z_20 : x_16 (8) 1 = nI (0) := by rw [ex_16, mst_ne (by first | decide | omega)]; exact z_14
  have z_21 : x_16 (0) 15 = nI (0) := by rw [ex_16, mst_eq, upd_ne (by first | decide | omega)]; exact z_15
  have z_22 : x_16 (0) 18 = nI (0) := by rw [ex_16, mst_self]; first | done | exact rfl
  have hG0 : NG x x_16 := by rw [ex_16, ex_10, ex_5, ex_1]; exact (((NG.rf.r8).r8).be).wr
  have hA15 : x_16 0 15 = nI 0 := by rw [ex_16, mst_eq, upd_ne (by decide), ex_10, mst_self]; rfl
  have hT0 : x_16 0 4 = nI t := (hG0.2 4 (by decide) (by decide) (by decide) (by decide) (by decide) (by decide)).trans ht9
  have h40 : x_16 4 = x 4 := hG0.1 4 (by decide) (by decide)
  have h80 : x_16 8 0 = 0 := by rw [ex_16, mst_ne (by decide), ex_10, mst_ne (by decide), ex_5, mst_eq, upd_ne (by decide), ex_1, mst_self]
  have h81 : x_16 8 1 = 0 := by rw [ex_16, mst_ne (by decide), ex_10, mst_ne (by decide), ex_5, mst_self]
  refine lv_aload_n hx hb dX8_readAll_24 rfl (lv_at hl 0 rfl) ?_
  refine x_if (w := (wM G B)) (va_runV (As := []) (rest := []) ⟨hx, hb, hml, hown, hts⟩ (c_X8_readLaw (l := l) (G := G) (B := B) (hW := hW) (x := x_16) (f := (x 4)) (t := t) (s := (0, 0)) (hf := h40) (ht9 := hT0) (ht400 := ht400) (hs0 := rfl) (hp := hA15) (hpt := (Nat.zero_le t))) (cwV 0 hts gX8_readAll_X8_readLaw rfl rfl rfl (by decide +kernel) ⟨Nat.le_of_ble_eq_true rfl, Nat.le_of_ble_eq_true rfl⟩) (x_pv (w := (wM G B)) (a := 0) hW hX hK hE hS [] (Nat.le_of_ble_eq_true rfl) (shM_0 (G := G) (B := B)) rfl) rfl rfl hl.1 rfl (lv_room (Nat.le_of_ble_eq_true rfl)) dX8_readAll_25 ⟨Nat.zero_le _, Nat.zero_le _⟩) hS (fun r_25 x_26 H_23 lo_24 h_25 hX hS => ?_)
  try dsimp only at h_25
  have hG1 : NG x x_26 := hG0.tr h_25.2.2.1
  have hT1 : x_26 0 4 = nI t := (hG1.2 4 (by decide) (by decide) (by decide) (by decide) (by decide) (by decide)).trans ht9
  have h41 : x_26 4 = x 4 := hG1.1 4 (by decide) (by decide)
  have hpl : (lw5 (x 4) t (0, 0)).1 ≤ t := lw5_le (s := (0, 0)) (Nat.zero_le t)
  refine lv_if_ne (tgt := 33) hx hb dX8_readAll_28 (by decide) (fun c_27 => ?_) (fun c_27 => ?_)
  · have hz0 : (lw5 (x 4) t (0, 0)).2 = 0 := num_t h_25.1 c_27
    refine lv_aload_n hx hb dX8_readAll_33 rfl (lv_at hl 0 rfl) ?_
    refine x_vf (w := (wM G B)) (va_runV (As := []) (rest := []) ⟨hx, hb, hml, hown, hts⟩ (c_X8_nextToken (l := l) (G := G) (B := B) (hW := hW) (x := x_26) (t := t) (p := (lw5 (x 4) t (0, 0)).1) (ht9 := hT1) (ht400 := ht400) (hp := (h_25.2.1.2.2 hz0)) (hpt := hpl)) (cwV 0 hts gX8_readAll_X8_nextToken rfl rfl rfl (by decide +kernel) ⟨Nat.le_of_ble_eq_true rfl, Nat.le_of_ble_eq_true rfl⟩) (x_pv (w := (wM G B)) (a := 0) hW hX hK hE hS [] (Nat.le_of_ble_eq_true rfl) (shM_0 (G := G) (B := B)) rfl) rfl rfl hl.1 rfl (lv_room (Nat.le_of_ble_eq_true rfl)) dX8_readAll_34 ⟨Nat.zero_le _, Nat.zero_le _⟩) hS (fun x_30 H_28 lo_29 h_34 hX hS => ?_)
    try dsimp only at h_34
    rw [h41] at h_34
    have hi0 : x_30 8 0 = nI (rd0 (x 4) t).2.1 := by rw [h_34.1.1 8 (by decide), h_25.2.2.2.1 0 (by decide) (by decide) (by decide), h80]; rfl
    have hiA : AG (rd0 (x 4) t).2.1 (x_30 8) (rd0 (x 4) t).2.2 := by rw [h_34.1.1 8 (by decide)]; exact law_ag (by rw [h_25.2.2.2.1 1 (by decide) (by decide) (by decide), h81]) (h_25.2.2.2.2 hz0)
    have L_31 : ∀ (n9 : Nat)  (g9 : RS) (u1 : Mem) (_ : n9 = 9 - g9.2.1) (_ : g9.2.1 ≤ 8 ∧ g9.1.2 = 0 ∧ g9.1.1 ≤ t ∧ NG x u1 ∧ NT (x 4) t g9.1.1 u1 ∧ u1 8 0 = nI g9.2.1 ∧ AG g9.2.1 (u1 8) g9.2.2 ∧ RDF (x 4) t g9) (H_32 : Heap) (lo_33 : List Loc) (_ : MR G (wM G B) u1 H_32) (_ : va_S (blkA B (B + 13)) ss.heap H_32 lo_33) (ls : Array Slot) (_ : lv_has ls 1 [(0, .ref (B + (0)))]), W pp l ee rmX8_readAll ss mm aa bb mt cd H_32 lo_33 0 0 Q (F0 mm 37 ls []) := by
      intro n9
      induction n9 using Nat.strongRecOn with
      | _ n9 ih => 
        have ih_37 := ih
        intro g9 u1 hn9 hI H_32 lo_33 hX hS ls hl
        obtain ⟨hc8, hz9, hpt9, hG9, hN9, hc0, hAG, hRF⟩ := hI
        have hT9 : u1 0 4 = nI t := (hG9.2 4 (by decide) (by decide) (by decide) (by decide) (by decide) (by decide)).trans ht9
        have h49 : u1 4 = x 4 := hG9.1 4 (by decide) (by decide)
        refine lv_aload_n hx hb dX8_readAll_37 rfl (lv_at hl 0 rfl) ?_
        refine x_get (w := (wM G B)) (a := 0) (v := .int (u1 (0) 16)) hx hb hts iX8_readAll_X8 hown hK hX (Nat.le_of_ble_eq_true rfl) (shM_0 (G := G) (B := B)) rfl 16 (by decide) (hts _ kX8_readAll_102) (fun _ h9 => h9) rfl dX8_readAll_38 ?_
        refine lv_if_ne (tgt := 53) hx hb dX8_readAll_41 (by decide) (fun c_34 => ?_) (fun c_34 => ?_)
        · have htk : tkI (x 4) t g9.1.1 ≠ 0 := fun z => c_34 (hN9.2.1.trans z)
          have hgo : g9.2.1 = 0 ∨ tkI (x 4) t g9.1.1 ≠ 0 := Or.inr htk
          refine lv_aload_n hx hb dX8_readAll_53 rfl (lv_at hl 0 rfl) ?_
          refine x_if (w := (wM G B)) (va_runV (As := []) (rest := []) ⟨hx, hb, hml, hown, hts⟩ (c_X8_readMill (l := l) (G := G) (B := B) (hW := hW) (x := u1) (f := (x 4)) (t := t) (s := g9.1) (c := g9.2.1) (hf := h49) (ht9 := hT9) (ht400 := ht400) (hs0 := hz9) (hNT := hN9) (hpt := hpt9) (hc := hc0) (hc8 := hc8)) (cwV 0 hts gX8_readAll_X8_readMill rfl rfl rfl (by decide +kernel) ⟨Nat.le_of_ble_eq_true rfl, Nat.le_of_ble_eq_true rfl⟩) (x_pv (w := (wM G B)) (a := 0) hW hX hK hE hS [] (Nat.le_of_ble_eq_true rfl) (shM_0 (G := G) (B := B)) rfl) rfl rfl hl.1 rfl (lv_room (Nat.le_of_ble_eq_true rfl)) dX8_readAll_54 ⟨Nat.zero_le _, Nat.zero_le _⟩) hS (fun r_37 x_38 H_35 lo_36 h_54 hX hS => ?_)
          try dsimp only at h_54
          rw [mlS_ag hAG] at h_54
          have hG54 : NG x x_38 := hG9.tr h_54.2.2.1
          have hT54 : x_38 0 4 = nI t := (hG54.2 4 (by decide) (by decide) (by decide) (by decide) (by decide) (by decide)).trans ht9
          have h454 : x_38 4 = x 4 := hG54.1 4 (by decide) (by decide)
          have hR54 : rdF (x 4) t = mlRun (x 4) t (8 - g9.2.1) (mlNx (x 4) t g9) := rd_go hRF hgo hz9 hc8
          refine lv_if_ne (tgt := 62) hx hb dX8_readAll_57 (by decide) (fun c_39 => ?_) (fun c_39 => ?_)
          · have hz54 : (mlNx (x 4) t g9).1.2 = 0 := num_t h_54.1 c_39
            refine lv_aload_n hx hb dX8_readAll_62 rfl (lv_at hl 0 rfl) ?_
            refine x_vf (w := (wM G B)) (va_runV (As := []) (rest := []) ⟨hx, hb, hml, hown, hts⟩ (c_X8_nextToken (l := l) (G := G) (B := B) (hW := hW) (x := x_38) (t := t) (p := (mlNx (x 4) t g9).1.1) (ht9 := hT54) (ht400 := ht400) (hp := (h_54.2.1.2.2 hz54)) (hpt := (mlNx_le hpt9))) (cwV 0 hts gX8_readAll_X8_nextToken rfl rfl rfl (by decide +kernel) ⟨Nat.le_of_ble_eq_true rfl, Nat.le_of_ble_eq_true rfl⟩) (x_pv (w := (wM G B)) (a := 0) hW hX hK hE hS [] (Nat.le_of_ble_eq_true rfl) (shM_0 (G := G) (B := B)) rfl) rfl rfl hl.1 rfl (lv_room (Nat.le_of_ble_eq_true rfl)) dX8_readAll_63 ⟨Nat.zero_le _, Nat.zero_le _⟩) hS (fun x_42 H_40 lo_41 h_63 hX hS => ?_)
            try dsimp only at h_63
            rw [h454] at h_63
            refine lv_goto (tgt := 37) hx hb dX8_readAll_66 (by decide) ?_
            have hq54 := h_54.2.2.2 hz54
            have hcN : (mlNx (x 4) t g9).2.1 ≤ 8 := hq54.1
            have hN1 : (mlNx (x 4) t g9).2.1 = g9.2.1 + 1 := rfl
            have h863 : x_42 8 = mlW (x 4) t g9.1 g9.2.1 (u1 8) := by rw [h_63.1.1 8 (by decide)]; exact hq54.2
            have hc63 : x_42 8 0 = nI (mlNx (x 4) t g9).2.1 := by rw [h863]; exact mlRow_n
            have hA63 : AG (mlNx (x 4) t g9).2.1 (x_42 8) (mlNx (x 4) t g9).2.2 := by rw [h863]; exact mlW_ag hq54.1 hAG
            have hRN := rd_nx hRF hgo hz9 hc8
            have hq55 := hq54.1
            exact ih_37 _ (by omega) (mlNx (x 4) t g9) (x_42) rfl ⟨hcN, hz54, mlNx_le hpt9, hG54.nf h_63.1, h_63.2, hc63, hA63, hRN⟩ _ _ hX hS ls (lv_sub hl [0] rfl)
          · have hn54 : (mlNx (x 4) t g9).1.2 ≠ 0 := num_f h_54.1 c_39
            have hE9 : rdF (x 4) t = mlNx (x 4) t g9 := hR54.trans (mlRun_w hn54 _)
            refine lv_iconst (v := 0) hx hb dX8_readAll_60 (by decide) ?_
            rw [← hQ]
            refine x_zret (v := 0) (ty := .boolean) hx hb hr rfl hX hS hlocks dX8_readAll_61 ?_
            rw [hE9]
            exact ⟨by rw [decide_eq_false hn54]; rfl, hG54, fun _ => ⟨h_54.2.1.1, h_54.2.1.2.1 hn54⟩, fun z => absurd z hn54⟩
        · have htk0 : tkI (x 4) t g9.1.1 = 0 := hN9.2.1.symm.trans c_34
          refine lv_aload_n hx hb dX8_readAll_44 rfl (lv_at hl 0 rfl) ?_
          refine x_get (w := (wM G B)) (a := 0) (v := .ref (B + (8))) hx hb hts iX8_readAll_X8 hown hK hX (Nat.le_of_ble_eq_true rfl) (shM_0 (G := G) (B := B)) rfl 10 (by decide) (hts _ kX8_readAll_31) (fun _ h9 => h9) rfl dX8_readAll_45 ?_
          refine lv_iconst (v := 0) hx hb dX8_readAll_48 (by decide) ?_
          refine x_iald (w := (wM G B)) (a := 8) (n := 93) (j := 0) hx hb hK hX (Nat.le_of_ble_eq_true rfl) (shM_a (G := G) (B := B) (a := 8) (f := u1 (8)) (by decide)) rfl (by decide) (by decide) dX8_readAll_49 ?_
          refine lv_if_ne (tgt := 69) hx hb dX8_readAll_50 (by decide) (fun c_43 => ?_) (fun c_43 => ?_)
          · have nc_43 : ¬ g9.2.1 = 0 := fun q => c_43 ((n_eq (a := g9.2.1) (b := 0) hc0 rfl (by omega) (by omega)).mpr q)
            have hE9 : rdF (x 4) t = g9 := (hRF.2 nc_43).trans (mlRun_e htk0 _)
            refine lv_iconst (v := 1) hx hb dX8_readAll_69 (by decide) ?_
            rw [← hQ]
            refine x_zret (v := 1) (ty := .boolean) hx hb hr rfl hX hS hlocks dX8_readAll_70 ?_
            rw [hE9]
            exact ⟨by rw [decide_eq_true hz9]; rfl, hG9, fun z => absurd hz9 z, fun _ => ⟨hc8, hc0, hAG⟩⟩
          · have nc_43 := (n_eq (a := g9.2.1) (b := 0) hc0 rfl (by omega) (by omega)).mp c_43
            have hgo : g9.2.1 = 0 ∨ tkI (x 4) t g9.1.1 ≠ 0 := Or.inl nc_43
            refine lv_aload_n hx hb dX8_readAll_53 rfl (lv_at hl 0 rfl) ?_
            refine x_if (w := (wM G B)) (va_runV (As := []) (rest := []) ⟨hx, hb, hml, hown, hts⟩ (c_X8_readMill (l := l) (G := G) (B := B) (hW := hW) (x := u1) (f := (x 4)) (t := t) (s := g9.1) (c := g9.2.1) (hf := h49) (ht9 := hT9) (ht400 := ht400) (hs0 := hz9) (hNT := hN9) (hpt := hpt9) (hc := hc0) (hc8 := hc8)) (cwV 0 hts gX8_readAll_X8_readMill rfl rfl rfl (by decide +kernel) ⟨Nat.le_of_ble_eq_true rfl, Nat.le_of_ble_eq_true rfl⟩) (x_pv (w := (wM G B)) (a := 0) hW hX hK hE hS [] (Nat.le_of_ble_eq_true rfl) (shM_0 (G := G) (B := B)) rfl) rfl rfl hl.1 rfl (lv_room (Nat.le_of_ble_eq_true rfl)) dX8_readAll_54 ⟨Nat.zero_le _, Nat.zero_le _⟩) hS (fun r_46 x_47 H_44 lo_45 h_54 hX hS => ?_)
            try dsimp only at h_54
            rw [mlS_ag hAG] at h_54
            have hG54 : NG x x_47 := hG9.tr h_54.2.2.1
            have hT54 : x_47 0 4 = nI t := (hG54.2 4 (by decide) (by decide) (by decide) (by decide) (by decide) (by decide)).trans ht9
            have h454 : x_47 4 = x 4 := hG54.1 4 (by decide) (by decide)
            have hR54 : rdF (x 4) t = mlRun (x 4) t (8 - g9.2.1) (mlNx (x 4) t g9) := rd_go hRF hgo hz9 hc8
            refine lv_if_ne (tgt := 62) hx hb dX8_readAll_57 (by decide) (fun c_48 => ?_) (fun c_48 => ?_)
            · have hz54 : (mlNx (x 4) t g9).1.2 = 0 := num_t h_54.1 c_48
              refine lv_aload_n hx hb dX8_readAll_62 rfl (lv_at hl 0 rfl) ?_
              refine x_vf (w := (wM G B)) (va_runV (As := []) (rest := []) ⟨hx, hb, hml, hown, hts⟩ (c_X8_nextToken (l := l) (G := G) (B := B) (hW := hW) (x := x_47) (t := t) (p := (mlNx (x 4) t g9).1.1) (ht9 := hT54) (ht400 := ht400) (hp := (h_54.2.1.2.2 hz54)) (hpt := (mlNx_le hpt9))) (cwV 0 hts gX8_readAll_X8_nextToken rfl rfl rfl (by decide +kernel) ⟨Nat.le_of_ble_eq_true rfl, Nat.le_of_ble_eq_true rfl⟩) (x_pv (w := (wM G B)) (a := 0) hW hX hK hE hS [] (Nat.le_of_ble_eq_true rfl) (shM_0 (G := G) (B := B)) rfl) rfl rfl hl.1 rfl (lv_room (Nat.le_of_ble_eq_true rfl)) dX8_readAll_63 ⟨Nat.zero_le _, Nat.zero_le _⟩) hS (fun x_51 H_49 lo_50 h_63 hX hS => ?_)
              try dsimp only at h_63
              rw [h454] at h_63
              refine lv_goto (tgt := 37) hx hb dX8_readAll_66 (by decide) ?_
              have hq54 := h_54.2.2.2 hz54
              have hcN : (mlNx (x 4) t g9).2.1 ≤ 8 := hq54.1
              have hN1 : (mlNx (x 4) t g9).2.1 = g9.2.1 + 1 := rfl
              have h863 : x_51 8 = mlW (x 4) t g9.1 g9.2.1 (u1 8) := by rw [h_63.1.1 8 (by decide)]; exact hq54.2
              have hc63 : x_51 8 0 = nI (mlNx (x 4) t g9).2.1 := by rw [h863]; exact mlRow_n
              have hA63 : AG (mlNx (x 4) t g9).2.1 (x_51 8) (mlNx (x 4) t g9).2.2 := by rw [h863]; exact mlW_ag hq54.1 hAG
              have hRN := rd_nx hRF hgo hz9 hc8
              have hq55 := hq54.1
              exact ih_37 _ (by omega) (mlNx (x 4) t g9) (x_51) rfl ⟨hcN, hz54, mlNx_le hpt9, hG54.nf h_63.1, h_63.2, hc63, hA63, hRN⟩ _ _ hX hS ls (lv_sub hl [0] rfl)
            · have hn54 : (mlNx (x 4) t g9).1.2 ≠ 0 := num_f h_54.1 c_48
              have hE9 : rdF (x 4) t = mlNx (x 4) t g9 := hR54.trans (mlRun_w hn54 _)
              refine lv_iconst (v := 0) hx hb dX8_readAll_60 (by decide) ?_
              rw [← hQ]
              refine x_zret (v := 0) (ty := .boolean) hx hb hr rfl hX hS hlocks dX8_readAll_61 ?_
              rw [hE9]
              exact ⟨by rw [decide_eq_false hn54]; rfl, hG54, fun _ => ⟨h_54.2.1.1, h_54.2.1.2.1 hn54⟩, fun z => absurd z hn54⟩
    exact L_31 _ (rd0 (x 4) t) (x_30) rfl ⟨Nat.zero_le _, hz0, hpl, hG1.nf h_34.1, h_34.2, hi0, hiA, ⟨fun _ => rfl, fun z => absurd rfl z⟩⟩ _ _ hX hS ls (lv_sub hl [0] rfl)
  · have hn0 : (lw5 (x 4) t (0, 0)).2 ≠ 0 := num_f h_25.1 c_27
    refine lv_iconst (v := 0) hx hb dX8_readAll_31 (by decide) ?_
    rw [← hQ]
    refine x_zret (v := 0) (ty := .boolean) hx hb hr rfl hX hS hlocks dX8_readAll_32 ?_
    have e9 : (rdF (x 4) t).1 = lw5 (x 4) t (0, 0) := rdF_law hn0
    rw [e9]
    exact ⟨by rw [decide_eq_false hn0]; rfl, hG1, fun _ => ⟨h_25.2.1.1, h_25.2.1.2.1 hn0⟩, fun z => absurd z hn0⟩

theorem kX8_ridge_91 : (.fieldLink RX8 91 "WindTakenModel" "begins" "I" : Cond) ∈ wsX8_ridge := by decide +kernel
theorem iX8_ridge_X8 : ∀ w ∈ wsX80, w ∈ wsX8_ridge := by decide +kernel
theorem kX8_ridge_82 : (.fieldLink RX8 82 "WindTakenModel" "tapeLong" "I" : Cond) ∈ wsX8_ridge := by decide +kernel
theorem kX8_ridge_31 : (.fieldLink RX8 31 "WindTakenModel" "read" "[I" : Cond) ∈ wsX8_ridge := by decide +kernel
theorem kX8_ridge_22 : (.fieldLink RX8 22 "WindTakenModel" "now" "[I" : Cond) ∈ wsX8_ridge := by decide +kernel
theorem kX8_ridge_124 : (.fieldLink RX8 124 "WindTakenModel" "wrong" "I" : Cond) ∈ wsX8_ridge := by decide +kernel
theorem kX8_ridge_166 : (.fieldLink RX8 166 "WindTakenModel" "fault" "I" : Cond) ∈ wsX8_ridge := by decide +kernel
theorem kX8_ridge_169 : (.constant RX8 169 (-1000100) : Cond) ∈ wsX8_ridge := by decide +kernel
abbrev rmX8_ridge : Room := { frames := 5, cells := 0, slots := 0, locals := 113 }
set_option maxHeartbeats 4000000 in
set_option maxRecDepth 100000 in
theorem c_X8_ridge (l : Launch) (G : GG) (B : Nat) (hW : WOK (wM G B)) (x : Mem) {t : Nat} (ht9 : x 0 4 = nI t) (ht400 : t ≤ 400) : Met l yX8_ridge wsX8_ridge rmX8_ridge (XP G (wM G B) [.ref (B + (0))] x) (va_Qi (fun r u => ((rdF (x 4) t).1.2 = 0 → r = nI (rdF (x 4) t).2.1 ∧ (rdF (x 4) t).2.1 ≤ 8 ∧ u 5 0 = nI (rdF (x 4) t).2.1 ∧ AG (rdF (x 4) t).2.1 (u 5) (rdF (x 4) t).2.2 ∧ u 0 6 = x 0 6) ∧ ((rdF (x 4) t).1.2 ≠ 0 → r = -1000100 - nI (tsN (x 4) t (rdF (x 4) t).1.1) ∧ u 5 = x 5 ∧ u 0 6 = (rdF (x 4) t).1.2) ∧ u 0 4 = 0 ∧ (∀ a, a ≠ 0 → a ≠ 5 → a ≠ 8 → u a = x a) ∧ u 0 3 = x 0 3 ∧ u 0 12 = x 0 12) (XB G (wM G B)) (blkA B (B + 13))) 0 0 (blkA B (B + 13)) := by
  refine Met.ofW (cc := cX8_ridge) (maxL := 3) (ret := (some .int)) (by decide) rfl ?_
  intro pp ee ss mm aa bb mt cd s1 Bd hml hv
  obtain ⟨hae, hX, hK, hE⟩ := hv
  have hx := Bd.exec
  have hb := Bd.bytes
  have hr := Bd.returns
  have hts := atoms_spec (ws := wsX8_ridge) Bd.pre
  have hown : ss.vm.findClass RX8 = some mm.cls := findClass_of_methodNamed Bd.named
  have hlocks := Bd.notSynchronized
  have hS : va_S (blkA B (B + 13)) ss.heap ss.heap [] := va_S.rf
  have hl := lv_entry ([.ref (B + (0))]) (n := 3) (Nat.le_of_ble_eq_true rfl)
  subst hae
  rw [lg_entry_eq]
  generalize (lg_sl ([.ref (B + (0))]) ++ List.replicate (3 - (lg_sl ([.ref (B + (0))])).length) Slot.unset).toArray = ls at hl ⊢
  have hl : lv_has ls 3 [(0, .ref (B + (0)))] := hl
  generalize ([.ref (B + (0))] : List Value).toArray = aa at hts ⊢
  show W pp l ee rmX8_ridge ss mm aa bb mt cd ss.heap [] 0 0 _ (F0 mm 0 ls [])
  generalize hQ : MQ bb (va_Qi (fun r u => ((rdF (x 4) t).1.2 = 0 → r = nI (rdF (x 4) t).2.1 ∧ (rdF (x 4) t).2.1 ≤ 8 ∧ u 5 0 = nI (rdF (x 4) t).2.1 ∧ AG (rdF (x 4) t).2.1 (u 5) (rdF (x 4) t).2.2 ∧ u 0 6 = x 0 6) ∧ ((rdF (x 4) t).1.2 ≠ 0 → r = -1000100 - nI (tsN (x 4) t (rdF (x 4) t).1.1) ∧ u 5 = x 5 ∧ u 0 6 = (rdF (x 4) t).1.2) ∧ u 0 4 = 0 ∧ (∀ a, a ≠ 0 → a ≠ 5 → a ≠ 8 → u a = x a) ∧ u 0 3 = x 0 3 ∧ u 0 12 = x 0 12) (XB G (wM G B)) (blkA B (B + 13))) aa ss 0 0 (blkA B (B + 13)) = Q
  refine lv_aload_n hx hb dX8_ridge_0 rfl (lv_at hl 0 rfl) ?_
  refine x_if (w := (wM G B)) (va_runV (As := []) (rest := []) ⟨hx, hb, hml, hown, hts⟩ (c_X8_readAll (l := l) (G := G) (B := B) (hW := hW) (x := x) (t := t) (ht9 := ht9) (ht400 := ht400)) (cwV 0 hts gX8_ridge_X8_readAll rfl rfl rfl (by decide +kernel) ⟨Nat.le_of_ble_eq_true rfl, Nat.le_of_ble_eq_true rfl⟩) (x_pv (w := (wM G B)) (a := 0) hW hX hK hE hS [] (Nat.le_of_ble_eq_true rfl) (shM_0 (G := G) (B := B)) rfl) rfl rfl hl.1 rfl (lv_room (Nat.le_of_ble_eq_true rfl)) dX8_ridge_1 ⟨Nat.zero_le _, Nat.zero_le _⟩) hS (fun r_3 x_4 H_1 lo_2 h_1 hX hS => ?_)
  try dsimp only at h_1
  refine lv_istore_n (lv' := [(1, .int (r_3)), (0, .ref (B + (0)))]) hx hb dX8_ridge_4 rfl hl (by decide) rfl (fun ls hl => ?_)
  refine lv_aload_n hx hb dX8_ridge_5 rfl (lv_at hl 1 rfl) ?_
  refine x_get (w := (wM G B)) (a := 0) (v := .int (x_4 (0) 14)) hx hb hts iX8_ridge_X8 hown hK hX (Nat.le_of_ble_eq_true rfl) (shM_0 (G := G) (B := B)) rfl 14 (by decide) (hts _ kX8_ridge_91) (fun _ h9 => h9) rfl dX8_ridge_6 ?_
  refine lv_istore_n (lv' := [(2, .int (x_4 (0) 14)), (1, .int (r_3)), (0, .ref (B + (0)))]) hx hb dX8_ridge_9 rfl hl (by decide) rfl (fun ls hl => ?_)
  refine lv_aload_n hx hb dX8_ridge_10 rfl (lv_at hl 2 rfl) ?_
  refine lv_iconst (v := 0) hx hb dX8_ridge_11 (by decide) ?_
  refine x_put (w := (wM G B)) (a := 0) (v := 0) (ty := .int) hx hb hts iX8_ridge_X8 tyX8 tyX8_ok nmX8 hown hK hW hX hS (Nat.le_of_ble_eq_true rfl) (shM_0 (G := G) (B := B)) rfl 4 (by decide) (hts _ kX8_ridge_82) (fun _ h9 => h9) rfl (by decide +kernel) rfl rfl (Nat.le_of_ble_eq_true rfl) (shM_0 (G := G) (B := B)) dX8_ridge_12 (fun H_6 lo_7 hX hS => ?_)
  obtain ⟨x_5, ex_5⟩ : ∃ z, z = mst x_4 (0) 4 (0) := ⟨_, rfl⟩
  rw [← ex_5] at hX
  have z_8 : x_5 (0) 4 = nI (0) := by rw [ex_5, mst_self]; first | done | exact rfl
  refine lv_iload_n hx hb dX8_ridge_15 rfl (lv_at hl 1 rfl) ?_
  refine lv_if_ne (tgt := 32) hx hb dX8_ridge_16 (by decide) (fun c_9 => ?_) (fun c_9 => ?_)
  · have hz1 : (rdF (x 4) t).1.2 = 0 := num_t h_1.1 c_9
    refine lv_aload_n hx hb dX8_ridge_32 rfl (lv_at hl 2 rfl) ?_
    refine x_get (w := (wM G B)) (a := 0) (v := .ref (B + (8))) hx hb hts iX8_ridge_X8 hown hK hX (Nat.le_of_ble_eq_true rfl) (shM_0 (G := G) (B := B)) rfl 10 (by decide) (hts _ kX8_ridge_31) (fun _ h9 => h9) rfl dX8_ridge_33 ?_
    refine lv_aload_n hx hb dX8_ridge_36 rfl (lv_at hl 2 rfl) ?_
    refine x_get (w := (wM G B)) (a := 0) (v := .ref (B + (5))) hx hb hts iX8_ridge_X8 hown hK hX (Nat.le_of_ble_eq_true rfl) (shM_0 (G := G) (B := B)) rfl 7 (by decide) (hts _ kX8_ridge_22) (fun _ h9 => h9) rfl dX8_ridge_37 ?_
    refine x_vf (w := (wM G B)) (va_runS (As := [.ref (B + (8)), .ref (B + (5))]) (rest := []) ⟨hx, hb, hml, hown, hts⟩ (c_copyRow_85 (l := l) (G := G) (B := B) (hW := hW) (x := x_5) ) (va_cwS 2 hts gX8_ridge_X8_copyRow rfl rfl rfl (by decide +kernel) ⟨Nat.le_of_ble_eq_true rfl, Nat.le_of_ble_eq_true rfl⟩) (x_ps (w := (wM G B)) hW hX hK hE hS [.ref (B + (8)), .ref (B + (5))]) rfl rfl hl.1 rfl (lv_room (Nat.le_of_ble_eq_true rfl)) dX8_ridge_40 ⟨Nat.zero_le _, Nat.zero_le _⟩) hS (fun x_12 H_10 lo_11 h_40 hX hS => ?_)
    try dsimp only at h_40
    refine lv_aload_n hx hb dX8_ridge_43 rfl (lv_at hl 2 rfl) ?_
    refine x_get (w := (wM G B)) (a := 0) (v := .ref (B + (5))) hx hb hts iX8_ridge_X8 hown hK hX (Nat.le_of_ble_eq_true rfl) (shM_0 (G := G) (B := B)) rfl 7 (by decide) (hts _ kX8_ridge_22) (fun _ h9 => h9) rfl dX8_ridge_44 ?_
    refine lv_iconst (v := 0) hx hb dX8_ridge_47 (by decide) ?_
    refine x_iald (w := (wM G B)) (a := 5) (n := 93) (j := 0) hx hb hK hX (Nat.le_of_ble_eq_true rfl) (shM_a (G := G) (B := B) (a := 5) (f := x_12 (5)) (by decide)) rfl (by decide) (by decide) dX8_ridge_48 ?_
    rw [← hQ]
    refine x_iret (v := x_12 (5) 0) hx hb hr hX hS hlocks dX8_ridge_49 ?_
    have q9 := h_1.2.2.2 hz1
    refine ⟨fun _ => ⟨?_, q9.1, ?_, ?_, ?_⟩, fun z => absurd hz1 z, ?_, fun a a1 a2 a3 => ?_, ?_, ?_⟩
    · rw [h_40.2 0 (by decide), ex_5, mst_ne (by decide)]; exact q9.2.1
    · rw [h_40.2 0 (by decide), ex_5, mst_ne (by decide)]; exact q9.2.1
    · exact q9.2.2.c93 q9.1 (fun k hk => by rw [h_40.2 k hk, ex_5, mst_ne (by decide)])
    · rw [h_40.1 0 (by decide), ex_5, mst_eq, upd_ne (by decide)]; exact h_1.2.1.2 6 (by decide) (by decide) (by decide) (by decide) (by decide) (by decide)
    · rw [h_40.1 0 (by decide), ex_5, mst_self]
    · rw [h_40.1 a a2, ex_5, mst_ne a1]; exact h_1.2.1.1 a a1 a3
    · rw [h_40.1 0 (by decide), ex_5, mst_eq, upd_ne (by decide)]; exact h_1.2.1.2 3 (by decide) (by decide) (by decide) (by decide) (by decide) (by decide)
    · rw [h_40.1 0 (by decide), ex_5, mst_eq, upd_ne (by decide)]; exact h_1.2.1.2 12 (by decide) (by decide) (by decide) (by decide) (by decide) (by decide)
  · have hn1 : (rdF (x 4) t).1.2 ≠ 0 := num_f h_1.1 c_9
    refine lv_aload_n hx hb dX8_ridge_19 rfl (lv_at hl 2 rfl) ?_
    refine lv_aload_n hx hb dX8_ridge_20 rfl (lv_at hl 2 rfl) ?_
    refine x_get (w := (wM G B)) (a := 0) (v := .int (x_5 (0) 18)) hx hb hts iX8_ridge_X8 hown hK hX (Nat.le_of_ble_eq_true rfl) (shM_0 (G := G) (B := B)) rfl 18 (by decide) (hts _ kX8_ridge_124) (fun _ h9 => h9) rfl dX8_ridge_21 ?_
    refine x_put (w := (wM G B)) (a := 0) (v := x_5 (0) 18) (ty := .int) hx hb hts iX8_ridge_X8 tyX8 tyX8_ok nmX8 hown hK hW hX hS (Nat.le_of_ble_eq_true rfl) (shM_0 (G := G) (B := B)) rfl 6 (by decide) (hts _ kX8_ridge_166) (fun _ h9 => h9) rfl (by decide +kernel) rfl rfl (Nat.le_of_ble_eq_true rfl) (shM_0 (G := G) (B := B)) dX8_ridge_24 (fun H_14 lo_15 hX hS => ?_)
    obtain ⟨x_13, ex_13⟩ : ∃ z, z = mst x_5 (0) 6 (x_5 (0) 18) := ⟨_, rfl⟩
    rw [← ex_13] at hX
    have z_16 : x_13 (0) 4 = nI (0) := by rw [ex_13, mst_eq, upd_ne (by first | decide | omega)]; exact z_8
    refine lv_ldc (v := (-1000100)) hx hb hown (hts _ kX8_ridge_169) dX8_ridge_27 ?_
    refine lv_iload_n hx hb dX8_ridge_29 rfl (lv_at hl 0 rfl) ?_
    refine lv_isub hx hb dX8_ridge_30 ?_
    rw [← hQ]
    refine x_iret (v := ((-1000100)) - (x_4 (0) 14)) hx hb hr hX hS hlocks dX8_ridge_31 ?_
    refine ⟨fun z => absurd z hn1, fun _ => ⟨?_, ?_, ?_⟩, ?_, fun a a1 a2 a3 => ?_, ?_, ?_⟩
    · rw [(h_1.2.2.1 hn1).2]
    · rw [ex_13, mst_ne (by decide), ex_5, mst_ne (by decide)]; exact h_1.2.1.1 5 (by decide) (by decide)
    · rw [ex_13, mst_self, ex_5, mst_eq, upd_ne (by decide)]; exact (h_1.2.2.1 hn1).1
    · rw [ex_13, mst_eq, upd_ne (by decide), ex_5, mst_self]
    · rw [ex_13, mst_ne a1, ex_5, mst_ne a1]; exact h_1.2.1.1 a a1 a3
    · rw [ex_13, mst_eq, upd_ne (by decide), ex_5, mst_eq, upd_ne (by decide)]; exact h_1.2.1.2 3 (by decide) (by decide) (by decide) (by decide) (by decide) (by decide)
    · rw [ex_13, mst_eq, upd_ne (by decide), ex_5, mst_eq, upd_ne (by decide)]; exact h_1.2.1.2 12 (by decide) (by decide) (by decide) (by decide) (by decide) (by decide)
