def PT_X7_ask (x : Mem) (m : Int32) (w : Int32) (n : Nat) (nw : Nat → Int32) (r : Int32) (u : Mem) : Prop := (if (decide (0 ≤ m) && decide (m < x 5 1)) = false then (r = (-1000001) ∧ u = x) else (if (decide (((0 : Int32)) ≤ w) && decide (w ≤ ((1 : Int32)))) = true then (r = (if w = 0 then sizeV (x (5 + 1 + 1 + tn m)) (tn (x (5 + 1 + 1 + (tn m)) 1)) else markV (x (5 + 1 + 1 + tn m)) (tn (x (5 + 1 + 1 + (tn m)) 1))) ∧ u = pushL (mst x 27 1 0) 0 (if w = 0 then sizeT (tn (x (5 + 1 + 1 + (tn m)) 1)) else markT (tn (x (5 + 1 + 1 + (tn m)) 1)))) else (r = (-1000001) ∧ u = x)))
theorem kX7_ask_25 : (.fieldLink RX7 25 "WindTaken" "ridge" "LWindTaken$Ridge;" : Cond) ∈ wsX7_ask := by decide +kernel
theorem iX7_ask_X7 : ∀ w ∈ wsX70, w ∈ wsX7_ask := by decide +kernel
theorem kX7_ask_59 : (.constant RX7 59 (-1000001) : Cond) ∈ wsX7_ask := by decide +kernel
theorem kX7_ask_135 : (.fieldLink RX7 135 "WindTaken$Ridge" "mills" "[LWindTaken$Mill;" : Cond) ∈ wsX7_ask := by decide +kernel
theorem iX7_ask_X3 : ∀ w ∈ wsX30, w ∈ wsX7_ask := by decide +kernel
theorem kX7_ask_45 : (.fieldLink RX7 45 "WindTaken" "trace" "LWindTaken$Trace;" : Cond) ∈ wsX7_ask := by decide +kernel
theorem kX7_ask_269 : (.fieldLink RX7 269 "WindTaken$Trace" "length" "I" : Cond) ∈ wsX7_ask := by decide +kernel
theorem iX7_ask_X6 : ∀ w ∈ wsX60, w ∈ wsX7_ask := by decide +kernel
abbrev rmX7_ask : Room := { frames := 8, cells := 0, slots := 0, locals := 234 }
set_option maxHeartbeats 4000000 in
set_option maxRecDepth 100000 in
theorem c_X7_ask (l : Launch) (G : GG) (B : Nat) (tt : Nat → Nat) (hW : WOK (wX G B tt)) (x : Mem) (m : Int32) (w : Int32) {n : Nat} {nw : Nat → Int32} (hR : RR n x 5 nw) (hkk : ∀ j, j < n → ∃ k, 1 ≤ k ∧ k < 6 ∧ sK nw j = nI k) : Met l yX7_ask wsX7_ask rmX7_ask (XP G (wX G B tt) [.ref (B + (0)), .int (m), .int (w)] x) (va_Qi (fun r u => PT_X7_ask x m w n nw r u) (XB G (wX G B tt)) (blkA B (B + 117))) 0 0 (blkA B (B + 117)) := by
  refine Met.ofW (cc := cX7_ask) (maxL := 4) (ret := (some .int)) (by decide) rfl ?_
  intro pp ee ss mm aa bb mt cd s1 Bd hml hv
  obtain ⟨hae, hX, hK, hE⟩ := hv
  have hx := Bd.exec
  have hb := Bd.bytes
  have hr := Bd.returns
  have hts := atoms_spec (ws := wsX7_ask) Bd.pre
  have hown : ss.vm.findClass RX7 = some mm.cls := findClass_of_methodNamed Bd.named
  have hlocks := Bd.notSynchronized
  have hS : va_S (blkA B (B + 117)) ss.heap ss.heap [] := va_S.rf
  have hl := lv_entry ([.ref (B + (0)), .int (m), .int (w)]) (n := 4) (Nat.le_of_ble_eq_true rfl)
  subst hae
  rw [lg_entry_eq]
  generalize (lg_sl ([.ref (B + (0)), .int (m), .int (w)]) ++ List.replicate (4 - (lg_sl ([.ref (B + (0)), .int (m), .int (w)])).length) Slot.unset).toArray = ls at hl ⊢
  have hl : lv_has ls 4 [(0, .ref (B + (0))), (1, .int (m)), (2, .int (w))] := hl
  generalize ([.ref (B + (0)), .int (m), .int (w)] : List Value).toArray = aa at hts ⊢
  show W pp l ee rmX7_ask ss mm aa bb mt cd ss.heap [] 0 0 _ (F0 mm 0 ls [])
  generalize hQ : MQ bb (va_Qi (fun r u => PT_X7_ask x m w n nw r u) (XB G (wX G B tt)) (blkA B (B + 117))) aa ss 0 0 (blkA B (B + 117)) = Q
  have hn8 := hR.1
  refine lv_aload_n hx hb dX7_ask_0 rfl (lv_at hl 0 rfl) ?_
  refine x_get (w := (wX G B tt)) (a := 0) (v := .ref (B + (5))) hx hb hts iX7_ask_X7 hown hK hX (Nat.le_of_ble_eq_true rfl) (shX_mn (G := G) (B := B)) rfl 2 (by decide) (hts _ kX7_ask_25) (fun _ h9 => h9) rfl dX7_ask_1 ?_
  refine lv_iload_n hx hb dX7_ask_4 rfl (lv_at hl 1 rfl) ?_
  refine x_ip (w := (wX G B tt)) (x := x) (v := bI (decide (0 ≤ m) && decide (m < x 5 1))) (va_runV (As := [.int (m)]) (rest := []) ⟨hx, hb, hml, hown, hts⟩ (c_X3_has (l := l) (G := G) (B := B) (tt := tt) (hW := hW) (x := x) (ρ := 5) (hρ := rg5) (v := m)) (cwV 1 hts gX7_ask_X3_has rfl rfl rfl (by decide +kernel) ⟨Nat.le_of_ble_eq_true rfl, Nat.le_of_ble_eq_true rfl⟩) (x_pv (w := (wX G B tt)) (a := 5) hW hX hK hE hS [.int (m)] (rg_lt rg5) (shX_ri (G := G) (B := B) rg5) rfl) rfl rfl hl.1 rfl (lv_room (Nat.le_of_ble_eq_true rfl)) dX7_ask_5 ⟨Nat.zero_le _, Nat.zero_le _⟩) hS (fun H_1 lo_2 hX hS => ?_)
  refine x_ifeq (tgt := 20) hx hb dX7_ask_8 (by decide) (fun c_3 => ?_) (fun c_3 => ?_)
  · refine lv_ldc (v := (-1000001)) hx hb hown (hts _ kX7_ask_59) dX7_ask_20 ?_
    rw [← hQ]
    refine x_iret (v := (-1000001)) hx hb hr hX hS hlocks dX7_ask_22 ?_
    show PT_X7_ask _ _ _ _ _ _ _
    unfold PT_X7_ask
    rw [if_pos c_3]
    exact ⟨rfl, rfl⟩
  · obtain ⟨hme, hmn⟩ := hasM hR.cnt hn8 c_3
    obtain ⟨kk, hkk1, hkk6, hkke⟩ := hkk (tn m) hmn
    have hkx := hR.kd hmn
    rw [hkke] at hkx
    have hkt : tn (x (5 + 1 + 1 + (tn m)) 1) = kk := by rw [hkx]; exact tn_nI (by omega)
    have hkx6 : (tn (x (5 + 1 + 1 + (tn m)) 1)) < 6 := by rw [hkt]; exact hkk6
    have hkx0 : 1 ≤ (tn (x (5 + 1 + 1 + (tn m)) 1)) := by rw [hkt]; exact hkk1
    rw [← hkt] at hkx
    refine lv_iload_n hx hb dX7_ask_11 rfl (lv_at hl 2 rfl) ?_
    refine lv_iconst (v := 0) hx hb dX7_ask_12 (by decide) ?_
    refine lv_iconst (v := 1) hx hb dX7_ask_13 (by decide) ?_
    refine x_ip (w := (wX G B tt)) (x := x) (v := bI (decide (((0 : Int32)) ≤ w) && decide (w ≤ ((1 : Int32))))) (va_runS (As := [.int (w), .int (0), .int (1)]) (rest := []) ⟨hx, hb, hml, hown, hts⟩ (c_X7_isWithin (l := l) (G := G) (B := B) (tt := tt) (hW := hW) (x := x) (v := w) (lo := 0) (hi := 1)) (va_cwS 3 hts gX7_ask_X7_isWithin rfl rfl rfl (by decide +kernel) ⟨Nat.le_of_ble_eq_true rfl, Nat.le_of_ble_eq_true rfl⟩) (x_ps (w := (wX G B tt)) hW hX hK hE hS [.int (w), .int (0), .int (1)]) rfl rfl hl.1 rfl (lv_room (Nat.le_of_ble_eq_true rfl)) dX7_ask_14 ⟨Nat.zero_le _, Nat.zero_le _⟩) hS (fun H_4 lo_5 hX hS => ?_)
    refine x_ifne (tgt := 23) hx hb dX7_ask_17 (by decide) (fun c_6 => ?_) (fun c_6 => ?_)
    · refine lv_aload_n hx hb dX7_ask_23 rfl (lv_at hl 0 rfl) ?_
      refine x_get (w := (wX G B tt)) (a := 0) (v := .ref (B + (5))) hx hb hts iX7_ask_X7 hown hK hX (Nat.le_of_ble_eq_true rfl) (shX_mn (G := G) (B := B)) rfl 2 (by decide) (hts _ kX7_ask_25) (fun _ h9 => h9) rfl dX7_ask_24 ?_
      refine x_get (w := (wX G B tt)) (a := 5) (v := .ref (B + (5 + 1))) hx hb hts iX7_ask_X3 hown hK hX (rg_lt rg5) (shX_ri (G := G) (B := B) rg5) rfl 0 (by decide) (hts _ kX7_ask_135) (fun _ h9 => h9) rfl dX7_ask_27 ?_
      refine lv_iload_n hx hb dX7_ask_30 rfl (lv_at hl 1 rfl) ?_
      refine x_aald (w := (wX G B tt)) (a := 5 + 1) (n := 8) (j := tn m) (q := B + (5 + 1 + 1 + (tn m))) (t0 := 2) hx hb hK hX (rg_lt1 rg5) (shX_ma (G := G) (B := B) (f := x (5 + 1)) rg5) rfl hme (by omega) (by decide) rfl dX7_ask_31 ?_
      refine lv_astore_n (lv' := [(3, .ref (B + (5 + 1 + 1 + (tn m)))), (0, .ref (B + (0))), (1, .int (m)), (2, .int (w))]) hx hb dX7_ask_32 rfl hl (by decide) rfl (fun ls hl => ?_)
      refine lv_aload_n hx hb dX7_ask_33 rfl (lv_at hl 1 rfl) ?_
      refine x_get (w := (wX G B tt)) (a := 0) (v := .ref (B + (27))) hx hb hts iX7_ask_X7 hown hK hX (Nat.le_of_ble_eq_true rfl) (shX_mn (G := G) (B := B)) rfl 6 (by decide) (hts _ kX7_ask_45) (fun _ h9 => h9) rfl dX7_ask_34 ?_
      refine lv_iconst (v := 0) hx hb dX7_ask_37 (by decide) ?_
      refine x_put (w := (wX G B tt)) (a := 27) (v := 0) (ty := .int) hx hb hts iX7_ask_X6 tyX6 tyX6_ok nmX6 hown hK hW hX hS (Nat.le_of_ble_eq_true rfl) (shX_tr (G := G) (B := B)) rfl 1 (by decide) (hts _ kX7_ask_269) (fun _ h9 => h9) rfl (by decide +kernel) rfl rfl (Nat.le_of_ble_eq_true rfl) (shX_tr (G := G) (B := B)) dX7_ask_38 (fun H_8 lo_9 hX hS => ?_)
      obtain ⟨x_7, ex_7⟩ : ∃ z, z = mst x (27) 1 (0) := ⟨_, rfl⟩
      rw [← ex_7] at hX
      have z_10 : x_7 (27) 1 = nI (0) := by rw [ex_7, mst_self]; first | done | exact rfl
      refine lv_iload_n hx hb dX7_ask_41 rfl (lv_at hl 3 rfl) ?_
      have hMx : x_7 (5 + 1 + 1 + tn m) = x (5 + 1 + 1 + tn m) := by rw [ex_7]; exact mst_ne (by omega)
      have hkx1 : x_7 (5 + 1 + 1 + tn m) 1 = nI (tn (x (5 + 1 + 1 + (tn m)) 1)) := by rw [hMx]; exact hkx
      have kJ_13 : ∀ (v_12 : Int32) (_ : v_12 = (if w = 0 then (sizeK ((tn (x (5 + 1 + 1 + (tn m)) 1)))) else (markK ((tn (x (5 + 1 + 1 + (tn m)) 1)))))) (H_14 : Heap) (lo_15 : List Loc) (_ : MR G (wX G B tt) x_7 H_14) (_ : va_S (blkA B (B + 117)) ss.heap H_14 lo_15) (ls : Array Slot) (_ : lv_has ls 4 [(3, .ref (B + (5 + 1 + 1 + (tn m)))), (0, .ref (B + (0))), (1, .int (m)), (2, .int (w))]), W pp l ee rmX7_ask ss mm aa bb mt cd H_14 lo_15 0 0 Q (F0 mm 56 ls [.int (v_12)]) := by
        intro v_12 ev_12 H_14 lo_15 hX hS ls hl
        refine lv_aload_n hx hb dX7_ask_56 rfl (lv_at hl 0 rfl) ?_
        refine lv_aload_n hx hb dX7_ask_57 rfl (lv_at hl 1 rfl) ?_
        refine x_get (w := (wX G B tt)) (a := 0) (v := .ref (B + (27))) hx hb hts iX7_ask_X7 hown hK hX (Nat.le_of_ble_eq_true rfl) (shX_mn (G := G) (B := B)) rfl 6 (by decide) (hts _ kX7_ask_45) (fun _ h9 => h9) rfl dX7_ask_58 ?_
        refine lv_iconst (v := 0) hx hb dX7_ask_61 (by decide) ?_
        have hbd : v_12 = if w = 0 then sizeK (tn (x (5 + 1 + 1 + (tn m)) 1)) else markK (tn (x (5 + 1 + 1 + (tn m)) 1)) := by rw [ev_12]
        have hk0 : x_7 27 1 = nI 0 := by rw [ex_7, mst_self]; rfl
        refine x_if (w := (wX G B tt)) (va_runS (As := [.int (v_12), .ref (B + (5 + 1 + 1 + (tn m))), .ref (B + (27)), .int (0)]) (rest := []) ⟨hx, hb, hml, hown, hts⟩ (c_gives_any (l := l) (G := G) (B := B) (tt := tt) (hW := hW) (x := x_7) (bd := v_12) (j := tn m) (hj := (by omega)) (d := 0) (k := 0) (kk := (tn (x (5 + 1 + 1 + (tn m)) 1))) (w0 := w) (hk := hk0) (hk16 := (by omega)) (hd := (by omega)) (hkd := hkx1) (hk1 := hkx0) (hk6 := hkx6) (hbd := hbd)) (va_cwS 4 hts gX7_ask_X7_gives rfl rfl rfl (by decide +kernel) ⟨Nat.le_of_ble_eq_true rfl, Nat.le_of_ble_eq_true rfl⟩) (x_ps (w := (wX G B tt)) hW hX hK hE hS [.int (v_12), .ref (B + (5 + 1 + 1 + (tn m))), .ref (B + (27)), .int (0)]) rfl rfl hl.1 rfl (lv_room (Nat.le_of_ble_eq_true rfl)) dX7_ask_62 ⟨Nat.zero_le _, Nat.zero_le _⟩) hS (fun r_18 x_19 H_16 lo_17 h_62 hX hS => ?_)
        try dsimp only at h_62
        rw [← hQ]
        refine x_iret (v := r_18) hx hb hr hX hS hlocks dX7_ask_65 ?_
        show PT_X7_ask _ _ _ _ _ _ _
        unfold PT_X7_ask
        rw [if_neg (ne_of_true c_3), if_pos c_6]
        rw [hMx] at h_62; rw [ex_7] at h_62; exact h_62
      refine lv_if_ne (tgt := 52) hx hb dX7_ask_42 (by decide) (fun c_11 => ?_) (fun c_11 => ?_)
      · refine lv_aload_n hx hb dX7_ask_52 rfl (lv_at hl 0 rfl) ?_
        refine x_ip (w := (wX G B tt)) (x := x_7) (v := markK ((tn (x (5 + 1 + 1 + (tn m)) 1)))) (va_runS (As := [.ref (B + (5 + 1 + 1 + (tn m)))]) (rest := []) ⟨hx, hb, hml, hown, hts⟩ (c_X7_markBody (l := l) (G := G) (B := B) (tt := tt) (hW := hW) (x := x_7) (ρ := 5) (hρ := rg5) (j := tn m) (hj := (by omega)) (k := (tn (x (5 + 1 + 1 + (tn m)) 1))) (hk := hkx1) (hk6 := hkx6)) (va_cwS 1 hts gX7_ask_X7_markBody rfl rfl rfl (by decide +kernel) ⟨Nat.le_of_ble_eq_true rfl, Nat.le_of_ble_eq_true rfl⟩) (x_ps (w := (wX G B tt)) hW hX hK hE hS [.ref (B + (5 + 1 + 1 + (tn m)))]) rfl rfl hl.1 rfl (lv_room (Nat.le_of_ble_eq_true rfl)) dX7_ask_53 ⟨Nat.zero_le _, Nat.zero_le _⟩) hS (fun H_20 lo_21 hX hS => ?_)
        exact kJ_13 (markK ((tn (x (5 + 1 + 1 + (tn m)) 1)))) (by rw [if_neg c_11]) _ _ hX hS ls (lv_sub hl [0, 1, 2, 3] rfl)
      · refine lv_aload_n hx hb dX7_ask_45 rfl (lv_at hl 0 rfl) ?_
        refine x_ip (w := (wX G B tt)) (x := x_7) (v := sizeK ((tn (x (5 + 1 + 1 + (tn m)) 1)))) (va_runS (As := [.ref (B + (5 + 1 + 1 + (tn m)))]) (rest := []) ⟨hx, hb, hml, hown, hts⟩ (c_X7_sizeBody (l := l) (G := G) (B := B) (tt := tt) (hW := hW) (x := x_7) (ρ := 5) (hρ := rg5) (j := tn m) (hj := (by omega)) (k := (tn (x (5 + 1 + 1 + (tn m)) 1))) (hk := hkx1) (hk6 := hkx6)) (va_cwS 1 hts gX7_ask_X7_sizeBody rfl rfl rfl (by decide +kernel) ⟨Nat.le_of_ble_eq_true rfl, Nat.le_of_ble_eq_true rfl⟩) (x_ps (w := (wX G B tt)) hW hX hK hE hS [.ref (B + (5 + 1 + 1 + (tn m)))]) rfl rfl hl.1 rfl (lv_room (Nat.le_of_ble_eq_true rfl)) dX7_ask_46 ⟨Nat.zero_le _, Nat.zero_le _⟩) hS (fun H_22 lo_23 hX hS => ?_)
        refine lv_goto (tgt := 56) hx hb dX7_ask_49 (by decide) ?_
        exact kJ_13 (sizeK ((tn (x (5 + 1 + 1 + (tn m)) 1)))) (by rw [if_pos c_11]) _ _ hX hS ls (lv_sub hl [0, 1, 2, 3] rfl)
    · refine lv_ldc (v := (-1000001)) hx hb hown (hts _ kX7_ask_59) dX7_ask_20 ?_
      rw [← hQ]
      refine x_iret (v := (-1000001)) hx hb hr hX hS hlocks dX7_ask_22 ?_
      show PT_X7_ask _ _ _ _ _ _ _
      unfold PT_X7_ask
      rw [if_neg (ne_of_true c_3), if_neg (ne_of_false c_6)]
      exact ⟨rfl, rfl⟩
