def PT_X8_furl (x : Mem) (m : Int32) (s : Int32) (n : Nat) (r : Int32) (u : Mem) : Prop := (if (decide (0 ≤ m) && decide (m < nI n)) = false then (r = (-1000001) ∧ u = x) else (if (decide (((0 : Int32)) ≤ ((s : Int32))) && decide (((s : Int32)) ≤ ((1 : Int32)))) = true then (r = sF (x 5) (tn m) 7 ∧ u = mst x 5 (5 + 10 * tn m + 7) s) else (r = (-1000001) ∧ u = x)))
theorem kX8_furl_63 : (.constant RX8 63 (-1000001) : Cond) ∈ wsX8_furl := by decide +kernel
theorem kX8_furl_22 : (.fieldLink RX8 22 "WindTakenModel" "now" "[I" : Cond) ∈ wsX8_furl := by decide +kernel
theorem iX8_furl_X8 : ∀ w ∈ wsX80, w ∈ wsX8_furl := by decide +kernel
abbrev rmX8_furl : Room := { frames := 2, cells := 0, slots := 0, locals := 46 }
set_option maxHeartbeats 4000000 in
set_option maxRecDepth 100000 in
theorem c_X8_furl (l : Launch) (G : GG) (B : Nat) (hW : WOK (wM G B)) (x : Mem) (m : Int32) (s : Int32) {n : Nat} (hN : x 5 0 = nI n) (hn8 : n ≤ 8) : Met l yX8_furl wsX8_furl rmX8_furl (XP G (wM G B) [.ref (B + (0)), .int (m), .int (s)] x) (va_Qi (fun r u => PT_X8_furl x m s n r u) (XB G (wM G B)) (blkA B (B + 13))) 0 0 (blkA B (B + 13)) := by
  refine Met.ofW (cc := cX8_furl) (maxL := 4) (ret := (some .int)) (by decide) rfl ?_
  intro pp ee ss mm aa bb mt cd s1 Bd hml hv
  obtain ⟨hae, hX, hK, hE⟩ := hv
  have hx := Bd.exec
  have hb := Bd.bytes
  have hr := Bd.returns
  have hts := atoms_spec (ws := wsX8_furl) Bd.pre
  have hown : ss.vm.findClass RX8 = some mm.cls := findClass_of_methodNamed Bd.named
  have hlocks := Bd.notSynchronized
  have hS : va_S (blkA B (B + 13)) ss.heap ss.heap [] := va_S.rf
  have hl := lv_entry ([.ref (B + (0)), .int (m), .int (s)]) (n := 4) (Nat.le_of_ble_eq_true rfl)
  subst hae
  rw [lg_entry_eq]
  generalize (lg_sl ([.ref (B + (0)), .int (m), .int (s)]) ++ List.replicate (4 - (lg_sl ([.ref (B + (0)), .int (m), .int (s)])).length) Slot.unset).toArray = ls at hl ⊢
  have hl : lv_has ls 4 [(0, .ref (B + (0))), (1, .int (m)), (2, .int (s))] := hl
  generalize ([.ref (B + (0)), .int (m), .int (s)] : List Value).toArray = aa at hts ⊢
  show W pp l ee rmX8_furl ss mm aa bb mt cd ss.heap [] 0 0 _ (F0 mm 0 ls [])
  generalize hQ : MQ bb (va_Qi (fun r u => PT_X8_furl x m s n r u) (XB G (wM G B)) (blkA B (B + 13))) aa ss 0 0 (blkA B (B + 13)) = Q
  refine lv_aload_n hx hb dX8_furl_0 rfl (lv_at hl 0 rfl) ?_
  refine lv_iload_n hx hb dX8_furl_1 rfl (lv_at hl 1 rfl) ?_
  refine x_ip (w := (wM G B)) (x := x) (v := bI (decide (0 ≤ m) && decide (m < nI n))) (va_runV (As := [.int (m)]) (rest := []) ⟨hx, hb, hml, hown, hts⟩ (c_X8_isMill (l := l) (G := G) (B := B) (hW := hW) (x := x) (v := m) (n := n) (hN := hN) (hn8 := hn8)) (cwV 1 hts gX8_furl_X8_isMill rfl rfl rfl (by decide +kernel) ⟨Nat.le_of_ble_eq_true rfl, Nat.le_of_ble_eq_true rfl⟩) (x_pv (w := (wM G B)) (a := 0) hW hX hK hE hS [.int (m)] (Nat.le_of_ble_eq_true rfl) (shM_0 (G := G) (B := B)) rfl) rfl rfl hl.1 rfl (lv_room (Nat.le_of_ble_eq_true rfl)) dX8_furl_2 ⟨Nat.zero_le _, Nat.zero_le _⟩) hS (fun H_1 lo_2 hX hS => ?_)
  refine x_ifeq (tgt := 18) hx hb dX8_furl_5 (by decide) (fun c_3 => ?_) (fun c_3 => ?_)
  · refine lv_ldc (v := (-1000001)) hx hb hown (hts _ kX8_furl_63) dX8_furl_18 ?_
    rw [← hQ]
    refine x_iret (v := (-1000001)) hx hb hr hX hS hlocks dX8_furl_20 ?_
    show PT_X8_furl _ _ _ _ _ _
    unfold PT_X8_furl
    rw [if_pos c_3]
    exact ⟨rfl, rfl⟩
  · obtain ⟨hme, hmn⟩ := hasM (c := nI n) rfl hn8 c_3
    refine lv_iload_n hx hb dX8_furl_8 rfl (lv_at hl 2 rfl) ?_
    refine lv_i2l (v := (s : Int32).toInt64) hx hb dX8_furl_9 rfl ?_
    refine lv_lconst (v := 0) hx hb dX8_furl_10 (by decide) ?_
    refine lv_lconst (v := 1) hx hb dX8_furl_11 (by decide) ?_
    refine x_ip (w := (wM G B)) (x := x) (v := bI (decide (((0 : Int32)) ≤ ((s : Int32))) && decide (((s : Int32)) ≤ ((1 : Int32))))) (va_runS (As := [.long ((s : Int32).toInt64), .long (0), .long (1)]) (rest := []) ⟨hx, hb, hml, hown, hts⟩ (c_X8_in (l := l) (G := G) (B := B) (hW := hW) (x := x) (va := (s : Int32).toInt64) (vb := 0) (vc := 1) (v1 := (s : Int32)) (lo1 := (0 : Int32)) (hi1 := (1 : Int32)) (hv := (by first | rfl | decide)) (hlo := (by first | rfl | decide)) (hhi := (by first | rfl | decide))) (va_cwS 3 hts gX8_furl_X8_in rfl rfl rfl (by decide +kernel) ⟨Nat.le_of_ble_eq_true rfl, Nat.le_of_ble_eq_true rfl⟩) (x_ps (w := (wM G B)) hW hX hK hE hS [.long ((s : Int32).toInt64), .long (0), .long (1)]) rfl rfl hl.1 rfl (lv_room (Nat.le_of_ble_eq_true rfl)) dX8_furl_12 ⟨Nat.zero_le _, Nat.zero_le _⟩) hS (fun H_4 lo_5 hX hS => ?_)
    refine x_ifne (tgt := 21) hx hb dX8_furl_15 (by decide) (fun c_6 => ?_) (fun c_6 => ?_)
    · refine lv_aload_n hx hb dX8_furl_21 rfl (lv_at hl 0 rfl) ?_
      refine lv_iload_n hx hb dX8_furl_22 rfl (lv_at hl 1 rfl) ?_
      refine lv_bipush (v := 7) hx hb dX8_furl_23 (by decide) ?_
      refine W.eq (g2 := F0 mm 25 ls [.int (7), .int (nI (tn m)), .ref (B + (0))]) (congrArg (fun z9 : Int32 => F0 mm 25 ls [.int (7), .int (z9), .ref (B + (0))]) hme) ?_
      refine x_ip (w := (wM G B)) (x := x) (v := sF (x 5) (tn m) 7) (va_runV (As := [.int (nI (tn m)), .int (7)]) (rest := []) ⟨hx, hb, hml, hown, hts⟩ (c_X8_of (l := l) (G := G) (B := B) (hW := hW) (x := x) (ml := tn m) (k := 7) (hml9 := (by omega)) (hk10 := (by omega))) (cwV 2 hts gX8_furl_X8_of rfl rfl rfl (by decide +kernel) ⟨Nat.le_of_ble_eq_true rfl, Nat.le_of_ble_eq_true rfl⟩) (x_pv (w := (wM G B)) (a := 0) hW hX hK hE hS [.int (nI (tn m)), .int (7)] (Nat.le_of_ble_eq_true rfl) (shM_0 (G := G) (B := B)) rfl) rfl rfl hl.1 rfl (lv_room (Nat.le_of_ble_eq_true rfl)) dX8_furl_25 ⟨Nat.zero_le _, Nat.zero_le _⟩) hS (fun H_7 lo_8 hX hS => ?_)
      refine lv_istore_n (lv' := [(3, .int (sF (x 5) (tn m) 7)), (0, .ref (B + (0))), (1, .int (m)), (2, .int (s))]) hx hb dX8_furl_28 rfl hl (by decide) rfl (fun ls hl => ?_)
      refine lv_aload_n hx hb dX8_furl_29 rfl (lv_at hl 1 rfl) ?_
      refine x_get (w := (wM G B)) (a := 0) (v := .ref (B + (5))) hx hb hts iX8_furl_X8 hown hK hX (Nat.le_of_ble_eq_true rfl) (shM_0 (G := G) (B := B)) rfl 7 (by decide) (hts _ kX8_furl_22) (fun _ h9 => h9) rfl dX8_furl_30 ?_
      refine lv_iconst (v := 5) hx hb dX8_furl_33 (by decide) ?_
      refine lv_bipush (v := 10) hx hb dX8_furl_34 (by decide) ?_
      refine lv_iload_n hx hb dX8_furl_36 rfl (lv_at hl 2 rfl) ?_
      refine lv_imul hx hb dX8_furl_37 ?_
      refine lv_iadd hx hb dX8_furl_38 ?_
      refine lv_bipush (v := 7) hx hb dX8_furl_39 (by decide) ?_
      refine lv_iadd hx hb dX8_furl_41 ?_
      refine lv_iload_n hx hb dX8_furl_42 rfl (lv_at hl 3 rfl) ?_
      refine x_iast (w := (wM G B)) (a := 5) (n := 93) (j := 5 + (10 * (tn m)) + 7) hx hb hK hW hX hS (Nat.le_of_ble_eq_true rfl) (fun f => (shM_a (G := G) (B := B) (a := 5) (f := f) (by decide))) (n_add (n_add rfl (n_mul rfl hme)) rfl) (by omega) (by decide) dX8_furl_43 (fun H_10 lo_11 hX hS => ?_)
      obtain ⟨x_9, ex_9⟩ : ∃ z, z = mst x (5) (5 + (10 * (tn m)) + 7) (s) := ⟨_, rfl⟩
      rw [← ex_9] at hX
      have z_12 : x_9 (5) 0 = nI (n) := by rw [ex_9, mst_eq, upd_ne (by first | decide | omega)]; exact hN
      refine lv_iload_n hx hb dX8_furl_44 rfl (lv_at hl 0 rfl) ?_
      rw [← hQ]
      refine x_iret (v := sF (x 5) (tn m) 7) hx hb hr hX hS hlocks dX8_furl_45 ?_
      show PT_X8_furl _ _ _ _ _ _
      unfold PT_X8_furl
      rw [if_neg (ne_of_true c_3), if_pos c_6]
      exact ⟨rfl, ex_9⟩
    · refine lv_ldc (v := (-1000001)) hx hb hown (hts _ kX8_furl_63) dX8_furl_18 ?_
      rw [← hQ]
      refine x_iret (v := (-1000001)) hx hb hr hX hS hlocks dX8_furl_20 ?_
      show PT_X8_furl _ _ _ _ _ _
      unfold PT_X8_furl
      rw [if_neg (ne_of_true c_3), if_neg (ne_of_false c_6)]
      exact ⟨rfl, rfl⟩

def PT_X8_face (x : Mem) (m : Int32) (q : Int32) (n : Nat) (r : Int32) (u : Mem) : Prop := (if (decide (0 ≤ m) && decide (m < nI n)) = false then (r = (-1000001) ∧ u = x) else (if (decide (0 ≤ q) && decide (q ≤ 3)) = true then (if (x (5) (85 + (tn m))) = 5 then (r = (-1000002) ∧ u = x) else (r = sF (x 5) (tn m) 6 ∧ u = mst x 5 (5 + 10 * tn m + 6) q)) else (r = (-1000001) ∧ u = x)))
theorem kX8_face_63 : (.constant RX8 63 (-1000001) : Cond) ∈ wsX8_face := by decide +kernel
theorem kX8_face_22 : (.fieldLink RX8 22 "WindTakenModel" "now" "[I" : Cond) ∈ wsX8_face := by decide +kernel
theorem iX8_face_X8 : ∀ w ∈ wsX80, w ∈ wsX8_face := by decide +kernel
theorem kX8_face_185 : (.constant RX8 185 (-1000002) : Cond) ∈ wsX8_face := by decide +kernel
abbrev rmX8_face : Room := { frames := 2, cells := 0, slots := 0, locals := 46 }
set_option maxHeartbeats 4000000 in
set_option maxRecDepth 100000 in
theorem c_X8_face (l : Launch) (G : GG) (B : Nat) (hW : WOK (wM G B)) (x : Mem) (m : Int32) (q : Int32) {n : Nat} (hN : x 5 0 = nI n) (hn8 : n ≤ 8) : Met l yX8_face wsX8_face rmX8_face (XP G (wM G B) [.ref (B + (0)), .int (m), .int (q)] x) (va_Qi (fun r u => PT_X8_face x m q n r u) (XB G (wM G B)) (blkA B (B + 13))) 0 0 (blkA B (B + 13)) := by
  refine Met.ofW (cc := cX8_face) (maxL := 4) (ret := (some .int)) (by decide) rfl ?_
  intro pp ee ss mm aa bb mt cd s1 Bd hml hv
  obtain ⟨hae, hX, hK, hE⟩ := hv
  have hx := Bd.exec
  have hb := Bd.bytes
  have hr := Bd.returns
  have hts := atoms_spec (ws := wsX8_face) Bd.pre
  have hown : ss.vm.findClass RX8 = some mm.cls := findClass_of_methodNamed Bd.named
  have hlocks := Bd.notSynchronized
  have hS : va_S (blkA B (B + 13)) ss.heap ss.heap [] := va_S.rf
  have hl := lv_entry ([.ref (B + (0)), .int (m), .int (q)]) (n := 4) (Nat.le_of_ble_eq_true rfl)
  subst hae
  rw [lg_entry_eq]
  generalize (lg_sl ([.ref (B + (0)), .int (m), .int (q)]) ++ List.replicate (4 - (lg_sl ([.ref (B + (0)), .int (m), .int (q)])).length) Slot.unset).toArray = ls at hl ⊢
  have hl : lv_has ls 4 [(0, .ref (B + (0))), (1, .int (m)), (2, .int (q))] := hl
  generalize ([.ref (B + (0)), .int (m), .int (q)] : List Value).toArray = aa at hts ⊢
  show W pp l ee rmX8_face ss mm aa bb mt cd ss.heap [] 0 0 _ (F0 mm 0 ls [])
  generalize hQ : MQ bb (va_Qi (fun r u => PT_X8_face x m q n r u) (XB G (wM G B)) (blkA B (B + 13))) aa ss 0 0 (blkA B (B + 13)) = Q
  refine lv_aload_n hx hb dX8_face_0 rfl (lv_at hl 0 rfl) ?_
  refine lv_iload_n hx hb dX8_face_1 rfl (lv_at hl 1 rfl) ?_
  refine x_ip (w := (wM G B)) (x := x) (v := bI (decide (0 ≤ m) && decide (m < nI n))) (va_runV (As := [.int (m)]) (rest := []) ⟨hx, hb, hml, hown, hts⟩ (c_X8_isMill (l := l) (G := G) (B := B) (hW := hW) (x := x) (v := m) (n := n) (hN := hN) (hn8 := hn8)) (cwV 1 hts gX8_face_X8_isMill rfl rfl rfl (by decide +kernel) ⟨Nat.le_of_ble_eq_true rfl, Nat.le_of_ble_eq_true rfl⟩) (x_pv (w := (wM G B)) (a := 0) hW hX hK hE hS [.int (m)] (Nat.le_of_ble_eq_true rfl) (shM_0 (G := G) (B := B)) rfl) rfl rfl hl.1 rfl (lv_room (Nat.le_of_ble_eq_true rfl)) dX8_face_2 ⟨Nat.zero_le _, Nat.zero_le _⟩) hS (fun H_1 lo_2 hX hS => ?_)
  refine x_ifeq (tgt := 15) hx hb dX8_face_5 (by decide) (fun c_3 => ?_) (fun c_3 => ?_)
  · refine lv_ldc (v := (-1000001)) hx hb hown (hts _ kX8_face_63) dX8_face_15 ?_
    rw [← hQ]
    refine x_iret (v := (-1000001)) hx hb hr hX hS hlocks dX8_face_17 ?_
    show PT_X8_face _ _ _ _ _ _
    unfold PT_X8_face
    rw [if_pos c_3]
    exact ⟨rfl, rfl⟩
  · obtain ⟨hme, hmn⟩ := hasM (c := nI n) rfl hn8 c_3
    refine lv_iload_n hx hb dX8_face_8 rfl (lv_at hl 2 rfl) ?_
    refine x_ip (w := (wM G B)) (x := x) (v := bI (decide (0 ≤ q) && decide (q ≤ 3))) (va_runS (As := [.int (q)]) (rest := []) ⟨hx, hb, hml, hown, hts⟩ (c_X8_isQuarter (l := l) (G := G) (B := B) (hW := hW) (x := x) (v := q)) (va_cwS 1 hts gX8_face_X8_isQuarter rfl rfl rfl (by decide +kernel) ⟨Nat.le_of_ble_eq_true rfl, Nat.le_of_ble_eq_true rfl⟩) (x_ps (w := (wM G B)) hW hX hK hE hS [.int (q)]) rfl rfl hl.1 rfl (lv_room (Nat.le_of_ble_eq_true rfl)) dX8_face_9 ⟨Nat.zero_le _, Nat.zero_le _⟩) hS (fun H_4 lo_5 hX hS => ?_)
    refine x_ifne (tgt := 18) hx hb dX8_face_12 (by decide) (fun c_6 => ?_) (fun c_6 => ?_)
    · refine lv_aload_n hx hb dX8_face_18 rfl (lv_at hl 0 rfl) ?_
      refine x_get (w := (wM G B)) (a := 0) (v := .ref (B + (5))) hx hb hts iX8_face_X8 hown hK hX (Nat.le_of_ble_eq_true rfl) (shM_0 (G := G) (B := B)) rfl 7 (by decide) (hts _ kX8_face_22) (fun _ h9 => h9) rfl dX8_face_19 ?_
      refine lv_bipush (v := 85) hx hb dX8_face_22 (by decide) ?_
      refine lv_iload_n hx hb dX8_face_24 rfl (lv_at hl 1 rfl) ?_
      refine lv_iadd hx hb dX8_face_25 ?_
      refine x_iald (w := (wM G B)) (a := 5) (n := 93) (j := 85 + (tn m)) hx hb hK hX (Nat.le_of_ble_eq_true rfl) (shM_a (G := G) (B := B) (a := 5) (f := x (5)) (by decide)) (n_add rfl hme) (by omega) (by decide) dX8_face_26 ?_
      refine lv_iconst (v := 5) hx hb dX8_face_27 (by decide) ?_
      refine lv_icmp_ne (tgt := 34) hx hb dX8_face_28 (by decide) (fun c_7 => ?_) (fun c_7 => ?_)
      · refine lv_aload_n hx hb dX8_face_34 rfl (lv_at hl 0 rfl) ?_
        refine lv_iload_n hx hb dX8_face_35 rfl (lv_at hl 1 rfl) ?_
        refine lv_bipush (v := 6) hx hb dX8_face_36 (by decide) ?_
        refine W.eq (g2 := F0 mm 38 ls [.int (6), .int (nI (tn m)), .ref (B + (0))]) (congrArg (fun z9 : Int32 => F0 mm 38 ls [.int (6), .int (z9), .ref (B + (0))]) hme) ?_
        refine x_ip (w := (wM G B)) (x := x) (v := sF (x 5) (tn m) 6) (va_runV (As := [.int (nI (tn m)), .int (6)]) (rest := []) ⟨hx, hb, hml, hown, hts⟩ (c_X8_of (l := l) (G := G) (B := B) (hW := hW) (x := x) (ml := tn m) (k := 6) (hml9 := (by omega)) (hk10 := (by omega))) (cwV 2 hts gX8_face_X8_of rfl rfl rfl (by decide +kernel) ⟨Nat.le_of_ble_eq_true rfl, Nat.le_of_ble_eq_true rfl⟩) (x_pv (w := (wM G B)) (a := 0) hW hX hK hE hS [.int (nI (tn m)), .int (6)] (Nat.le_of_ble_eq_true rfl) (shM_0 (G := G) (B := B)) rfl) rfl rfl hl.1 rfl (lv_room (Nat.le_of_ble_eq_true rfl)) dX8_face_38 ⟨Nat.zero_le _, Nat.zero_le _⟩) hS (fun H_8 lo_9 hX hS => ?_)
        refine lv_istore_n (lv' := [(3, .int (sF (x 5) (tn m) 6)), (0, .ref (B + (0))), (1, .int (m)), (2, .int (q))]) hx hb dX8_face_41 rfl hl (by decide) rfl (fun ls hl => ?_)
        refine lv_aload_n hx hb dX8_face_42 rfl (lv_at hl 1 rfl) ?_
        refine x_get (w := (wM G B)) (a := 0) (v := .ref (B + (5))) hx hb hts iX8_face_X8 hown hK hX (Nat.le_of_ble_eq_true rfl) (shM_0 (G := G) (B := B)) rfl 7 (by decide) (hts _ kX8_face_22) (fun _ h9 => h9) rfl dX8_face_43 ?_
        refine lv_iconst (v := 5) hx hb dX8_face_46 (by decide) ?_
        refine lv_bipush (v := 10) hx hb dX8_face_47 (by decide) ?_
        refine lv_iload_n hx hb dX8_face_49 rfl (lv_at hl 2 rfl) ?_
        refine lv_imul hx hb dX8_face_50 ?_
        refine lv_iadd hx hb dX8_face_51 ?_
        refine lv_bipush (v := 6) hx hb dX8_face_52 (by decide) ?_
        refine lv_iadd hx hb dX8_face_54 ?_
        refine lv_iload_n hx hb dX8_face_55 rfl (lv_at hl 3 rfl) ?_
        refine x_iast (w := (wM G B)) (a := 5) (n := 93) (j := 5 + (10 * (tn m)) + 6) hx hb hK hW hX hS (Nat.le_of_ble_eq_true rfl) (fun f => (shM_a (G := G) (B := B) (a := 5) (f := f) (by decide))) (n_add (n_add rfl (n_mul rfl hme)) rfl) (by omega) (by decide) dX8_face_56 (fun H_11 lo_12 hX hS => ?_)
        obtain ⟨x_10, ex_10⟩ : ∃ z, z = mst x (5) (5 + (10 * (tn m)) + 6) (q) := ⟨_, rfl⟩
        rw [← ex_10] at hX
        refine lv_iload_n hx hb dX8_face_57 rfl (lv_at hl 0 rfl) ?_
        rw [← hQ]
        refine x_iret (v := sF (x 5) (tn m) 6) hx hb hr hX hS hlocks dX8_face_58 ?_
        show PT_X8_face _ _ _ _ _ _
        unfold PT_X8_face
        rw [if_neg (ne_of_true c_3), if_pos c_6, if_neg c_7]
        exact ⟨rfl, ex_10⟩
      · refine lv_ldc (v := (-1000002)) hx hb hown (hts _ kX8_face_185) dX8_face_31 ?_
        rw [← hQ]
        refine x_iret (v := (-1000002)) hx hb hr hX hS hlocks dX8_face_33 ?_
        show PT_X8_face _ _ _ _ _ _
        unfold PT_X8_face
        rw [if_neg (ne_of_true c_3), if_pos c_6, if_pos c_7]
        exact ⟨rfl, rfl⟩
    · refine lv_ldc (v := (-1000001)) hx hb hown (hts _ kX8_face_63) dX8_face_15 ?_
      rw [← hQ]
      refine x_iret (v := (-1000001)) hx hb hr hX hS hlocks dX8_face_17 ?_
      show PT_X8_face _ _ _ _ _ _
      unfold PT_X8_face
      rw [if_neg (ne_of_true c_3), if_neg (ne_of_false c_6)]
      exact ⟨rfl, rfl⟩

def PT_X8_build (x : Mem) (m : Int32) (n : Nat) (r : Int32) (u : Mem) : Prop := (if (decide (0 ≤ m) && decide (m < nI n)) = true then (if (sF (x 5) (tn m) 0) = 9 then (r = (-1000003) ∧ u = x) else (r = sF (x 5) (tn m) 0 + 1 ∧ u = mst x 5 (5 + 10 * tn m) (sF (x 5) (tn m) 0 + 1))) else (r = (-1000001) ∧ u = x))
theorem kX8_build_22 : (.fieldLink RX8 22 "WindTakenModel" "now" "[I" : Cond) ∈ wsX8_build := by decide +kernel
theorem iX8_build_X8 : ∀ w ∈ wsX80, w ∈ wsX8_build := by decide +kernel
theorem kX8_build_85 : (.constant RX8 85 (-1000003) : Cond) ∈ wsX8_build := by decide +kernel
theorem kX8_build_63 : (.constant RX8 63 (-1000001) : Cond) ∈ wsX8_build := by decide +kernel
abbrev rmX8_build : Room := { frames := 2, cells := 0, slots := 0, locals := 46 }
set_option maxHeartbeats 4000000 in
set_option maxRecDepth 100000 in
theorem c_X8_build (l : Launch) (G : GG) (B : Nat) (hW : WOK (wM G B)) (x : Mem) (m : Int32) {n : Nat} (hN : x 5 0 = nI n) (hn8 : n ≤ 8) : Met l yX8_build wsX8_build rmX8_build (XP G (wM G B) [.ref (B + (0)), .int (m)] x) (va_Qi (fun r u => PT_X8_build x m n r u) (XB G (wM G B)) (blkA B (B + 13))) 0 0 (blkA B (B + 13)) := by
  refine Met.ofW (cc := cX8_build) (maxL := 2) (ret := (some .int)) (by decide) rfl ?_
  intro pp ee ss mm aa bb mt cd s1 Bd hml hv
  obtain ⟨hae, hX, hK, hE⟩ := hv
  have hx := Bd.exec
  have hb := Bd.bytes
  have hr := Bd.returns
  have hts := atoms_spec (ws := wsX8_build) Bd.pre
  have hown : ss.vm.findClass RX8 = some mm.cls := findClass_of_methodNamed Bd.named
  have hlocks := Bd.notSynchronized
  have hS : va_S (blkA B (B + 13)) ss.heap ss.heap [] := va_S.rf
  have hl := lv_entry ([.ref (B + (0)), .int (m)]) (n := 2) (Nat.le_of_ble_eq_true rfl)
  subst hae
  rw [lg_entry_eq]
  generalize (lg_sl ([.ref (B + (0)), .int (m)]) ++ List.replicate (2 - (lg_sl ([.ref (B + (0)), .int (m)])).length) Slot.unset).toArray = ls at hl ⊢
  have hl : lv_has ls 2 [(0, .ref (B + (0))), (1, .int (m))] := hl
  generalize ([.ref (B + (0)), .int (m)] : List Value).toArray = aa at hts ⊢
  show W pp l ee rmX8_build ss mm aa bb mt cd ss.heap [] 0 0 _ (F0 mm 0 ls [])
  generalize hQ : MQ bb (va_Qi (fun r u => PT_X8_build x m n r u) (XB G (wM G B)) (blkA B (B + 13))) aa ss 0 0 (blkA B (B + 13)) = Q
  refine lv_aload_n hx hb dX8_build_0 rfl (lv_at hl 0 rfl) ?_
  refine lv_iload_n hx hb dX8_build_1 rfl (lv_at hl 1 rfl) ?_
  refine x_ip (w := (wM G B)) (x := x) (v := bI (decide (0 ≤ m) && decide (m < nI n))) (va_runV (As := [.int (m)]) (rest := []) ⟨hx, hb, hml, hown, hts⟩ (c_X8_isMill (l := l) (G := G) (B := B) (hW := hW) (x := x) (v := m) (n := n) (hN := hN) (hn8 := hn8)) (cwV 1 hts gX8_build_X8_isMill rfl rfl rfl (by decide +kernel) ⟨Nat.le_of_ble_eq_true rfl, Nat.le_of_ble_eq_true rfl⟩) (x_pv (w := (wM G B)) (a := 0) hW hX hK hE hS [.int (m)] (Nat.le_of_ble_eq_true rfl) (shM_0 (G := G) (B := B)) rfl) rfl rfl hl.1 rfl (lv_room (Nat.le_of_ble_eq_true rfl)) dX8_build_2 ⟨Nat.zero_le _, Nat.zero_le _⟩) hS (fun H_1 lo_2 hX hS => ?_)
  refine x_ifne (tgt := 11) hx hb dX8_build_5 (by decide) (fun c_3 => ?_) (fun c_3 => ?_)
  · obtain ⟨hme, hmn⟩ := hasM (c := nI n) rfl hn8 c_3
    refine lv_aload_n hx hb dX8_build_11 rfl (lv_at hl 0 rfl) ?_
    refine lv_iload_n hx hb dX8_build_12 rfl (lv_at hl 1 rfl) ?_
    refine lv_iconst (v := 0) hx hb dX8_build_13 (by decide) ?_
    refine W.eq (g2 := F0 mm 14 ls [.int (0), .int (nI (tn m)), .ref (B + (0))]) (congrArg (fun z9 : Int32 => F0 mm 14 ls [.int (0), .int (z9), .ref (B + (0))]) hme) ?_
    refine x_ip (w := (wM G B)) (x := x) (v := sF (x 5) (tn m) 0) (va_runV (As := [.int (nI (tn m)), .int (0)]) (rest := []) ⟨hx, hb, hml, hown, hts⟩ (c_X8_of (l := l) (G := G) (B := B) (hW := hW) (x := x) (ml := tn m) (k := 0) (hml9 := (by omega)) (hk10 := (by omega))) (cwV 2 hts gX8_build_X8_of rfl rfl rfl (by decide +kernel) ⟨Nat.le_of_ble_eq_true rfl, Nat.le_of_ble_eq_true rfl⟩) (x_pv (w := (wM G B)) (a := 0) hW hX hK hE hS [.int (nI (tn m)), .int (0)] (Nat.le_of_ble_eq_true rfl) (shM_0 (G := G) (B := B)) rfl) rfl rfl hl.1 rfl (lv_room (Nat.le_of_ble_eq_true rfl)) dX8_build_14 ⟨Nat.zero_le _, Nat.zero_le _⟩) hS (fun H_4 lo_5 hX hS => ?_)
    refine lv_bipush (v := 9) hx hb dX8_build_17 (by decide) ?_
    refine lv_icmp_ne (tgt := 25) hx hb dX8_build_19 (by decide) (fun c_6 => ?_) (fun c_6 => ?_)
    · refine lv_aload_n hx hb dX8_build_25 rfl (lv_at hl 0 rfl) ?_
      refine x_get (w := (wM G B)) (a := 0) (v := .ref (B + (5))) hx hb hts iX8_build_X8 hown hK hX (Nat.le_of_ble_eq_true rfl) (shM_0 (G := G) (B := B)) rfl 7 (by decide) (hts _ kX8_build_22) (fun _ h9 => h9) rfl dX8_build_26 ?_
      refine lv_iconst (v := 5) hx hb dX8_build_29 (by decide) ?_
      refine lv_bipush (v := 10) hx hb dX8_build_30 (by decide) ?_
      refine lv_iload_n hx hb dX8_build_32 rfl (lv_at hl 1 rfl) ?_
      refine lv_imul hx hb dX8_build_33 ?_
      refine lv_iadd hx hb dX8_build_34 ?_
      refine lv_dup2_11 hx hb dX8_build_35 rfl rfl ?_
      refine x_iald (w := (wM G B)) (a := 5) (n := 93) (j := 5 + (10 * (tn m))) hx hb hK hX (Nat.le_of_ble_eq_true rfl) (shM_a (G := G) (B := B) (a := 5) (f := x (5)) (by decide)) (n_add rfl (n_mul rfl hme)) (by omega) (by decide) dX8_build_36 ?_
      refine lv_iconst (v := 1) hx hb dX8_build_37 (by decide) ?_
      refine lv_iadd hx hb dX8_build_38 ?_
      refine x_iast (w := (wM G B)) (a := 5) (n := 93) (j := 5 + (10 * (tn m))) hx hb hK hW hX hS (Nat.le_of_ble_eq_true rfl) (fun f => (shM_a (G := G) (B := B) (a := 5) (f := f) (by decide))) (n_add rfl (n_mul rfl hme)) (by omega) (by decide) dX8_build_39 (fun H_8 lo_9 hX hS => ?_)
      obtain ⟨x_7, ex_7⟩ : ∃ z, z = mst x (5) (5 + (10 * (tn m))) ((x (5) (5 + (10 * (tn m)))) + 1) := ⟨_, rfl⟩
      rw [← ex_7] at hX
      refine lv_aload_n hx hb dX8_build_40 rfl (lv_at hl 0 rfl) ?_
      refine lv_iload_n hx hb dX8_build_41 rfl (lv_at hl 1 rfl) ?_
      refine lv_iconst (v := 0) hx hb dX8_build_42 (by decide) ?_
      refine W.eq (g2 := F0 mm 43 ls [.int (0), .int (nI (tn m)), .ref (B + (0))]) (congrArg (fun z9 : Int32 => F0 mm 43 ls [.int (0), .int (z9), .ref (B + (0))]) hme) ?_
      refine x_ip (w := (wM G B)) (x := x_7) (v := sF (x_7 5) (tn m) 0) (va_runV (As := [.int (nI (tn m)), .int (0)]) (rest := []) ⟨hx, hb, hml, hown, hts⟩ (c_X8_of (l := l) (G := G) (B := B) (hW := hW) (x := x_7) (ml := tn m) (k := 0) (hml9 := (by omega)) (hk10 := (by omega))) (cwV 2 hts gX8_build_X8_of rfl rfl rfl (by decide +kernel) ⟨Nat.le_of_ble_eq_true rfl, Nat.le_of_ble_eq_true rfl⟩) (x_pv (w := (wM G B)) (a := 0) hW hX hK hE hS [.int (nI (tn m)), .int (0)] (Nat.le_of_ble_eq_true rfl) (shM_0 (G := G) (B := B)) rfl) rfl rfl hl.1 rfl (lv_room (Nat.le_of_ble_eq_true rfl)) dX8_build_43 ⟨Nat.zero_le _, Nat.zero_le _⟩) hS (fun H_10 lo_11 hX hS => ?_)
      rw [← hQ]
      refine x_iret (v := sF (x_7 5) (tn m) 0) hx hb hr hX hS hlocks dX8_build_46 ?_
      show PT_X8_build _ _ _ _ _
      unfold PT_X8_build
      rw [if_pos c_3, if_neg c_6]
      refine ⟨?_, by rw [ex_7]; rfl⟩
      show x_7 5 (5 + 10 * tn m) = _
      rw [ex_7, mst_self]
      rfl
    · refine lv_ldc (v := (-1000003)) hx hb hown (hts _ kX8_build_85) dX8_build_22 ?_
      rw [← hQ]
      refine x_iret (v := (-1000003)) hx hb hr hX hS hlocks dX8_build_24 ?_
      show PT_X8_build _ _ _ _ _
      unfold PT_X8_build
      rw [if_pos c_3, if_pos c_6]
      exact ⟨rfl, rfl⟩
  · refine lv_ldc (v := (-1000001)) hx hb hown (hts _ kX8_build_63) dX8_build_8 ?_
    rw [← hQ]
    refine x_iret (v := (-1000001)) hx hb hr hX hS hlocks dX8_build_10 ?_
    show PT_X8_build _ _ _ _ _
    unfold PT_X8_build
    rw [if_neg (ne_of_false c_3)]
    exact ⟨rfl, rfl⟩

def PT_X8_bring (x : Mem) (m : Int32) (k : Int32) (n : Nat) (r : Int32) (u : Mem) : Prop := (if (decide (0 ≤ m) && decide (m < nI n)) = false then (r = (-1000001) ∧ u = x) else (if (decide (((0 : Int32)) ≤ ((k : Int32))) && decide (((k : Int32)) ≤ ((999 : Int32)))) = true then (r = jmin (sF (x 5) (tn m) 3 + k) 99999 ∧ u = mst x 5 (5 + 10 * tn m + 3) (jmin (sF (x 5) (tn m) 3 + k) 99999)) else (r = (-1000001) ∧ u = x)))
theorem kX8_bring_63 : (.constant RX8 63 (-1000001) : Cond) ∈ wsX8_bring := by decide +kernel
theorem kX8_bring_186 : (.constantLong RX8 186 (999) : Cond) ∈ wsX8_bring := by decide +kernel
theorem kX8_bring_22 : (.fieldLink RX8 22 "WindTakenModel" "now" "[I" : Cond) ∈ wsX8_bring := by decide +kernel
theorem iX8_bring_X8 : ∀ w ∈ wsX80, w ∈ wsX8_bring := by decide +kernel
theorem kX8_bring_188 : (.constant RX8 188 (99999) : Cond) ∈ wsX8_bring := by decide +kernel
abbrev rmX8_bring : Room := { frames := 2, cells := 0, slots := 0, locals := 46 }
set_option maxHeartbeats 4000000 in
set_option maxRecDepth 100000 in
theorem c_X8_bring (l : Launch) (G : GG) (B : Nat) (hW : WOK (wM G B)) (x : Mem) (m : Int32) (k : Int32) {n : Nat} (hN : x 5 0 = nI n) (hn8 : n ≤ 8) : Met l yX8_bring wsX8_bring rmX8_bring (XP G (wM G B) [.ref (B + (0)), .int (m), .int (k)] x) (va_Qi (fun r u => PT_X8_bring x m k n r u) (XB G (wM G B)) (blkA B (B + 13))) 0 0 (blkA B (B + 13)) := by
  refine Met.ofW (cc := cX8_bring) (maxL := 4) (ret := (some .int)) (by decide) rfl ?_
  intro pp ee ss mm aa bb mt cd s1 Bd hml hv
  obtain ⟨hae, hX, hK, hE⟩ := hv
  have hx := Bd.exec
  have hb := Bd.bytes
  have hr := Bd.returns
  have hts := atoms_spec (ws := wsX8_bring) Bd.pre
  have hown : ss.vm.findClass RX8 = some mm.cls := findClass_of_methodNamed Bd.named
  have hlocks := Bd.notSynchronized
  have hS : va_S (blkA B (B + 13)) ss.heap ss.heap [] := va_S.rf
  have hl := lv_entry ([.ref (B + (0)), .int (m), .int (k)]) (n := 4) (Nat.le_of_ble_eq_true rfl)
  subst hae
  rw [lg_entry_eq]
  generalize (lg_sl ([.ref (B + (0)), .int (m), .int (k)]) ++ List.replicate (4 - (lg_sl ([.ref (B + (0)), .int (m), .int (k)])).length) Slot.unset).toArray = ls at hl ⊢
  have hl : lv_has ls 4 [(0, .ref (B + (0))), (1, .int (m)), (2, .int (k))] := hl
  generalize ([.ref (B + (0)), .int (m), .int (k)] : List Value).toArray = aa at hts ⊢
  show W pp l ee rmX8_bring ss mm aa bb mt cd ss.heap [] 0 0 _ (F0 mm 0 ls [])
  generalize hQ : MQ bb (va_Qi (fun r u => PT_X8_bring x m k n r u) (XB G (wM G B)) (blkA B (B + 13))) aa ss 0 0 (blkA B (B + 13)) = Q
  refine lv_aload_n hx hb dX8_bring_0 rfl (lv_at hl 0 rfl) ?_
  refine lv_iload_n hx hb dX8_bring_1 rfl (lv_at hl 1 rfl) ?_
  refine x_ip (w := (wM G B)) (x := x) (v := bI (decide (0 ≤ m) && decide (m < nI n))) (va_runV (As := [.int (m)]) (rest := []) ⟨hx, hb, hml, hown, hts⟩ (c_X8_isMill (l := l) (G := G) (B := B) (hW := hW) (x := x) (v := m) (n := n) (hN := hN) (hn8 := hn8)) (cwV 1 hts gX8_bring_X8_isMill rfl rfl rfl (by decide +kernel) ⟨Nat.le_of_ble_eq_true rfl, Nat.le_of_ble_eq_true rfl⟩) (x_pv (w := (wM G B)) (a := 0) hW hX hK hE hS [.int (m)] (Nat.le_of_ble_eq_true rfl) (shM_0 (G := G) (B := B)) rfl) rfl rfl hl.1 rfl (lv_room (Nat.le_of_ble_eq_true rfl)) dX8_bring_2 ⟨Nat.zero_le _, Nat.zero_le _⟩) hS (fun H_1 lo_2 hX hS => ?_)
  refine x_ifeq (tgt := 20) hx hb dX8_bring_5 (by decide) (fun c_3 => ?_) (fun c_3 => ?_)
  · refine lv_ldc (v := (-1000001)) hx hb hown (hts _ kX8_bring_63) dX8_bring_20 ?_
    rw [← hQ]
    refine x_iret (v := (-1000001)) hx hb hr hX hS hlocks dX8_bring_22 ?_
    show PT_X8_bring _ _ _ _ _ _
    unfold PT_X8_bring
    rw [if_pos c_3]
    exact ⟨rfl, rfl⟩
  · obtain ⟨hme, hmn⟩ := hasM (c := nI n) rfl hn8 c_3
    refine lv_iload_n hx hb dX8_bring_8 rfl (lv_at hl 2 rfl) ?_
    refine lv_i2l (v := (k : Int32).toInt64) hx hb dX8_bring_9 rfl ?_
    refine lv_lconst (v := 0) hx hb dX8_bring_10 (by decide) ?_
    refine lv_ldc2 (v := 999) hx hb hown (hts _ kX8_bring_186) dX8_bring_11 ?_
    refine x_ip (w := (wM G B)) (x := x) (v := bI (decide (((0 : Int32)) ≤ ((k : Int32))) && decide (((k : Int32)) ≤ ((999 : Int32))))) (va_runS (As := [.long ((k : Int32).toInt64), .long (0), .long (999)]) (rest := []) ⟨hx, hb, hml, hown, hts⟩ (c_X8_in (l := l) (G := G) (B := B) (hW := hW) (x := x) (va := (k : Int32).toInt64) (vb := 0) (vc := 999) (v1 := (k : Int32)) (lo1 := (0 : Int32)) (hi1 := (999 : Int32)) (hv := (by first | rfl | decide)) (hlo := (by first | rfl | decide)) (hhi := (by first | rfl | decide))) (va_cwS 3 hts gX8_bring_X8_in rfl rfl rfl (by decide +kernel) ⟨Nat.le_of_ble_eq_true rfl, Nat.le_of_ble_eq_true rfl⟩) (x_ps (w := (wM G B)) hW hX hK hE hS [.long ((k : Int32).toInt64), .long (0), .long (999)]) rfl rfl hl.1 rfl (lv_room (Nat.le_of_ble_eq_true rfl)) dX8_bring_14 ⟨Nat.zero_le _, Nat.zero_le _⟩) hS (fun H_4 lo_5 hX hS => ?_)
    refine x_ifne (tgt := 23) hx hb dX8_bring_17 (by decide) (fun c_6 => ?_) (fun c_6 => ?_)
    · refine lv_aload_n hx hb dX8_bring_23 rfl (lv_at hl 0 rfl) ?_
      refine lv_iload_n hx hb dX8_bring_24 rfl (lv_at hl 1 rfl) ?_
      refine lv_iconst (v := 3) hx hb dX8_bring_25 (by decide) ?_
      refine W.eq (g2 := F0 mm 26 ls [.int (3), .int (nI (tn m)), .ref (B + (0))]) (congrArg (fun z9 : Int32 => F0 mm 26 ls [.int (3), .int (z9), .ref (B + (0))]) hme) ?_
      refine x_ip (w := (wM G B)) (x := x) (v := sF (x 5) (tn m) 3) (va_runV (As := [.int (nI (tn m)), .int (3)]) (rest := []) ⟨hx, hb, hml, hown, hts⟩ (c_X8_of (l := l) (G := G) (B := B) (hW := hW) (x := x) (ml := tn m) (k := 3) (hml9 := (by omega)) (hk10 := (by omega))) (cwV 2 hts gX8_bring_X8_of rfl rfl rfl (by decide +kernel) ⟨Nat.le_of_ble_eq_true rfl, Nat.le_of_ble_eq_true rfl⟩) (x_pv (w := (wM G B)) (a := 0) hW hX hK hE hS [.int (nI (tn m)), .int (3)] (Nat.le_of_ble_eq_true rfl) (shM_0 (G := G) (B := B)) rfl) rfl rfl hl.1 rfl (lv_room (Nat.le_of_ble_eq_true rfl)) dX8_bring_26 ⟨Nat.zero_le _, Nat.zero_le _⟩) hS (fun H_7 lo_8 hX hS => ?_)
      refine lv_iload_n hx hb dX8_bring_29 rfl (lv_at hl 2 rfl) ?_
      refine lv_iadd hx hb dX8_bring_30 ?_
      refine lv_istore_n (lv' := [(3, .int ((sF (x 5) (tn m) 3) + k)), (0, .ref (B + (0))), (1, .int (m)), (2, .int (k))]) hx hb dX8_bring_31 rfl hl (by decide) rfl (fun ls hl => ?_)
      refine lv_aload_n hx hb dX8_bring_32 rfl (lv_at hl 1 rfl) ?_
      refine x_get (w := (wM G B)) (a := 0) (v := .ref (B + (5))) hx hb hts iX8_bring_X8 hown hK hX (Nat.le_of_ble_eq_true rfl) (shM_0 (G := G) (B := B)) rfl 7 (by decide) (hts _ kX8_bring_22) (fun _ h9 => h9) rfl dX8_bring_33 ?_
      refine lv_iconst (v := 5) hx hb dX8_bring_36 (by decide) ?_
      refine lv_bipush (v := 10) hx hb dX8_bring_37 (by decide) ?_
      refine lv_iload_n hx hb dX8_bring_39 rfl (lv_at hl 2 rfl) ?_
      refine lv_imul hx hb dX8_bring_40 ?_
      refine lv_iadd hx hb dX8_bring_41 ?_
      refine lv_iconst (v := 3) hx hb dX8_bring_42 (by decide) ?_
      refine lv_iadd hx hb dX8_bring_43 ?_
      refine lv_iload_n hx hb dX8_bring_44 rfl (lv_at hl 0 rfl) ?_
      refine lv_ldc (v := 99999) hx hb hown (hts _ kX8_bring_188) dX8_bring_45 ?_
      have kJ_11 : ∀ (v_10 : Int32) (_ : v_10 = (if ((sF (x 5) (tn m) 3) + k) ≤ 99999 then ((sF (x 5) (tn m) 3) + k) else (99999 : Int32))) (H_12 : Heap) (lo_13 : List Loc) (_ : MR G (wM G B) x H_12) (_ : va_S (blkA B (B + 13)) ss.heap H_12 lo_13) (ls : Array Slot) (_ : lv_has ls 4 [(3, .int ((sF (x 5) (tn m) 3) + k)), (0, .ref (B + (0))), (1, .int (m)), (2, .int (k))]), W pp l ee rmX8_bring ss mm aa bb mt cd H_12 lo_13 0 0 Q (F0 mm 56 ls [.int (v_10), .int ((5 + (10 * m)) + 3), .ref (B + (5))]) := by
        intro v_10 ev_10 H_12 lo_13 hX hS ls hl
        refine x_iast (w := (wM G B)) (a := 5) (n := 93) (j := 5 + (10 * (tn m)) + 3) hx hb hK hW hX hS (Nat.le_of_ble_eq_true rfl) (fun f => (shM_a (G := G) (B := B) (a := 5) (f := f) (by decide))) (n_add (n_add rfl (n_mul rfl hme)) rfl) (by omega) (by decide) dX8_bring_56 (fun H_15 lo_16 hX hS => ?_)
        obtain ⟨x_14, ex_14⟩ : ∃ z, z = mst x (5) (5 + (10 * (tn m)) + 3) (v_10) := ⟨_, rfl⟩
        rw [← ex_14] at hX
        refine lv_aload_n hx hb dX8_bring_57 rfl (lv_at hl 1 rfl) ?_
        refine lv_iload_n hx hb dX8_bring_58 rfl (lv_at hl 2 rfl) ?_
        refine lv_iconst (v := 3) hx hb dX8_bring_59 (by decide) ?_
        refine W.eq (g2 := F0 mm 60 ls [.int (3), .int (nI (tn m)), .ref (B + (0))]) (congrArg (fun z9 : Int32 => F0 mm 60 ls [.int (3), .int (z9), .ref (B + (0))]) hme) ?_
        refine x_ip (w := (wM G B)) (x := x_14) (v := sF (x_14 5) (tn m) 3) (va_runV (As := [.int (nI (tn m)), .int (3)]) (rest := []) ⟨hx, hb, hml, hown, hts⟩ (c_X8_of (l := l) (G := G) (B := B) (hW := hW) (x := x_14) (ml := tn m) (k := 3) (hml9 := (by omega)) (hk10 := (by omega))) (cwV 2 hts gX8_bring_X8_of rfl rfl rfl (by decide +kernel) ⟨Nat.le_of_ble_eq_true rfl, Nat.le_of_ble_eq_true rfl⟩) (x_pv (w := (wM G B)) (a := 0) hW hX hK hE hS [.int (nI (tn m)), .int (3)] (Nat.le_of_ble_eq_true rfl) (shM_0 (G := G) (B := B)) rfl) rfl rfl hl.1 rfl (lv_room (Nat.le_of_ble_eq_true rfl)) dX8_bring_60 ⟨Nat.zero_le _, Nat.zero_le _⟩) hS (fun H_17 lo_18 hX hS => ?_)
        rw [← hQ]
        refine x_iret (v := sF (x_14 5) (tn m) 3) hx hb hr hX hS hlocks dX8_bring_63 ?_
        show PT_X8_bring _ _ _ _ _ _
        unfold PT_X8_bring
        rw [if_neg (ne_of_true c_3), if_pos c_6]
        have hv9 : v_10 = jmin (sF (x 5) (tn m) 3 + k) 99999 := by rw [ev_10]; exact jmin_ref
        refine ⟨?_, by rw [ex_14, hv9]⟩
        show x_14 5 (5 + 10 * tn m + 3) = _
        rw [ex_14, mst_self, hv9]
      refine lv_icmp_le (tgt := 55) hx hb dX8_bring_47 (by decide) (fun c_9 => ?_) (fun c_9 => ?_)
      · refine lv_iload_n hx hb dX8_bring_55 rfl (lv_at hl 0 rfl) ?_
        exact kJ_11 ((sF (x 5) (tn m) 3) + k) (by rw [if_pos c_9]) _ _ hX hS ls (lv_sub hl [0, 1, 2, 3] rfl)
      · refine lv_ldc (v := 99999) hx hb hown (hts _ kX8_bring_188) dX8_bring_50 ?_
        refine lv_goto (tgt := 56) hx hb dX8_bring_52 (by decide) ?_
        exact kJ_11 (99999) (by rw [if_neg c_9]) _ _ hX hS ls (lv_sub hl [0, 1, 2, 3] rfl)
    · refine lv_ldc (v := (-1000001)) hx hb hown (hts _ kX8_bring_63) dX8_bring_20 ?_
      rw [← hQ]
      refine x_iret (v := (-1000001)) hx hb hr hX hS hlocks dX8_bring_22 ?_
      show PT_X8_bring _ _ _ _ _ _
      unfold PT_X8_bring
      rw [if_neg (ne_of_true c_3), if_neg (ne_of_false c_6)]
      exact ⟨rfl, rfl⟩

def PT_X8_mill (x : Mem) (m : Int32) (a : Int32) (n : Nat) (r : Int32) (u : Mem) : Prop := (if (decide (0 ≤ m) && decide (m < nI n)) = false then (r = (-1000001) ∧ u = x) else (if (decide (((0 : Int32)) ≤ ((a : Int32))) && decide (((a : Int32)) ≤ ((9 : Int32)))) = false then (r = (-1000001) ∧ u = x) else (r = sF (x 5) (tn m) (tn a) ∧ u = x)))
theorem kX8_mill_63 : (.constant RX8 63 (-1000001) : Cond) ∈ wsX8_mill := by decide +kernel
theorem kX8_mill_189 : (.constantLong RX8 189 (9) : Cond) ∈ wsX8_mill := by decide +kernel
abbrev rmX8_mill : Room := { frames := 2, cells := 0, slots := 0, locals := 46 }
set_option maxHeartbeats 4000000 in
set_option maxRecDepth 100000 in
theorem c_X8_mill (l : Launch) (G : GG) (B : Nat) (hW : WOK (wM G B)) (x : Mem) (m : Int32) (a : Int32) {n : Nat} (hN : x 5 0 = nI n) (hn8 : n ≤ 8) : Met l yX8_mill wsX8_mill rmX8_mill (XP G (wM G B) [.ref (B + (0)), .int (m), .int (a)] x) (va_Qi (fun r u => PT_X8_mill x m a n r u) (XB G (wM G B)) (blkA B (B + 13))) 0 0 (blkA B (B + 13)) := by
  refine Met.ofW (cc := cX8_mill) (maxL := 3) (ret := (some .int)) (by decide) rfl ?_
  intro pp ee ss mm aa bb mt cd s1 Bd hml hv
  obtain ⟨hae, hX, hK, hE⟩ := hv
  have hx := Bd.exec
  have hb := Bd.bytes
  have hr := Bd.returns
  have hts := atoms_spec (ws := wsX8_mill) Bd.pre
  have hown : ss.vm.findClass RX8 = some mm.cls := findClass_of_methodNamed Bd.named
  have hlocks := Bd.notSynchronized
  have hS : va_S (blkA B (B + 13)) ss.heap ss.heap [] := va_S.rf
  have hl := lv_entry ([.ref (B + (0)), .int (m), .int (a)]) (n := 3) (Nat.le_of_ble_eq_true rfl)
  subst hae
  rw [lg_entry_eq]
  generalize (lg_sl ([.ref (B + (0)), .int (m), .int (a)]) ++ List.replicate (3 - (lg_sl ([.ref (B + (0)), .int (m), .int (a)])).length) Slot.unset).toArray = ls at hl ⊢
  have hl : lv_has ls 3 [(0, .ref (B + (0))), (1, .int (m)), (2, .int (a))] := hl
  generalize ([.ref (B + (0)), .int (m), .int (a)] : List Value).toArray = aa at hts ⊢
  show W pp l ee rmX8_mill ss mm aa bb mt cd ss.heap [] 0 0 _ (F0 mm 0 ls [])
  generalize hQ : MQ bb (va_Qi (fun r u => PT_X8_mill x m a n r u) (XB G (wM G B)) (blkA B (B + 13))) aa ss 0 0 (blkA B (B + 13)) = Q
  refine lv_aload_n hx hb dX8_mill_0 rfl (lv_at hl 0 rfl) ?_
  refine lv_iload_n hx hb dX8_mill_1 rfl (lv_at hl 1 rfl) ?_
  refine x_ip (w := (wM G B)) (x := x) (v := bI (decide (0 ≤ m) && decide (m < nI n))) (va_runV (As := [.int (m)]) (rest := []) ⟨hx, hb, hml, hown, hts⟩ (c_X8_isMill (l := l) (G := G) (B := B) (hW := hW) (x := x) (v := m) (n := n) (hN := hN) (hn8 := hn8)) (cwV 1 hts gX8_mill_X8_isMill rfl rfl rfl (by decide +kernel) ⟨Nat.le_of_ble_eq_true rfl, Nat.le_of_ble_eq_true rfl⟩) (x_pv (w := (wM G B)) (a := 0) hW hX hK hE hS [.int (m)] (Nat.le_of_ble_eq_true rfl) (shM_0 (G := G) (B := B)) rfl) rfl rfl hl.1 rfl (lv_room (Nat.le_of_ble_eq_true rfl)) dX8_mill_2 ⟨Nat.zero_le _, Nat.zero_le _⟩) hS (fun H_1 lo_2 hX hS => ?_)
  refine x_ifeq (tgt := 29) hx hb dX8_mill_5 (by decide) (fun c_3 => ?_) (fun c_3 => ?_)
  · refine lv_ldc (v := (-1000001)) hx hb hown (hts _ kX8_mill_63) dX8_mill_29 ?_
    rw [← hQ]
    refine x_iret (v := (-1000001)) hx hb hr hX hS hlocks dX8_mill_31 ?_
    show PT_X8_mill _ _ _ _ _ _
    unfold PT_X8_mill
    rw [if_pos c_3]
    exact ⟨rfl, rfl⟩
  · obtain ⟨hme, hmn⟩ := hasM (c := nI n) rfl hn8 c_3
    refine lv_iload_n hx hb dX8_mill_8 rfl (lv_at hl 2 rfl) ?_
    refine lv_i2l (v := (a : Int32).toInt64) hx hb dX8_mill_9 rfl ?_
    refine lv_lconst (v := 0) hx hb dX8_mill_10 (by decide) ?_
    refine lv_ldc2 (v := 9) hx hb hown (hts _ kX8_mill_189) dX8_mill_11 ?_
    refine x_ip (w := (wM G B)) (x := x) (v := bI (decide (((0 : Int32)) ≤ ((a : Int32))) && decide (((a : Int32)) ≤ ((9 : Int32))))) (va_runS (As := [.long ((a : Int32).toInt64), .long (0), .long (9)]) (rest := []) ⟨hx, hb, hml, hown, hts⟩ (c_X8_in (l := l) (G := G) (B := B) (hW := hW) (x := x) (va := (a : Int32).toInt64) (vb := 0) (vc := 9) (v1 := (a : Int32)) (lo1 := (0 : Int32)) (hi1 := (9 : Int32)) (hv := (by first | rfl | decide)) (hlo := (by first | rfl | decide)) (hhi := (by first | rfl | decide))) (va_cwS 3 hts gX8_mill_X8_in rfl rfl rfl (by decide +kernel) ⟨Nat.le_of_ble_eq_true rfl, Nat.le_of_ble_eq_true rfl⟩) (x_ps (w := (wM G B)) hW hX hK hE hS [.long ((a : Int32).toInt64), .long (0), .long (9)]) rfl rfl hl.1 rfl (lv_room (Nat.le_of_ble_eq_true rfl)) dX8_mill_14 ⟨Nat.zero_le _, Nat.zero_le _⟩) hS (fun H_4 lo_5 hX hS => ?_)
    refine x_ifeq (tgt := 29) hx hb dX8_mill_17 (by decide) (fun c_6 => ?_) (fun c_6 => ?_)
    · refine lv_ldc (v := (-1000001)) hx hb hown (hts _ kX8_mill_63) dX8_mill_29 ?_
      rw [← hQ]
      refine x_iret (v := (-1000001)) hx hb hr hX hS hlocks dX8_mill_31 ?_
      show PT_X8_mill _ _ _ _ _ _
      unfold PT_X8_mill
      rw [if_neg (ne_of_true c_3), if_pos c_6]
      exact ⟨rfl, rfl⟩
    · obtain ⟨hae, ha9⟩ := within_nI (k := 9) rfl (by decide) c_6
      refine lv_aload_n hx hb dX8_mill_20 rfl (lv_at hl 0 rfl) ?_
      refine lv_iload_n hx hb dX8_mill_21 rfl (lv_at hl 1 rfl) ?_
      refine lv_iload_n hx hb dX8_mill_22 rfl (lv_at hl 2 rfl) ?_
      refine W.eq (g2 := F0 mm 23 ls [.int (a), .int (nI (tn m)), .ref (B + (0))]) (congrArg (fun z9 : Int32 => F0 mm 23 ls [.int (a), .int (z9), .ref (B + (0))]) hme) ?_
      refine W.eq (g2 := F0 mm 23 ls [.int (nI (tn a)), .int (nI (tn m)), .ref (B + (0))]) (congrArg (fun z9 : Int32 => F0 mm 23 ls [.int (z9), .int (nI (tn m)), .ref (B + (0))]) hae) ?_
      refine x_ip (w := (wM G B)) (x := x) (v := sF (x 5) (tn m) (tn a)) (va_runV (As := [.int (nI (tn m)), .int (nI (tn a))]) (rest := []) ⟨hx, hb, hml, hown, hts⟩ (c_X8_of (l := l) (G := G) (B := B) (hW := hW) (x := x) (ml := tn m) (k := tn a) (hml9 := (by omega)) (hk10 := (by omega))) (cwV 2 hts gX8_mill_X8_of rfl rfl rfl (by decide +kernel) ⟨Nat.le_of_ble_eq_true rfl, Nat.le_of_ble_eq_true rfl⟩) (x_pv (w := (wM G B)) (a := 0) hW hX hK hE hS [.int (nI (tn m)), .int (nI (tn a))] (Nat.le_of_ble_eq_true rfl) (shM_0 (G := G) (B := B)) rfl) rfl rfl hl.1 rfl (lv_room (Nat.le_of_ble_eq_true rfl)) dX8_mill_23 ⟨Nat.zero_le _, Nat.zero_le _⟩) hS (fun H_7 lo_8 hX hS => ?_)
      refine lv_goto (tgt := 31) hx hb dX8_mill_26 (by decide) ?_
      rw [← hQ]
      refine x_iret (v := sF (x 5) (tn m) (tn a)) hx hb hr hX hS hlocks dX8_mill_31 ?_
      show PT_X8_mill _ _ _ _ _ _
      unfold PT_X8_mill
      rw [if_neg (ne_of_true c_3), if_neg (ne_of_true c_6)]
      exact ⟨rfl, rfl⟩

def PT_X8_kind (x : Mem) (m : Int32) (n : Nat) (r : Int32) (u : Mem) : Prop := (if (decide (0 ≤ m) && decide (m < nI n)) = false then (r = (-1000001) ∧ u = x) else (r = x (5) (85 + (tn m)) ∧ u = x))
theorem kX8_kind_63 : (.constant RX8 63 (-1000001) : Cond) ∈ wsX8_kind := by decide +kernel
theorem kX8_kind_22 : (.fieldLink RX8 22 "WindTakenModel" "now" "[I" : Cond) ∈ wsX8_kind := by decide +kernel
theorem iX8_kind_X8 : ∀ w ∈ wsX80, w ∈ wsX8_kind := by decide +kernel
abbrev rmX8_kind : Room := { frames := 2, cells := 0, slots := 0, locals := 46 }
set_option maxHeartbeats 4000000 in
set_option maxRecDepth 100000 in
theorem c_X8_kind (l : Launch) (G : GG) (B : Nat) (hW : WOK (wM G B)) (x : Mem) (m : Int32) {n : Nat} (hN : x 5 0 = nI n) (hn8 : n ≤ 8) : Met l yX8_kind wsX8_kind rmX8_kind (XP G (wM G B) [.ref (B + (0)), .int (m)] x) (va_Qi (fun r u => PT_X8_kind x m n r u) (XB G (wM G B)) (blkA B (B + 13))) 0 0 (blkA B (B + 13)) := by
  refine Met.ofW (cc := cX8_kind) (maxL := 2) (ret := (some .int)) (by decide) rfl ?_
  intro pp ee ss mm aa bb mt cd s1 Bd hml hv
  obtain ⟨hae, hX, hK, hE⟩ := hv
  have hx := Bd.exec
  have hb := Bd.bytes
  have hr := Bd.returns
  have hts := atoms_spec (ws := wsX8_kind) Bd.pre
  have hown : ss.vm.findClass RX8 = some mm.cls := findClass_of_methodNamed Bd.named
  have hlocks := Bd.notSynchronized
  have hS : va_S (blkA B (B + 13)) ss.heap ss.heap [] := va_S.rf
  have hl := lv_entry ([.ref (B + (0)), .int (m)]) (n := 2) (Nat.le_of_ble_eq_true rfl)
  subst hae
  rw [lg_entry_eq]
  generalize (lg_sl ([.ref (B + (0)), .int (m)]) ++ List.replicate (2 - (lg_sl ([.ref (B + (0)), .int (m)])).length) Slot.unset).toArray = ls at hl ⊢
  have hl : lv_has ls 2 [(0, .ref (B + (0))), (1, .int (m))] := hl
  generalize ([.ref (B + (0)), .int (m)] : List Value).toArray = aa at hts ⊢
  show W pp l ee rmX8_kind ss mm aa bb mt cd ss.heap [] 0 0 _ (F0 mm 0 ls [])
  generalize hQ : MQ bb (va_Qi (fun r u => PT_X8_kind x m n r u) (XB G (wM G B)) (blkA B (B + 13))) aa ss 0 0 (blkA B (B + 13)) = Q
  refine lv_aload_n hx hb dX8_kind_0 rfl (lv_at hl 0 rfl) ?_
  refine lv_iload_n hx hb dX8_kind_1 rfl (lv_at hl 1 rfl) ?_
  refine x_ip (w := (wM G B)) (x := x) (v := bI (decide (0 ≤ m) && decide (m < nI n))) (va_runV (As := [.int (m)]) (rest := []) ⟨hx, hb, hml, hown, hts⟩ (c_X8_isMill (l := l) (G := G) (B := B) (hW := hW) (x := x) (v := m) (n := n) (hN := hN) (hn8 := hn8)) (cwV 1 hts gX8_kind_X8_isMill rfl rfl rfl (by decide +kernel) ⟨Nat.le_of_ble_eq_true rfl, Nat.le_of_ble_eq_true rfl⟩) (x_pv (w := (wM G B)) (a := 0) hW hX hK hE hS [.int (m)] (Nat.le_of_ble_eq_true rfl) (shM_0 (G := G) (B := B)) rfl) rfl rfl hl.1 rfl (lv_room (Nat.le_of_ble_eq_true rfl)) dX8_kind_2 ⟨Nat.zero_le _, Nat.zero_le _⟩) hS (fun H_1 lo_2 hX hS => ?_)
  refine x_ifeq (tgt := 20) hx hb dX8_kind_5 (by decide) (fun c_3 => ?_) (fun c_3 => ?_)
  · refine lv_ldc (v := (-1000001)) hx hb hown (hts _ kX8_kind_63) dX8_kind_20 ?_
    rw [← hQ]
    refine x_iret (v := (-1000001)) hx hb hr hX hS hlocks dX8_kind_22 ?_
    show PT_X8_kind _ _ _ _ _
    unfold PT_X8_kind
    rw [if_pos c_3]
    exact ⟨rfl, rfl⟩
  · obtain ⟨hme, hmn⟩ := hasM (c := nI n) rfl hn8 c_3
    refine lv_aload_n hx hb dX8_kind_8 rfl (lv_at hl 0 rfl) ?_
    refine x_get (w := (wM G B)) (a := 0) (v := .ref (B + (5))) hx hb hts iX8_kind_X8 hown hK hX (Nat.le_of_ble_eq_true rfl) (shM_0 (G := G) (B := B)) rfl 7 (by decide) (hts _ kX8_kind_22) (fun _ h9 => h9) rfl dX8_kind_9 ?_
    refine lv_bipush (v := 85) hx hb dX8_kind_12 (by decide) ?_
    refine lv_iload_n hx hb dX8_kind_14 rfl (lv_at hl 1 rfl) ?_
    refine lv_iadd hx hb dX8_kind_15 ?_
    refine x_iald (w := (wM G B)) (a := 5) (n := 93) (j := 85 + (tn m)) hx hb hK hX (Nat.le_of_ble_eq_true rfl) (shM_a (G := G) (B := B) (a := 5) (f := x (5)) (by decide)) (n_add rfl hme) (by omega) (by decide) dX8_kind_16 ?_
    refine lv_goto (tgt := 22) hx hb dX8_kind_17 (by decide) ?_
    rw [← hQ]
    refine x_iret (v := x (5) (85 + (tn m))) hx hb hr hX hS hlocks dX8_kind_22 ?_
    show PT_X8_kind _ _ _ _ _
    unfold PT_X8_kind
    rw [if_neg (ne_of_true c_3)]
    exact ⟨rfl, rfl⟩

abbrev rmX8_isKind : Room := { frames := 0, cells := 0, slots := 0, locals := 0 }
set_option maxHeartbeats 4000000 in
set_option maxRecDepth 100000 in
theorem c_X8_isKind (l : Launch) (G : GG) (B : Nat) (hW : WOK (wM G B)) (x : Mem) {a : Nat} {b : Nat} (ha6 : a < 6) (ha1 : 1 ≤ a) (hb6 : b < 6) : Met l yX8_isKind wsX8_isKind rmX8_isKind (XP G (wM G B) [.int (nI a), .int (nI b)] x) (va_Qi (fun r u => r = bI (isKf 6 a b) ∧ u = x) (XB G (wM G B)) (blkA B (B + 13))) 0 0 (blkA B (B + 13)) := by
  refine Met.ofW (cc := cX8_isKind) (maxL := 2) (ret := (some .boolean)) (by decide) rfl ?_
  intro pp ee ss mm aa bb mt cd s1 Bd hml hv
  obtain ⟨hae, hX, hK, hE⟩ := hv
  have hx := Bd.exec
  have hb := Bd.bytes
  have hr := Bd.returns
  have hts := atoms_spec (ws := wsX8_isKind) Bd.pre
  have hown : ss.vm.findClass RX8 = some mm.cls := findClass_of_methodNamed Bd.named
  have hlocks := Bd.notSynchronized
  have hS : va_S (blkA B (B + 13)) ss.heap ss.heap [] := va_S.rf
  have hl := lv_entry ([.int (nI a), .int (nI b)]) (n := 2) (Nat.le_of_ble_eq_true rfl)
  subst hae
  rw [lg_entry_eq]
  generalize (lg_sl ([.int (nI a), .int (nI b)]) ++ List.replicate (2 - (lg_sl ([.int (nI a), .int (nI b)])).length) Slot.unset).toArray = ls at hl ⊢
  have hl : lv_has ls 2 [(0, .int (nI a)), (1, .int (nI b))] := hl
  generalize ([.int (nI a), .int (nI b)] : List Value).toArray = aa at hts ⊢
  show W pp l ee rmX8_isKind ss mm aa bb mt cd ss.heap [] 0 0 _ (F0 mm 0 ls [])
  generalize hQ : MQ bb (va_Qi (fun r u => r = bI (isKf 6 a b) ∧ u = x) (XB G (wM G B)) (blkA B (B + 13))) aa ss 0 0 (blkA B (B + 13)) = Q
  refine lv_iload_n hx hb dX8_isKind_0 rfl (lv_at hl 1 rfl) ?_
  refine lv_iload_n hx hb dX8_isKind_1 rfl (lv_at hl 0 rfl) ?_
  have kJ_3 : ∀ (v_2 : Bool) (_ : v_2 = (if nI b = nI a then true else (if nI b = 0 then true else (if nI b = 1 then (if nI a = 4 then (if nI b = 2 then (if nI a = 3 then true else false) else false) else true) else (if nI b = 2 then (if nI a = 3 then true else false) else false))))) (H_4 : Heap) (lo_5 : List Loc) (_ : MR G (wM G B) x H_4) (_ : va_S (blkA B (B + 13)) ss.heap H_4 lo_5) (ls : Array Slot) (_ : lv_has ls 2 [(0, .int (nI a)), (1, .int (nI b))]), W pp l ee rmX8_isKind ss mm aa bb mt cd H_4 lo_5 0 0 Q (F0 mm 34 ls [.int (bI (v_2))]) := by
    intro v_2 ev_2 H_4 lo_5 hX hS ls hl
    rw [← hQ]
    refine x_zret (v := bI (v_2)) (ty := .boolean) hx hb hr (bI_nar _) hX hS hlocks dX8_isKind_34 ?_
    refine ⟨?_, rfl⟩
    rw [ev_2]
    exact isK_all a ha6 ha1 b hb6
  refine lv_icmp_eq (tgt := 29) hx hb dX8_isKind_2 (by decide) (fun c_1 => ?_) (fun c_1 => ?_)
  · refine lv_iconst (v := 1) hx hb dX8_isKind_29 (by decide) ?_
    refine lv_goto (tgt := 34) hx hb dX8_isKind_30 (by decide) ?_
    exact kJ_3 (true) (by rw [if_pos c_1]) _ _ hX hS ls (lv_sub hl [0, 1] rfl)
  · refine lv_iload_n hx hb dX8_isKind_5 rfl (lv_at hl 1 rfl) ?_
    refine lv_if_eq (tgt := 29) hx hb dX8_isKind_6 (by decide) (fun c_6 => ?_) (fun c_6 => ?_)
    · refine lv_iconst (v := 1) hx hb dX8_isKind_29 (by decide) ?_
      refine lv_goto (tgt := 34) hx hb dX8_isKind_30 (by decide) ?_
      exact kJ_3 (true) (by rw [if_neg c_1, if_pos c_6]) _ _ hX hS ls (lv_sub hl [0, 1] rfl)
    · refine lv_iload_n hx hb dX8_isKind_9 rfl (lv_at hl 1 rfl) ?_
      refine lv_iconst (v := 1) hx hb dX8_isKind_10 (by decide) ?_
      refine lv_icmp_ne (tgt := 19) hx hb dX8_isKind_11 (by decide) (fun c_7 => ?_) (fun c_7 => ?_)
      · refine lv_iload_n hx hb dX8_isKind_19 rfl (lv_at hl 1 rfl) ?_
        refine lv_iconst (v := 2) hx hb dX8_isKind_20 (by decide) ?_
        refine lv_icmp_ne (tgt := 33) hx hb dX8_isKind_21 (by decide) (fun c_8 => ?_) (fun c_8 => ?_)
        · refine lv_iconst (v := 0) hx hb dX8_isKind_33 (by decide) ?_
          exact kJ_3 (false) (by rw [if_neg c_1, if_neg c_6, if_neg c_7, if_neg c_8]) _ _ hX hS ls (lv_sub hl [0, 1] rfl)
        · refine lv_iload_n hx hb dX8_isKind_24 rfl (lv_at hl 0 rfl) ?_
          refine lv_iconst (v := 3) hx hb dX8_isKind_25 (by decide) ?_
          refine lv_icmp_ne (tgt := 33) hx hb dX8_isKind_26 (by decide) (fun c_9 => ?_) (fun c_9 => ?_)
          · refine lv_iconst (v := 0) hx hb dX8_isKind_33 (by decide) ?_
            exact kJ_3 (false) (by rw [if_neg c_1, if_neg c_6, if_neg c_7, if_pos c_8, if_neg c_9]) _ _ hX hS ls (lv_sub hl [0, 1] rfl)
          · refine lv_iconst (v := 1) hx hb dX8_isKind_29 (by decide) ?_
            refine lv_goto (tgt := 34) hx hb dX8_isKind_30 (by decide) ?_
            exact kJ_3 (true) (by rw [if_neg c_1, if_neg c_6, if_neg c_7, if_pos c_8, if_pos c_9]) _ _ hX hS ls (lv_sub hl [0, 1] rfl)
      · refine lv_iload_n hx hb dX8_isKind_14 rfl (lv_at hl 0 rfl) ?_
        refine lv_iconst (v := 4) hx hb dX8_isKind_15 (by decide) ?_
        refine lv_icmp_ne (tgt := 29) hx hb dX8_isKind_16 (by decide) (fun c_10 => ?_) (fun c_10 => ?_)
        · refine lv_iconst (v := 1) hx hb dX8_isKind_29 (by decide) ?_
          refine lv_goto (tgt := 34) hx hb dX8_isKind_30 (by decide) ?_
          exact kJ_3 (true) (by rw [if_neg c_1, if_neg c_6, if_pos c_7, if_neg c_10]) _ _ hX hS ls (lv_sub hl [0, 1] rfl)
        · refine lv_iload_n hx hb dX8_isKind_19 rfl (lv_at hl 1 rfl) ?_
          refine lv_iconst (v := 2) hx hb dX8_isKind_20 (by decide) ?_
          refine lv_icmp_ne (tgt := 33) hx hb dX8_isKind_21 (by decide) (fun c_11 => ?_) (fun c_11 => ?_)
          · refine lv_iconst (v := 0) hx hb dX8_isKind_33 (by decide) ?_
            exact kJ_3 (false) (by rw [if_neg c_1, if_neg c_6, if_pos c_7, if_pos c_10, if_neg c_11]) _ _ hX hS ls (lv_sub hl [0, 1] rfl)
          · refine lv_iload_n hx hb dX8_isKind_24 rfl (lv_at hl 0 rfl) ?_
            refine lv_iconst (v := 3) hx hb dX8_isKind_25 (by decide) ?_
            refine lv_icmp_ne (tgt := 33) hx hb dX8_isKind_26 (by decide) (fun c_12 => ?_) (fun c_12 => ?_)
            · refine lv_iconst (v := 0) hx hb dX8_isKind_33 (by decide) ?_
              exact kJ_3 (false) (by rw [if_neg c_1, if_neg c_6, if_pos c_7, if_pos c_10, if_pos c_11, if_neg c_12]) _ _ hX hS ls (lv_sub hl [0, 1] rfl)
            · refine lv_iconst (v := 1) hx hb dX8_isKind_29 (by decide) ?_
              refine lv_goto (tgt := 34) hx hb dX8_isKind_30 (by decide) ?_
              exact kJ_3 (true) (by rw [if_neg c_1, if_neg c_6, if_pos c_7, if_pos c_10, if_pos c_11, if_pos c_12]) _ _ hX hS ls (lv_sub hl [0, 1] rfl)

def PT_X8_as (x : Mem) (m : Int32) (k : Int32) (n : Nat) (r : Int32) (u : Mem) : Prop := (if (decide (0 ≤ m) && decide (m < nI n)) = false then (r = (-1000001) ∧ u = x) else (if (decide (((0 : Int32)) ≤ ((k : Int32))) && decide (((k : Int32)) ≤ ((5 : Int32)))) = true then (if (isKf 6 (tn (x (5) (85 + (tn m)))) (tn k)) = false then (r = -1000010 - 3 ∧ u = mst x 0 3 3) else (r = m ∧ u = mst x 0 3 0)) else (r = (-1000001) ∧ u = x)))
theorem kX8_as_63 : (.constant RX8 63 (-1000001) : Cond) ∈ wsX8_as := by decide +kernel
theorem kX8_as_263 : (.constantLong RX8 263 (5) : Cond) ∈ wsX8_as := by decide +kernel
theorem kX8_as_22 : (.fieldLink RX8 22 "WindTakenModel" "now" "[I" : Cond) ∈ wsX8_as := by decide +kernel
theorem iX8_as_X8 : ∀ w ∈ wsX80, w ∈ wsX8_as := by decide +kernel
abbrev rmX8_as : Room := { frames := 2, cells := 0, slots := 0, locals := 46 }
set_option maxHeartbeats 4000000 in
set_option maxRecDepth 100000 in
theorem c_X8_as (l : Launch) (G : GG) (B : Nat) (hW : WOK (wM G B)) (x : Mem) (m : Int32) (k : Int32) {n : Nat} (hN : x 5 0 = nI n) (hn8 : n ≤ 8) (hkk : ∀ j, j < n → ∃ k, 1 ≤ k ∧ k < 6 ∧ sK (x 5) j = nI k) : Met l yX8_as wsX8_as rmX8_as (XP G (wM G B) [.ref (B + (0)), .int (m), .int (k)] x) (va_Qi (fun r u => PT_X8_as x m k n r u) (XB G (wM G B)) (blkA B (B + 13))) 0 0 (blkA B (B + 13)) := by
  refine Met.ofW (cc := cX8_as) (maxL := 3) (ret := (some .int)) (by decide) rfl ?_
  intro pp ee ss mm aa bb mt cd s1 Bd hml hv
  obtain ⟨hae, hX, hK, hE⟩ := hv
  have hx := Bd.exec
  have hb := Bd.bytes
  have hr := Bd.returns
  have hts := atoms_spec (ws := wsX8_as) Bd.pre
  have hown : ss.vm.findClass RX8 = some mm.cls := findClass_of_methodNamed Bd.named
  have hlocks := Bd.notSynchronized
  have hS : va_S (blkA B (B + 13)) ss.heap ss.heap [] := va_S.rf
  have hl := lv_entry ([.ref (B + (0)), .int (m), .int (k)]) (n := 3) (Nat.le_of_ble_eq_true rfl)
  subst hae
  rw [lg_entry_eq]
  generalize (lg_sl ([.ref (B + (0)), .int (m), .int (k)]) ++ List.replicate (3 - (lg_sl ([.ref (B + (0)), .int (m), .int (k)])).length) Slot.unset).toArray = ls at hl ⊢
  have hl : lv_has ls 3 [(0, .ref (B + (0))), (1, .int (m)), (2, .int (k))] := hl
  generalize ([.ref (B + (0)), .int (m), .int (k)] : List Value).toArray = aa at hts ⊢
  show W pp l ee rmX8_as ss mm aa bb mt cd ss.heap [] 0 0 _ (F0 mm 0 ls [])
  generalize hQ : MQ bb (va_Qi (fun r u => PT_X8_as x m k n r u) (XB G (wM G B)) (blkA B (B + 13))) aa ss 0 0 (blkA B (B + 13)) = Q
  refine lv_aload_n hx hb dX8_as_0 rfl (lv_at hl 0 rfl) ?_
  refine lv_iload_n hx hb dX8_as_1 rfl (lv_at hl 1 rfl) ?_
  refine x_ip (w := (wM G B)) (x := x) (v := bI (decide (0 ≤ m) && decide (m < nI n))) (va_runV (As := [.int (m)]) (rest := []) ⟨hx, hb, hml, hown, hts⟩ (c_X8_isMill (l := l) (G := G) (B := B) (hW := hW) (x := x) (v := m) (n := n) (hN := hN) (hn8 := hn8)) (cwV 1 hts gX8_as_X8_isMill rfl rfl rfl (by decide +kernel) ⟨Nat.le_of_ble_eq_true rfl, Nat.le_of_ble_eq_true rfl⟩) (x_pv (w := (wM G B)) (a := 0) hW hX hK hE hS [.int (m)] (Nat.le_of_ble_eq_true rfl) (shM_0 (G := G) (B := B)) rfl) rfl rfl hl.1 rfl (lv_room (Nat.le_of_ble_eq_true rfl)) dX8_as_2 ⟨Nat.zero_le _, Nat.zero_le _⟩) hS (fun H_1 lo_2 hX hS => ?_)
  refine x_ifeq (tgt := 20) hx hb dX8_as_5 (by decide) (fun c_3 => ?_) (fun c_3 => ?_)
  · refine lv_ldc (v := (-1000001)) hx hb hown (hts _ kX8_as_63) dX8_as_20 ?_
    rw [← hQ]
    refine x_iret (v := (-1000001)) hx hb hr hX hS hlocks dX8_as_22 ?_
    show PT_X8_as _ _ _ _ _ _
    unfold PT_X8_as
    rw [if_pos c_3]
    exact ⟨rfl, rfl⟩
  · obtain ⟨hme, hmn⟩ := hasM (c := nI n) rfl hn8 c_3
    obtain ⟨hkx, hkx1, hkx6⟩ := kdN1 (x := x 5 (85 + tn m)) (hkk (tn m) hmn)
    refine lv_iload_n hx hb dX8_as_8 rfl (lv_at hl 2 rfl) ?_
    refine lv_i2l (v := (k : Int32).toInt64) hx hb dX8_as_9 rfl ?_
    refine lv_lconst (v := 0) hx hb dX8_as_10 (by decide) ?_
    refine lv_ldc2 (v := 5) hx hb hown (hts _ kX8_as_263) dX8_as_11 ?_
    refine x_ip (w := (wM G B)) (x := x) (v := bI (decide (((0 : Int32)) ≤ ((k : Int32))) && decide (((k : Int32)) ≤ ((5 : Int32))))) (va_runS (As := [.long ((k : Int32).toInt64), .long (0), .long (5)]) (rest := []) ⟨hx, hb, hml, hown, hts⟩ (c_X8_in (l := l) (G := G) (B := B) (hW := hW) (x := x) (va := (k : Int32).toInt64) (vb := 0) (vc := 5) (v1 := (k : Int32)) (lo1 := (0 : Int32)) (hi1 := (5 : Int32)) (hv := (by first | rfl | decide)) (hlo := (by first | rfl | decide)) (hhi := (by first | rfl | decide))) (va_cwS 3 hts gX8_as_X8_in rfl rfl rfl (by decide +kernel) ⟨Nat.le_of_ble_eq_true rfl, Nat.le_of_ble_eq_true rfl⟩) (x_ps (w := (wM G B)) hW hX hK hE hS [.long ((k : Int32).toInt64), .long (0), .long (5)]) rfl rfl hl.1 rfl (lv_room (Nat.le_of_ble_eq_true rfl)) dX8_as_14 ⟨Nat.zero_le _, Nat.zero_le _⟩) hS (fun H_4 lo_5 hX hS => ?_)
    refine x_ifne (tgt := 23) hx hb dX8_as_17 (by decide) (fun c_6 => ?_) (fun c_6 => ?_)
    · obtain ⟨hkbe, hkb5⟩ := within_nI (k := 5) rfl (by decide) c_6
      refine lv_aload_n hx hb dX8_as_23 rfl (lv_at hl 0 rfl) ?_
      refine lv_aload_n hx hb dX8_as_24 rfl (lv_at hl 0 rfl) ?_
      refine x_get (w := (wM G B)) (a := 0) (v := .ref (B + (5))) hx hb hts iX8_as_X8 hown hK hX (Nat.le_of_ble_eq_true rfl) (shM_0 (G := G) (B := B)) rfl 7 (by decide) (hts _ kX8_as_22) (fun _ h9 => h9) rfl dX8_as_25 ?_
      refine lv_bipush (v := 85) hx hb dX8_as_28 (by decide) ?_
      refine lv_iload_n hx hb dX8_as_30 rfl (lv_at hl 1 rfl) ?_
      refine lv_iadd hx hb dX8_as_31 ?_
      refine x_iald (w := (wM G B)) (a := 5) (n := 93) (j := 85 + (tn m)) hx hb hK hX (Nat.le_of_ble_eq_true rfl) (shM_a (G := G) (B := B) (a := 5) (f := x (5)) (by decide)) (n_add rfl hme) (by omega) (by decide) dX8_as_32 ?_
      refine lv_iload_n hx hb dX8_as_33 rfl (lv_at hl 2 rfl) ?_
      refine W.eq (g2 := F0 mm 34 ls [.int (k), .int (nI (tn (x (5) (85 + (tn m))))), .ref (B + (0))]) (congrArg (fun z9 : Int32 => F0 mm 34 ls [.int (k), .int (z9), .ref (B + (0))]) hkx) ?_
      refine W.eq (g2 := F0 mm 34 ls [.int (nI (tn k)), .int (nI (tn (x (5) (85 + (tn m))))), .ref (B + (0))]) (congrArg (fun z9 : Int32 => F0 mm 34 ls [.int (z9), .int (nI (tn (x (5) (85 + (tn m))))), .ref (B + (0))]) hkbe) ?_
      refine x_ip (w := (wM G B)) (x := x) (v := bI (isKf 6 (tn (x (5) (85 + (tn m)))) (tn k))) (va_runS (As := [.int (nI (tn (x (5) (85 + (tn m))))), .int (nI (tn k))]) (rest := [.ref (B + (0))]) ⟨hx, hb, hml, hown, hts⟩ (c_X8_isKind (l := l) (G := G) (B := B) (hW := hW) (x := x) (a := tn (x (5) (85 + (tn m)))) (b := tn k) (ha6 := (by omega)) (ha1 := (by omega)) (hb6 := (by omega))) (va_cwS 2 hts gX8_as_X8_isKind rfl rfl rfl (by decide +kernel) ⟨Nat.le_of_ble_eq_true rfl, Nat.le_of_ble_eq_true rfl⟩) (x_ps (w := (wM G B)) hW hX hK hE hS [.int (nI (tn (x (5) (85 + (tn m))))), .int (nI (tn k))]) rfl rfl hl.1 rfl (lv_room (Nat.le_of_ble_eq_true rfl)) dX8_as_34 ⟨Nat.zero_le _, Nat.zero_le _⟩) hS (fun H_7 lo_8 hX hS => ?_)
      refine x_ifeq (tgt := 44) hx hb dX8_as_37 (by decide) (fun c_9 => ?_) (fun c_9 => ?_)
      · refine lv_iconst (v := 3) hx hb dX8_as_44 (by decide) ?_
        refine lv_iload_n hx hb dX8_as_45 rfl (lv_at hl 1 rfl) ?_
        refine x_if (w := (wM G B)) (va_runV (As := [.int (3), .int (m)]) (rest := []) ⟨hx, hb, hml, hown, hts⟩ (c_X8_found (l := l) (G := G) (B := B) (hW := hW) (x := x) (nu := 3) (to := m)) (cwV 2 hts gX8_as_X8_found rfl rfl rfl (by decide +kernel) ⟨Nat.le_of_ble_eq_true rfl, Nat.le_of_ble_eq_true rfl⟩) (x_pv (w := (wM G B)) (a := 0) hW hX hK hE hS [.int (3), .int (m)] (Nat.le_of_ble_eq_true rfl) (shM_0 (G := G) (B := B)) rfl) rfl rfl hl.1 rfl (lv_room (Nat.le_of_ble_eq_true rfl)) dX8_as_46 ⟨Nat.zero_le _, Nat.zero_le _⟩) hS (fun r_12 x_13 H_10 lo_11 h_46 hX hS => ?_)
        try dsimp only at h_46
        rw [← hQ]
        refine x_iret (v := r_12) hx hb hr hX hS hlocks dX8_as_49 ?_
        show PT_X8_as _ _ _ _ _ _
        unfold PT_X8_as
        rw [if_neg (ne_of_true c_3), if_pos c_6, if_pos c_9]
        exact ⟨h_46.2.1 (by decide), h_46.2.2⟩
      · refine lv_iconst (v := 0) hx hb dX8_as_40 (by decide) ?_
        refine lv_goto (tgt := 45) hx hb dX8_as_41 (by decide) ?_
        refine lv_iload_n hx hb dX8_as_45 rfl (lv_at hl 1 rfl) ?_
        refine x_if (w := (wM G B)) (va_runV (As := [.int (0), .int (m)]) (rest := []) ⟨hx, hb, hml, hown, hts⟩ (c_X8_found (l := l) (G := G) (B := B) (hW := hW) (x := x) (nu := 0) (to := m)) (cwV 2 hts gX8_as_X8_found rfl rfl rfl (by decide +kernel) ⟨Nat.le_of_ble_eq_true rfl, Nat.le_of_ble_eq_true rfl⟩) (x_pv (w := (wM G B)) (a := 0) hW hX hK hE hS [.int (0), .int (m)] (Nat.le_of_ble_eq_true rfl) (shM_0 (G := G) (B := B)) rfl) rfl rfl hl.1 rfl (lv_room (Nat.le_of_ble_eq_true rfl)) dX8_as_46 ⟨Nat.zero_le _, Nat.zero_le _⟩) hS (fun r_16 x_17 H_14 lo_15 h_46 hX hS => ?_)
        try dsimp only at h_46
        rw [← hQ]
        refine x_iret (v := r_16) hx hb hr hX hS hlocks dX8_as_49 ?_
        show PT_X8_as _ _ _ _ _ _
        unfold PT_X8_as
        rw [if_neg (ne_of_true c_3), if_pos c_6, if_neg (ne_of_true c_9)]
        exact ⟨h_46.1 rfl, h_46.2.2⟩
    · refine lv_ldc (v := (-1000001)) hx hb hown (hts _ kX8_as_63) dX8_as_20 ?_
      rw [← hQ]
      refine x_iret (v := (-1000001)) hx hb hr hX hS hlocks dX8_as_22 ?_
      show PT_X8_as _ _ _ _ _ _
      unfold PT_X8_as
      rw [if_neg (ne_of_true c_3), if_neg (ne_of_false c_6)]
      exact ⟨rfl, rfl⟩

abbrev rmcopyRow_85 : Room := { frames := 0, cells := 0, slots := 0, locals := 0 }
set_option maxHeartbeats 4000000 in
set_option maxRecDepth 100000 in
theorem c_copyRow_85 (l : Launch) (G : GG) (B : Nat) (hW : WOK (wM G B)) (x : Mem)  : Met l yX8_copyRow wsX8_copyRow rmcopyRow_85 (XP G (wM G B) [.ref (B + (8)), .ref (B + (5))] x) (va_Qv (fun u => (∀ c, c ≠ 5 → u c = x c) ∧ ∀ k, k < 93 → u 5 k = x 8 k) (XB G (wM G B)) (blkA B (B + 13))) 0 0 (blkA B (B + 13)) := by
  refine Met.ofW (cc := cX8_copyRow) (maxL := 3) (ret := none) (by decide) rfl ?_
  intro pp ee ss mm aa bb mt cd s1 Bd hml hv
  obtain ⟨hae, hX, hK, hE⟩ := hv
  have hx := Bd.exec
  have hb := Bd.bytes
  have hr := Bd.returns
  have hts := atoms_spec (ws := wsX8_copyRow) Bd.pre
  have hown : ss.vm.findClass RX8 = some mm.cls := findClass_of_methodNamed Bd.named
  have hlocks := Bd.notSynchronized
  have hS : va_S (blkA B (B + 13)) ss.heap ss.heap [] := va_S.rf
  have hl := lv_entry ([.ref (B + (8)), .ref (B + (5))]) (n := 3) (Nat.le_of_ble_eq_true rfl)
  subst hae
  rw [lg_entry_eq]
  generalize (lg_sl ([.ref (B + (8)), .ref (B + (5))]) ++ List.replicate (3 - (lg_sl ([.ref (B + (8)), .ref (B + (5))])).length) Slot.unset).toArray = ls at hl ⊢
  have hl : lv_has ls 3 [(0, .ref (B + (8))), (1, .ref (B + (5)))] := hl
  generalize ([.ref (B + (8)), .ref (B + (5))] : List Value).toArray = aa at hts ⊢
  show W pp l ee rmcopyRow_85 ss mm aa bb mt cd ss.heap [] 0 0 _ (F0 mm 0 ls [])
  generalize hQ : MQ bb (va_Qv (fun u => (∀ c, c ≠ 5 → u c = x c) ∧ ∀ k, k < 93 → u 5 k = x 8 k) (XB G (wM G B)) (blkA B (B + 13))) aa ss 0 0 (blkA B (B + 13)) = Q
  refine lv_iconst (v := 0) hx hb dX8_copyRow_0 (by decide) ?_
  refine lv_istore_n (lv' := [(2, .int (0)), (0, .ref (B + (8))), (1, .ref (B + (5)))]) hx hb dX8_copyRow_1 rfl hl (by decide) rfl (fun ls hl => ?_)
  have L_1 : ∀ (n9 : Nat) (i : Nat)  (u1 : Mem) (_ : n9 = 93 - i) (_ : i ≤ 93 ∧ (∀ c, c ≠ 5 → u1 c = x c) ∧ ∀ k, k < i → u1 5 k = x 8 k) (H_2 : Heap) (lo_3 : List Loc) (_ : MR G (wM G B) u1 H_2) (_ : va_S (blkA B (B + 13)) ss.heap H_2 lo_3) (ls : Array Slot) (_ : lv_has ls 3 [(2, .int (nI i)), (0, .ref (B + (8))), (1, .ref (B + (5)))]), W pp l ee rmcopyRow_85 ss mm aa bb mt cd H_2 lo_3 0 0 Q (F0 mm 2 ls []) := by
    intro n9
    induction n9 using Nat.strongRecOn with
    | _ n9 ih => 
      have ih_2 := ih
      intro i u1 hn9 hI H_2 lo_3 hX hS ls hl
      obtain ⟨hi, ho, hk⟩ := hI
      refine lv_iload_n hx hb dX8_copyRow_2 rfl (lv_at hl 0 rfl) ?_
      refine lv_bipush (v := 93) hx hb dX8_copyRow_3 (by decide) ?_
      refine lv_icmp_ge (tgt := 20) hx hb dX8_copyRow_5 (by decide) (fun c_4 => ?_) (fun c_4 => ?_)
      · have nc_4 := (n_le (a := 93) (b := i) rfl rfl (by omega) (by omega)).mp c_4
        rw [← hQ]
        refine x_vret hx hb hr hX hS hlocks dX8_copyRow_20 ?_
        exact ⟨ho, fun k h9 => hk k (by omega)⟩
      · have nc_4 := Nat.not_le.mp (fun q => c_4 ((n_le (a := 93) (b := i) rfl rfl (by omega) (by omega)).mpr q))
        refine lv_aload_n hx hb dX8_copyRow_8 rfl (lv_at hl 2 rfl) ?_
        refine lv_iload_n hx hb dX8_copyRow_9 rfl (lv_at hl 0 rfl) ?_
        refine lv_aload_n hx hb dX8_copyRow_10 rfl (lv_at hl 1 rfl) ?_
        refine lv_iload_n hx hb dX8_copyRow_11 rfl (lv_at hl 0 rfl) ?_
        refine x_iald (w := (wM G B)) (a := 8) (n := 93) (j := i) hx hb hK hX (Nat.le_of_ble_eq_true rfl) (shM_a (G := G) (B := B) (a := 8) (f := u1 (8)) (by decide)) rfl (by omega) (by decide) dX8_copyRow_12 ?_
        refine x_iast (w := (wM G B)) (a := 5) (n := 93) (j := i) hx hb hK hW hX hS (Nat.le_of_ble_eq_true rfl) (fun f => (shM_a (G := G) (B := B) (a := 5) (f := f) (by decide))) rfl (by omega) (by decide) dX8_copyRow_13 (fun H_6 lo_7 hX hS => ?_)
        obtain ⟨x_5, ex_5⟩ : ∃ z, z = mst u1 (5) i (u1 (8) i) := ⟨_, rfl⟩
        rw [← ex_5] at hX
        refine lv_iinc (v := nI (i + 1)) (lv' := [(2, .int (nI (i + 1))), (0, .ref (B + (8))), (1, .ref (B + (5)))]) hx hb dX8_copyRow_14 hl (k := 0) rfl (inc_nI _) (by decide) rfl (fun ls hl => ?_)
        refine lv_goto (tgt := 2) hx hb dX8_copyRow_17 (by decide) ?_
        exact ih_2 _ (by omega) (i + 1) (x_5) rfl ⟨by omega, fun c c1 => by rw [ex_5, mst_ne c1]; exact ho c c1, fun k hk9 => by
          rw [ex_5, mst_eq]
          by_cases hi9 : k = i
          · rw [hi9, upd_eq, ho 8 (by decide)]
          · rw [upd_ne hi9]; exact hk k (by omega)⟩ _ _ hX hS ls (lv_sub hl [0, 1, 2] rfl)
  exact L_1 _ (0) (x) rfl ⟨Nat.zero_le _, fun c _ => rfl, fun k hk => absurd hk (Nat.not_lt_zero k)⟩ _ _ hX hS ls (lv_sub hl [0, 1, 2] rfl)

abbrev rmcopyRow_56 : Room := { frames := 0, cells := 0, slots := 0, locals := 0 }
set_option maxHeartbeats 4000000 in
set_option maxRecDepth 100000 in
theorem c_copyRow_56 (l : Launch) (G : GG) (B : Nat) (hW : WOK (wM G B)) (x : Mem)  : Met l yX8_copyRow wsX8_copyRow rmcopyRow_56 (XP G (wM G B) [.ref (B + (5)), .ref (B + (6))] x) (va_Qv (fun u => (∀ c, c ≠ 6 → u c = x c) ∧ ∀ k, k < 93 → u 6 k = x 5 k) (XB G (wM G B)) (blkA B (B + 13))) 0 0 (blkA B (B + 13)) := by
  refine Met.ofW (cc := cX8_copyRow) (maxL := 3) (ret := none) (by decide) rfl ?_
  intro pp ee ss mm aa bb mt cd s1 Bd hml hv
  obtain ⟨hae, hX, hK, hE⟩ := hv
  have hx := Bd.exec
  have hb := Bd.bytes
  have hr := Bd.returns
  have hts := atoms_spec (ws := wsX8_copyRow) Bd.pre
  have hown : ss.vm.findClass RX8 = some mm.cls := findClass_of_methodNamed Bd.named
  have hlocks := Bd.notSynchronized
  have hS : va_S (blkA B (B + 13)) ss.heap ss.heap [] := va_S.rf
  have hl := lv_entry ([.ref (B + (5)), .ref (B + (6))]) (n := 3) (Nat.le_of_ble_eq_true rfl)
  subst hae
  rw [lg_entry_eq]
  generalize (lg_sl ([.ref (B + (5)), .ref (B + (6))]) ++ List.replicate (3 - (lg_sl ([.ref (B + (5)), .ref (B + (6))])).length) Slot.unset).toArray = ls at hl ⊢
  have hl : lv_has ls 3 [(0, .ref (B + (5))), (1, .ref (B + (6)))] := hl
  generalize ([.ref (B + (5)), .ref (B + (6))] : List Value).toArray = aa at hts ⊢
  show W pp l ee rmcopyRow_56 ss mm aa bb mt cd ss.heap [] 0 0 _ (F0 mm 0 ls [])
  generalize hQ : MQ bb (va_Qv (fun u => (∀ c, c ≠ 6 → u c = x c) ∧ ∀ k, k < 93 → u 6 k = x 5 k) (XB G (wM G B)) (blkA B (B + 13))) aa ss 0 0 (blkA B (B + 13)) = Q
  refine lv_iconst (v := 0) hx hb dX8_copyRow_0 (by decide) ?_
  refine lv_istore_n (lv' := [(2, .int (0)), (0, .ref (B + (5))), (1, .ref (B + (6)))]) hx hb dX8_copyRow_1 rfl hl (by decide) rfl (fun ls hl => ?_)
  have L_1 : ∀ (n9 : Nat) (i : Nat)  (u1 : Mem) (_ : n9 = 93 - i) (_ : i ≤ 93 ∧ (∀ c, c ≠ 6 → u1 c = x c) ∧ ∀ k, k < i → u1 6 k = x 5 k) (H_2 : Heap) (lo_3 : List Loc) (_ : MR G (wM G B) u1 H_2) (_ : va_S (blkA B (B + 13)) ss.heap H_2 lo_3) (ls : Array Slot) (_ : lv_has ls 3 [(2, .int (nI i)), (0, .ref (B + (5))), (1, .ref (B + (6)))]), W pp l ee rmcopyRow_56 ss mm aa bb mt cd H_2 lo_3 0 0 Q (F0 mm 2 ls []) := by
    intro n9
    induction n9 using Nat.strongRecOn with
    | _ n9 ih => 
      have ih_2 := ih
      intro i u1 hn9 hI H_2 lo_3 hX hS ls hl
      obtain ⟨hi, ho, hk⟩ := hI
      refine lv_iload_n hx hb dX8_copyRow_2 rfl (lv_at hl 0 rfl) ?_
      refine lv_bipush (v := 93) hx hb dX8_copyRow_3 (by decide) ?_
      refine lv_icmp_ge (tgt := 20) hx hb dX8_copyRow_5 (by decide) (fun c_4 => ?_) (fun c_4 => ?_)
      · have nc_4 := (n_le (a := 93) (b := i) rfl rfl (by omega) (by omega)).mp c_4
        rw [← hQ]
        refine x_vret hx hb hr hX hS hlocks dX8_copyRow_20 ?_
        exact ⟨ho, fun k h9 => hk k (by omega)⟩
      · have nc_4 := Nat.not_le.mp (fun q => c_4 ((n_le (a := 93) (b := i) rfl rfl (by omega) (by omega)).mpr q))
        refine lv_aload_n hx hb dX8_copyRow_8 rfl (lv_at hl 2 rfl) ?_
        refine lv_iload_n hx hb dX8_copyRow_9 rfl (lv_at hl 0 rfl) ?_
        refine lv_aload_n hx hb dX8_copyRow_10 rfl (lv_at hl 1 rfl) ?_
        refine lv_iload_n hx hb dX8_copyRow_11 rfl (lv_at hl 0 rfl) ?_
        refine x_iald (w := (wM G B)) (a := 5) (n := 93) (j := i) hx hb hK hX (Nat.le_of_ble_eq_true rfl) (shM_a (G := G) (B := B) (a := 5) (f := u1 (5)) (by decide)) rfl (by omega) (by decide) dX8_copyRow_12 ?_
        refine x_iast (w := (wM G B)) (a := 6) (n := 93) (j := i) hx hb hK hW hX hS (Nat.le_of_ble_eq_true rfl) (fun f => (shM_a (G := G) (B := B) (a := 6) (f := f) (by decide))) rfl (by omega) (by decide) dX8_copyRow_13 (fun H_6 lo_7 hX hS => ?_)
        obtain ⟨x_5, ex_5⟩ : ∃ z, z = mst u1 (6) i (u1 (5) i) := ⟨_, rfl⟩
        rw [← ex_5] at hX
        refine lv_iinc (v := nI (i + 1)) (lv' := [(2, .int (nI (i + 1))), (0, .ref (B + (5))), (1, .ref (B + (6)))]) hx hb dX8_copyRow_14 hl (k := 0) rfl (inc_nI _) (by decide) rfl (fun ls hl => ?_)
        refine lv_goto (tgt := 2) hx hb dX8_copyRow_17 (by decide) ?_
        exact ih_2 _ (by omega) (i + 1) (x_5) rfl ⟨by omega, fun c c1 => by rw [ex_5, mst_ne c1]; exact ho c c1, fun k hk9 => by
          rw [ex_5, mst_eq]
          by_cases hi9 : k = i
          · rw [hi9, upd_eq, ho 5 (by decide)]
          · rw [upd_ne hi9]; exact hk k (by omega)⟩ _ _ hX hS ls (lv_sub hl [0, 1, 2] rfl)
  exact L_1 _ (0) (x) rfl ⟨Nat.zero_le _, fun c _ => rfl, fun k hk => absurd hk (Nat.not_lt_zero k)⟩ _ _ hX hS ls (lv_sub hl [0, 1, 2] rfl)

abbrev rmcopyRow_57 : Room := { frames := 0, cells := 0, slots := 0, locals := 0 }
set_option maxHeartbeats 4000000 in
set_option maxRecDepth 100000 in
theorem c_copyRow_57 (l : Launch) (G : GG) (B : Nat) (hW : WOK (wM G B)) (x : Mem)  : Met l yX8_copyRow wsX8_copyRow rmcopyRow_57 (XP G (wM G B) [.ref (B + (5)), .ref (B + (7))] x) (va_Qv (fun u => (∀ c, c ≠ 7 → u c = x c) ∧ ∀ k, k < 93 → u 7 k = x 5 k) (XB G (wM G B)) (blkA B (B + 13))) 0 0 (blkA B (B + 13)) := by
  refine Met.ofW (cc := cX8_copyRow) (maxL := 3) (ret := none) (by decide) rfl ?_
  intro pp ee ss mm aa bb mt cd s1 Bd hml hv
  obtain ⟨hae, hX, hK, hE⟩ := hv
  have hx := Bd.exec
  have hb := Bd.bytes
  have hr := Bd.returns
  have hts := atoms_spec (ws := wsX8_copyRow) Bd.pre
  have hown : ss.vm.findClass RX8 = some mm.cls := findClass_of_methodNamed Bd.named
  have hlocks := Bd.notSynchronized
  have hS : va_S (blkA B (B + 13)) ss.heap ss.heap [] := va_S.rf
  have hl := lv_entry ([.ref (B + (5)), .ref (B + (7))]) (n := 3) (Nat.le_of_ble_eq_true rfl)
  subst hae
  rw [lg_entry_eq]
  generalize (lg_sl ([.ref (B + (5)), .ref (B + (7))]) ++ List.replicate (3 - (lg_sl ([.ref (B + (5)), .ref (B + (7))])).length) Slot.unset).toArray = ls at hl ⊢
  have hl : lv_has ls 3 [(0, .ref (B + (5))), (1, .ref (B + (7)))] := hl
  generalize ([.ref (B + (5)), .ref (B + (7))] : List Value).toArray = aa at hts ⊢
  show W pp l ee rmcopyRow_57 ss mm aa bb mt cd ss.heap [] 0 0 _ (F0 mm 0 ls [])
  generalize hQ : MQ bb (va_Qv (fun u => (∀ c, c ≠ 7 → u c = x c) ∧ ∀ k, k < 93 → u 7 k = x 5 k) (XB G (wM G B)) (blkA B (B + 13))) aa ss 0 0 (blkA B (B + 13)) = Q
  refine lv_iconst (v := 0) hx hb dX8_copyRow_0 (by decide) ?_
  refine lv_istore_n (lv' := [(2, .int (0)), (0, .ref (B + (5))), (1, .ref (B + (7)))]) hx hb dX8_copyRow_1 rfl hl (by decide) rfl (fun ls hl => ?_)
  have L_1 : ∀ (n9 : Nat) (i : Nat)  (u1 : Mem) (_ : n9 = 93 - i) (_ : i ≤ 93 ∧ (∀ c, c ≠ 7 → u1 c = x c) ∧ ∀ k, k < i → u1 7 k = x 5 k) (H_2 : Heap) (lo_3 : List Loc) (_ : MR G (wM G B) u1 H_2) (_ : va_S (blkA B (B + 13)) ss.heap H_2 lo_3) (ls : Array Slot) (_ : lv_has ls 3 [(2, .int (nI i)), (0, .ref (B + (5))), (1, .ref (B + (7)))]), W pp l ee rmcopyRow_57 ss mm aa bb mt cd H_2 lo_3 0 0 Q (F0 mm 2 ls []) := by
    intro n9
    induction n9 using Nat.strongRecOn with
    | _ n9 ih => 
      have ih_2 := ih
      intro i u1 hn9 hI H_2 lo_3 hX hS ls hl
      obtain ⟨hi, ho, hk⟩ := hI
      refine lv_iload_n hx hb dX8_copyRow_2 rfl (lv_at hl 0 rfl) ?_
      refine lv_bipush (v := 93) hx hb dX8_copyRow_3 (by decide) ?_
      refine lv_icmp_ge (tgt := 20) hx hb dX8_copyRow_5 (by decide) (fun c_4 => ?_) (fun c_4 => ?_)
      · have nc_4 := (n_le (a := 93) (b := i) rfl rfl (by omega) (by omega)).mp c_4
        rw [← hQ]
        refine x_vret hx hb hr hX hS hlocks dX8_copyRow_20 ?_
        exact ⟨ho, fun k h9 => hk k (by omega)⟩
      · have nc_4 := Nat.not_le.mp (fun q => c_4 ((n_le (a := 93) (b := i) rfl rfl (by omega) (by omega)).mpr q))
        refine lv_aload_n hx hb dX8_copyRow_8 rfl (lv_at hl 2 rfl) ?_
        refine lv_iload_n hx hb dX8_copyRow_9 rfl (lv_at hl 0 rfl) ?_
        refine lv_aload_n hx hb dX8_copyRow_10 rfl (lv_at hl 1 rfl) ?_
        refine lv_iload_n hx hb dX8_copyRow_11 rfl (lv_at hl 0 rfl) ?_
        refine x_iald (w := (wM G B)) (a := 5) (n := 93) (j := i) hx hb hK hX (Nat.le_of_ble_eq_true rfl) (shM_a (G := G) (B := B) (a := 5) (f := u1 (5)) (by decide)) rfl (by omega) (by decide) dX8_copyRow_12 ?_
        refine x_iast (w := (wM G B)) (a := 7) (n := 93) (j := i) hx hb hK hW hX hS (Nat.le_of_ble_eq_true rfl) (fun f => (shM_a (G := G) (B := B) (a := 7) (f := f) (by decide))) rfl (by omega) (by decide) dX8_copyRow_13 (fun H_6 lo_7 hX hS => ?_)
        obtain ⟨x_5, ex_5⟩ : ∃ z, z = mst u1 (7) i (u1 (5) i) := ⟨_, rfl⟩
        rw [← ex_5] at hX
        refine lv_iinc (v := nI (i + 1)) (lv' := [(2, .int (nI (i + 1))), (0, .ref (B + (5))), (1, .ref (B + (7)))]) hx hb dX8_copyRow_14 hl (k := 0) rfl (inc_nI _) (by decide) rfl (fun ls hl => ?_)
        refine lv_goto (tgt := 2) hx hb dX8_copyRow_17 (by decide) ?_
        exact ih_2 _ (by omega) (i + 1) (x_5) rfl ⟨by omega, fun c c1 => by rw [ex_5, mst_ne c1]; exact ho c c1, fun k hk9 => by
          rw [ex_5, mst_eq]
          by_cases hi9 : k = i
          · rw [hi9, upd_eq, ho 5 (by decide)]
          · rw [upd_ne hi9]; exact hk k (by omega)⟩ _ _ hX hS ls (lv_sub hl [0, 1, 2] rfl)
  exact L_1 _ (0) (x) rfl ⟨Nat.zero_le _, fun c _ => rfl, fun k hk => absurd hk (Nat.not_lt_zero k)⟩ _ _ hX hS ls (lv_sub hl [0, 1, 2] rfl)

abbrev rmcopyRow_65 : Room := { frames := 0, cells := 0, slots := 0, locals := 0 }
set_option maxHeartbeats 4000000 in
set_option maxRecDepth 100000 in
theorem c_copyRow_65 (l : Launch) (G : GG) (B : Nat) (hW : WOK (wM G B)) (x : Mem)  : Met l yX8_copyRow wsX8_copyRow rmcopyRow_65 (XP G (wM G B) [.ref (B + (6)), .ref (B + (5))] x) (va_Qv (fun u => (∀ c, c ≠ 5 → u c = x c) ∧ ∀ k, k < 93 → u 5 k = x 6 k) (XB G (wM G B)) (blkA B (B + 13))) 0 0 (blkA B (B + 13)) := by
  refine Met.ofW (cc := cX8_copyRow) (maxL := 3) (ret := none) (by decide) rfl ?_
  intro pp ee ss mm aa bb mt cd s1 Bd hml hv
  obtain ⟨hae, hX, hK, hE⟩ := hv
  have hx := Bd.exec
  have hb := Bd.bytes
  have hr := Bd.returns
  have hts := atoms_spec (ws := wsX8_copyRow) Bd.pre
  have hown : ss.vm.findClass RX8 = some mm.cls := findClass_of_methodNamed Bd.named
  have hlocks := Bd.notSynchronized
  have hS : va_S (blkA B (B + 13)) ss.heap ss.heap [] := va_S.rf
  have hl := lv_entry ([.ref (B + (6)), .ref (B + (5))]) (n := 3) (Nat.le_of_ble_eq_true rfl)
  subst hae
  rw [lg_entry_eq]
  generalize (lg_sl ([.ref (B + (6)), .ref (B + (5))]) ++ List.replicate (3 - (lg_sl ([.ref (B + (6)), .ref (B + (5))])).length) Slot.unset).toArray = ls at hl ⊢
  have hl : lv_has ls 3 [(0, .ref (B + (6))), (1, .ref (B + (5)))] := hl
  generalize ([.ref (B + (6)), .ref (B + (5))] : List Value).toArray = aa at hts ⊢
  show W pp l ee rmcopyRow_65 ss mm aa bb mt cd ss.heap [] 0 0 _ (F0 mm 0 ls [])
  generalize hQ : MQ bb (va_Qv (fun u => (∀ c, c ≠ 5 → u c = x c) ∧ ∀ k, k < 93 → u 5 k = x 6 k) (XB G (wM G B)) (blkA B (B + 13))) aa ss 0 0 (blkA B (B + 13)) = Q
  refine lv_iconst (v := 0) hx hb dX8_copyRow_0 (by decide) ?_
  refine lv_istore_n (lv' := [(2, .int (0)), (0, .ref (B + (6))), (1, .ref (B + (5)))]) hx hb dX8_copyRow_1 rfl hl (by decide) rfl (fun ls hl => ?_)
  have L_1 : ∀ (n9 : Nat) (i : Nat)  (u1 : Mem) (_ : n9 = 93 - i) (_ : i ≤ 93 ∧ (∀ c, c ≠ 5 → u1 c = x c) ∧ ∀ k, k < i → u1 5 k = x 6 k) (H_2 : Heap) (lo_3 : List Loc) (_ : MR G (wM G B) u1 H_2) (_ : va_S (blkA B (B + 13)) ss.heap H_2 lo_3) (ls : Array Slot) (_ : lv_has ls 3 [(2, .int (nI i)), (0, .ref (B + (6))), (1, .ref (B + (5)))]), W pp l ee rmcopyRow_65 ss mm aa bb mt cd H_2 lo_3 0 0 Q (F0 mm 2 ls []) := by
    intro n9
    induction n9 using Nat.strongRecOn with
    | _ n9 ih => 
      have ih_2 := ih
      intro i u1 hn9 hI H_2 lo_3 hX hS ls hl
      obtain ⟨hi, ho, hk⟩ := hI
      refine lv_iload_n hx hb dX8_copyRow_2 rfl (lv_at hl 0 rfl) ?_
      refine lv_bipush (v := 93) hx hb dX8_copyRow_3 (by decide) ?_
      refine lv_icmp_ge (tgt := 20) hx hb dX8_copyRow_5 (by decide) (fun c_4 => ?_) (fun c_4 => ?_)
      · have nc_4 := (n_le (a := 93) (b := i) rfl rfl (by omega) (by omega)).mp c_4
        rw [← hQ]
        refine x_vret hx hb hr hX hS hlocks dX8_copyRow_20 ?_
        exact ⟨ho, fun k h9 => hk k (by omega)⟩
      · have nc_4 := Nat.not_le.mp (fun q => c_4 ((n_le (a := 93) (b := i) rfl rfl (by omega) (by omega)).mpr q))
        refine lv_aload_n hx hb dX8_copyRow_8 rfl (lv_at hl 2 rfl) ?_
        refine lv_iload_n hx hb dX8_copyRow_9 rfl (lv_at hl 0 rfl) ?_
        refine lv_aload_n hx hb dX8_copyRow_10 rfl (lv_at hl 1 rfl) ?_
        refine lv_iload_n hx hb dX8_copyRow_11 rfl (lv_at hl 0 rfl) ?_
        refine x_iald (w := (wM G B)) (a := 6) (n := 93) (j := i) hx hb hK hX (Nat.le_of_ble_eq_true rfl) (shM_a (G := G) (B := B) (a := 6) (f := u1 (6)) (by decide)) rfl (by omega) (by decide) dX8_copyRow_12 ?_
        refine x_iast (w := (wM G B)) (a := 5) (n := 93) (j := i) hx hb hK hW hX hS (Nat.le_of_ble_eq_true rfl) (fun f => (shM_a (G := G) (B := B) (a := 5) (f := f) (by decide))) rfl (by omega) (by decide) dX8_copyRow_13 (fun H_6 lo_7 hX hS => ?_)
        obtain ⟨x_5, ex_5⟩ : ∃ z, z = mst u1 (5) i (u1 (6) i) := ⟨_, rfl⟩
        rw [← ex_5] at hX
        refine lv_iinc (v := nI (i + 1)) (lv' := [(2, .int (nI (i + 1))), (0, .ref (B + (6))), (1, .ref (B + (5)))]) hx hb dX8_copyRow_14 hl (k := 0) rfl (inc_nI _) (by decide) rfl (fun ls hl => ?_)
        refine lv_goto (tgt := 2) hx hb dX8_copyRow_17 (by decide) ?_
        exact ih_2 _ (by omega) (i + 1) (x_5) rfl ⟨by omega, fun c c1 => by rw [ex_5, mst_ne c1]; exact ho c c1, fun k hk9 => by
          rw [ex_5, mst_eq]
          by_cases hi9 : k = i
          · rw [hi9, upd_eq, ho 6 (by decide)]
          · rw [upd_ne hi9]; exact hk k (by omega)⟩ _ _ hX hS ls (lv_sub hl [0, 1, 2] rfl)
  exact L_1 _ (0) (x) rfl ⟨Nat.zero_le _, fun c _ => rfl, fun k hk => absurd hk (Nat.not_lt_zero k)⟩ _ _ hX hS ls (lv_sub hl [0, 1, 2] rfl)

abbrev rmcopyRow_75 : Room := { frames := 0, cells := 0, slots := 0, locals := 0 }
set_option maxHeartbeats 4000000 in
set_option maxRecDepth 100000 in
theorem c_copyRow_75 (l : Launch) (G : GG) (B : Nat) (hW : WOK (wM G B)) (x : Mem)  : Met l yX8_copyRow wsX8_copyRow rmcopyRow_75 (XP G (wM G B) [.ref (B + (7)), .ref (B + (5))] x) (va_Qv (fun u => (∀ c, c ≠ 5 → u c = x c) ∧ ∀ k, k < 93 → u 5 k = x 7 k) (XB G (wM G B)) (blkA B (B + 13))) 0 0 (blkA B (B + 13)) := by
  refine Met.ofW (cc := cX8_copyRow) (maxL := 3) (ret := none) (by decide) rfl ?_
  intro pp ee ss mm aa bb mt cd s1 Bd hml hv
  obtain ⟨hae, hX, hK, hE⟩ := hv
  have hx := Bd.exec
  have hb := Bd.bytes
  have hr := Bd.returns
  have hts := atoms_spec (ws := wsX8_copyRow) Bd.pre
  have hown : ss.vm.findClass RX8 = some mm.cls := findClass_of_methodNamed Bd.named
  have hlocks := Bd.notSynchronized
  have hS : va_S (blkA B (B + 13)) ss.heap ss.heap [] := va_S.rf
  have hl := lv_entry ([.ref (B + (7)), .ref (B + (5))]) (n := 3) (Nat.le_of_ble_eq_true rfl)
  subst hae
  rw [lg_entry_eq]
  generalize (lg_sl ([.ref (B + (7)), .ref (B + (5))]) ++ List.replicate (3 - (lg_sl ([.ref (B + (7)), .ref (B + (5))])).length) Slot.unset).toArray = ls at hl ⊢
  have hl : lv_has ls 3 [(0, .ref (B + (7))), (1, .ref (B + (5)))] := hl
  generalize ([.ref (B + (7)), .ref (B + (5))] : List Value).toArray = aa at hts ⊢
  show W pp l ee rmcopyRow_75 ss mm aa bb mt cd ss.heap [] 0 0 _ (F0 mm 0 ls [])
  generalize hQ : MQ bb (va_Qv (fun u => (∀ c, c ≠ 5 → u c = x c) ∧ ∀ k, k < 93 → u 5 k = x 7 k) (XB G (wM G B)) (blkA B (B + 13))) aa ss 0 0 (blkA B (B + 13)) = Q
  refine lv_iconst (v := 0) hx hb dX8_copyRow_0 (by decide) ?_
  refine lv_istore_n (lv' := [(2, .int (0)), (0, .ref (B + (7))), (1, .ref (B + (5)))]) hx hb dX8_copyRow_1 rfl hl (by decide) rfl (fun ls hl => ?_)
  have L_1 : ∀ (n9 : Nat) (i : Nat)  (u1 : Mem) (_ : n9 = 93 - i) (_ : i ≤ 93 ∧ (∀ c, c ≠ 5 → u1 c = x c) ∧ ∀ k, k < i → u1 5 k = x 7 k) (H_2 : Heap) (lo_3 : List Loc) (_ : MR G (wM G B) u1 H_2) (_ : va_S (blkA B (B + 13)) ss.heap H_2 lo_3) (ls : Array Slot) (_ : lv_has ls 3 [(2, .int (nI i)), (0, .ref (B + (7))), (1, .ref (B + (5)))]), W pp l ee rmcopyRow_75 ss mm aa bb mt cd H_2 lo_3 0 0 Q (F0 mm 2 ls []) := by
    intro n9
    induction n9 using Nat.strongRecOn with
    | _ n9 ih => 
      have ih_2 := ih
      intro i u1 hn9 hI H_2 lo_3 hX hS ls hl
      obtain ⟨hi, ho, hk⟩ := hI
      refine lv_iload_n hx hb dX8_copyRow_2 rfl (lv_at hl 0 rfl) ?_
      refine lv_bipush (v := 93) hx hb dX8_copyRow_3 (by decide) ?_
      refine lv_icmp_ge (tgt := 20) hx hb dX8_copyRow_5 (by decide) (fun c_4 => ?_) (fun c_4 => ?_)
      · have nc_4 := (n_le (a := 93) (b := i) rfl rfl (by omega) (by omega)).mp c_4
        rw [← hQ]
        refine x_vret hx hb hr hX hS hlocks dX8_copyRow_20 ?_
        exact ⟨ho, fun k h9 => hk k (by omega)⟩
      · have nc_4 := Nat.not_le.mp (fun q => c_4 ((n_le (a := 93) (b := i) rfl rfl (by omega) (by omega)).mpr q))
        refine lv_aload_n hx hb dX8_copyRow_8 rfl (lv_at hl 2 rfl) ?_
        refine lv_iload_n hx hb dX8_copyRow_9 rfl (lv_at hl 0 rfl) ?_
        refine lv_aload_n hx hb dX8_copyRow_10 rfl (lv_at hl 1 rfl) ?_
        refine lv_iload_n hx hb dX8_copyRow_11 rfl (lv_at hl 0 rfl) ?_
        refine x_iald (w := (wM G B)) (a := 7) (n := 93) (j := i) hx hb hK hX (Nat.le_of_ble_eq_true rfl) (shM_a (G := G) (B := B) (a := 7) (f := u1 (7)) (by decide)) rfl (by omega) (by decide) dX8_copyRow_12 ?_
        refine x_iast (w := (wM G B)) (a := 5) (n := 93) (j := i) hx hb hK hW hX hS (Nat.le_of_ble_eq_true rfl) (fun f => (shM_a (G := G) (B := B) (a := 5) (f := f) (by decide))) rfl (by omega) (by decide) dX8_copyRow_13 (fun H_6 lo_7 hX hS => ?_)
        obtain ⟨x_5, ex_5⟩ : ∃ z, z = mst u1 (5) i (u1 (7) i) := ⟨_, rfl⟩
        rw [← ex_5] at hX
        refine lv_iinc (v := nI (i + 1)) (lv' := [(2, .int (nI (i + 1))), (0, .ref (B + (7))), (1, .ref (B + (5)))]) hx hb dX8_copyRow_14 hl (k := 0) rfl (inc_nI _) (by decide) rfl (fun ls hl => ?_)
        refine lv_goto (tgt := 2) hx hb dX8_copyRow_17 (by decide) ?_
        exact ih_2 _ (by omega) (i + 1) (x_5) rfl ⟨by omega, fun c c1 => by rw [ex_5, mst_ne c1]; exact ho c c1, fun k hk9 => by
          rw [ex_5, mst_eq]
          by_cases hi9 : k = i
          · rw [hi9, upd_eq, ho 7 (by decide)]
          · rw [upd_ne hi9]; exact hk k (by omega)⟩ _ _ hX hS ls (lv_sub hl [0, 1, 2] rfl)
  exact L_1 _ (0) (x) rfl ⟨Nat.zero_le _, fun c _ => rfl, fun k hk => absurd hk (Nat.not_lt_zero k)⟩ _ _ hX hS ls (lv_sub hl [0, 1, 2] rfl)

def PT_X8_image (x : Mem) (k : Int32) (n : Nat) (r : Int32) (u : Mem) : Prop := (if (decide (((0 : Int32)) ≤ ((k : Int32))) && decide (((k : Int32)) ≤ ((1 : Int32)))) = true then (if (decide (x 5 0 = 0)) = false then (if k = 0 then (r = 1 ∧ (∀ c, c ≠ 6 → u c = x c) ∧ ∀ j, j < 93 → u 6 j = x 5 j) else (r = 1 ∧ (∀ c, c ≠ 7 → u c = x c) ∧ ∀ j, j < 93 → u 7 j = x 5 j)) else (r = (-1000002) ∧ u = x)) else (r = (-1000001) ∧ u = x))
theorem kX8_image_22 : (.fieldLink RX8 22 "WindTakenModel" "now" "[I" : Cond) ∈ wsX8_image := by decide +kernel
theorem iX8_image_X8 : ∀ w ∈ wsX80, w ∈ wsX8_image := by decide +kernel
theorem kX8_image_28 : (.fieldLink RX8 28 "WindTakenModel" "image1" "[I" : Cond) ∈ wsX8_image := by decide +kernel
theorem kX8_image_25 : (.fieldLink RX8 25 "WindTakenModel" "image0" "[I" : Cond) ∈ wsX8_image := by decide +kernel
theorem kX8_image_185 : (.constant RX8 185 (-1000002) : Cond) ∈ wsX8_image := by decide +kernel
theorem kX8_image_63 : (.constant RX8 63 (-1000001) : Cond) ∈ wsX8_image := by decide +kernel
abbrev rmX8_image : Room := { frames := 1, cells := 0, slots := 0, locals := 25 }
set_option maxHeartbeats 4000000 in
set_option maxRecDepth 100000 in
theorem c_X8_image (l : Launch) (G : GG) (B : Nat) (hW : WOK (wM G B)) (x : Mem) (k : Int32) {n : Nat} (hN : x 5 0 = nI n) (hn8 : n ≤ 8) : Met l yX8_image wsX8_image rmX8_image (XP G (wM G B) [.ref (B + (0)), .int (k)] x) (va_Qi (fun r u => PT_X8_image x k n r u) (XB G (wM G B)) (blkA B (B + 13))) 0 0 (blkA B (B + 13)) := by
  refine Met.ofW (cc := cX8_image) (maxL := 2) (ret := (some .int)) (by decide) rfl ?_
  intro pp ee ss mm aa bb mt cd s1 Bd hml hv
  obtain ⟨hae, hX, hK, hE⟩ := hv
  have hx := Bd.exec
  have hb := Bd.bytes
  have hr := Bd.returns
  have hts := atoms_spec (ws := wsX8_image) Bd.pre
  have hown : ss.vm.findClass RX8 = some mm.cls := findClass_of_methodNamed Bd.named
  have hlocks := Bd.notSynchronized
  have hS : va_S (blkA B (B + 13)) ss.heap ss.heap [] := va_S.rf
  have hl := lv_entry ([.ref (B + (0)), .int (k)]) (n := 2) (Nat.le_of_ble_eq_true rfl)
  subst hae
  rw [lg_entry_eq]
  generalize (lg_sl ([.ref (B + (0)), .int (k)]) ++ List.replicate (2 - (lg_sl ([.ref (B + (0)), .int (k)])).length) Slot.unset).toArray = ls at hl ⊢
  have hl : lv_has ls 2 [(0, .ref (B + (0))), (1, .int (k))] := hl
  generalize ([.ref (B + (0)), .int (k)] : List Value).toArray = aa at hts ⊢
  show W pp l ee rmX8_image ss mm aa bb mt cd ss.heap [] 0 0 _ (F0 mm 0 ls [])
  generalize hQ : MQ bb (va_Qi (fun r u => PT_X8_image x k n r u) (XB G (wM G B)) (blkA B (B + 13))) aa ss 0 0 (blkA B (B + 13)) = Q
  refine lv_iload_n hx hb dX8_image_0 rfl (lv_at hl 1 rfl) ?_
  refine lv_i2l (v := (k : Int32).toInt64) hx hb dX8_image_1 rfl ?_
  refine lv_lconst (v := 0) hx hb dX8_image_2 (by decide) ?_
  refine lv_lconst (v := 1) hx hb dX8_image_3 (by decide) ?_
  refine x_ip (w := (wM G B)) (x := x) (v := bI (decide (((0 : Int32)) ≤ ((k : Int32))) && decide (((k : Int32)) ≤ ((1 : Int32))))) (va_runS (As := [.long ((k : Int32).toInt64), .long (0), .long (1)]) (rest := []) ⟨hx, hb, hml, hown, hts⟩ (c_X8_in (l := l) (G := G) (B := B) (hW := hW) (x := x) (va := (k : Int32).toInt64) (vb := 0) (vc := 1) (v1 := (k : Int32)) (lo1 := (0 : Int32)) (hi1 := (1 : Int32)) (hv := (by first | rfl | decide)) (hlo := (by first | rfl | decide)) (hhi := (by first | rfl | decide))) (va_cwS 3 hts gX8_image_X8_in rfl rfl rfl (by decide +kernel) ⟨Nat.le_of_ble_eq_true rfl, Nat.le_of_ble_eq_true rfl⟩) (x_ps (w := (wM G B)) hW hX hK hE hS [.long ((k : Int32).toInt64), .long (0), .long (1)]) rfl rfl hl.1 rfl (lv_room (Nat.le_of_ble_eq_true rfl)) dX8_image_4 ⟨Nat.zero_le _, Nat.zero_le _⟩) hS (fun H_1 lo_2 hX hS => ?_)
  refine x_ifne (tgt := 13) hx hb dX8_image_7 (by decide) (fun c_3 => ?_) (fun c_3 => ?_)
  · refine lv_aload_n hx hb dX8_image_13 rfl (lv_at hl 0 rfl) ?_
    refine x_ip (w := (wM G B)) (x := x) (v := bI (decide (x 5 0 = 0))) (va_runV (As := []) (rest := []) ⟨hx, hb, hml, hown, hts⟩ (c_X8_isNoRidge (l := l) (G := G) (B := B) (hW := hW) (x := x) ) (cwV 0 hts gX8_image_X8_isNoRidge rfl rfl rfl (by decide +kernel) ⟨Nat.le_of_ble_eq_true rfl, Nat.le_of_ble_eq_true rfl⟩) (x_pv (w := (wM G B)) (a := 0) hW hX hK hE hS [] (Nat.le_of_ble_eq_true rfl) (shM_0 (G := G) (B := B)) rfl) rfl rfl hl.1 rfl (lv_room (Nat.le_of_ble_eq_true rfl)) dX8_image_14 ⟨Nat.zero_le _, Nat.zero_le _⟩) hS (fun H_4 lo_5 hX hS => ?_)
    refine x_ifeq (tgt := 23) hx hb dX8_image_17 (by decide) (fun c_6 => ?_) (fun c_6 => ?_)
    · refine lv_iload_n hx hb dX8_image_23 rfl (lv_at hl 1 rfl) ?_
      refine lv_if_ne (tgt := 41) hx hb dX8_image_24 (by decide) (fun c_7 => ?_) (fun c_7 => ?_)
      · refine lv_aload_n hx hb dX8_image_41 rfl (lv_at hl 0 rfl) ?_
        refine x_get (w := (wM G B)) (a := 0) (v := .ref (B + (5))) hx hb hts iX8_image_X8 hown hK hX (Nat.le_of_ble_eq_true rfl) (shM_0 (G := G) (B := B)) rfl 7 (by decide) (hts _ kX8_image_22) (fun _ h9 => h9) rfl dX8_image_42 ?_
        refine lv_aload_n hx hb dX8_image_45 rfl (lv_at hl 0 rfl) ?_
        refine x_get (w := (wM G B)) (a := 0) (v := .ref (B + (7))) hx hb hts iX8_image_X8 hown hK hX (Nat.le_of_ble_eq_true rfl) (shM_0 (G := G) (B := B)) rfl 9 (by decide) (hts _ kX8_image_28) (fun _ h9 => h9) rfl dX8_image_46 ?_
        refine x_vf (w := (wM G B)) (va_runS (As := [.ref (B + (5)), .ref (B + (7))]) (rest := []) ⟨hx, hb, hml, hown, hts⟩ (c_copyRow_57 (l := l) (G := G) (B := B) (hW := hW) (x := x) ) (va_cwS 2 hts gX8_image_X8_copyRow rfl rfl rfl (by decide +kernel) ⟨Nat.le_of_ble_eq_true rfl, Nat.le_of_ble_eq_true rfl⟩) (x_ps (w := (wM G B)) hW hX hK hE hS [.ref (B + (5)), .ref (B + (7))]) rfl rfl hl.1 rfl (lv_room (Nat.le_of_ble_eq_true rfl)) dX8_image_49 ⟨Nat.zero_le _, Nat.zero_le _⟩) hS (fun x_10 H_8 lo_9 h_49 hX hS => ?_)
        try dsimp only at h_49
        refine lv_iconst (v := 1) hx hb dX8_image_52 (by decide) ?_
        rw [← hQ]
        refine x_iret (v := 1) hx hb hr hX hS hlocks dX8_image_53 ?_
        show PT_X8_image _ _ _ _ _
        unfold PT_X8_image
        rw [if_pos c_3, if_pos c_6, if_neg c_7]
        exact ⟨rfl, h_49⟩
      · refine lv_aload_n hx hb dX8_image_27 rfl (lv_at hl 0 rfl) ?_
        refine x_get (w := (wM G B)) (a := 0) (v := .ref (B + (5))) hx hb hts iX8_image_X8 hown hK hX (Nat.le_of_ble_eq_true rfl) (shM_0 (G := G) (B := B)) rfl 7 (by decide) (hts _ kX8_image_22) (fun _ h9 => h9) rfl dX8_image_28 ?_
        refine lv_aload_n hx hb dX8_image_31 rfl (lv_at hl 0 rfl) ?_
        refine x_get (w := (wM G B)) (a := 0) (v := .ref (B + (6))) hx hb hts iX8_image_X8 hown hK hX (Nat.le_of_ble_eq_true rfl) (shM_0 (G := G) (B := B)) rfl 8 (by decide) (hts _ kX8_image_25) (fun _ h9 => h9) rfl dX8_image_32 ?_
        refine x_vf (w := (wM G B)) (va_runS (As := [.ref (B + (5)), .ref (B + (6))]) (rest := []) ⟨hx, hb, hml, hown, hts⟩ (c_copyRow_56 (l := l) (G := G) (B := B) (hW := hW) (x := x) ) (va_cwS 2 hts gX8_image_X8_copyRow rfl rfl rfl (by decide +kernel) ⟨Nat.le_of_ble_eq_true rfl, Nat.le_of_ble_eq_true rfl⟩) (x_ps (w := (wM G B)) hW hX hK hE hS [.ref (B + (5)), .ref (B + (6))]) rfl rfl hl.1 rfl (lv_room (Nat.le_of_ble_eq_true rfl)) dX8_image_35 ⟨Nat.zero_le _, Nat.zero_le _⟩) hS (fun x_13 H_11 lo_12 h_35 hX hS => ?_)
        try dsimp only at h_35
        refine lv_goto (tgt := 52) hx hb dX8_image_38 (by decide) ?_
        refine lv_iconst (v := 1) hx hb dX8_image_52 (by decide) ?_
        rw [← hQ]
        refine x_iret (v := 1) hx hb hr hX hS hlocks dX8_image_53 ?_
        show PT_X8_image _ _ _ _ _
        unfold PT_X8_image
        rw [if_pos c_3, if_pos c_6, if_pos c_7]
        exact ⟨rfl, h_35⟩
    · refine lv_ldc (v := (-1000002)) hx hb hown (hts _ kX8_image_185) dX8_image_20 ?_
      rw [← hQ]
      refine x_iret (v := (-1000002)) hx hb hr hX hS hlocks dX8_image_22 ?_
      show PT_X8_image _ _ _ _ _
      unfold PT_X8_image
      rw [if_pos c_3, if_neg (ne_of_true c_6)]
      exact ⟨rfl, rfl⟩
  · refine lv_ldc (v := (-1000001)) hx hb hown (hts _ kX8_image_63) dX8_image_10 ?_
    rw [← hQ]
    refine x_iret (v := (-1000001)) hx hb hr hX hS hlocks dX8_image_12 ?_
    show PT_X8_image _ _ _ _ _
    unfold PT_X8_image
    rw [if_neg (ne_of_false c_3)]
    exact ⟨rfl, rfl⟩

def PT_X8_restore (x : Mem) (k : Int32) (r : Int32) (u : Mem) : Prop := (if (decide (((0 : Int32)) ≤ ((k : Int32))) && decide (((k : Int32)) ≤ ((1 : Int32)))) = true then (if k = 0 then (if (x (6) 0) = 0 then (r = (-1000002) ∧ u = x) else (if k = 0 then (r = 1 ∧ (∀ c, c ≠ 5 → u c = x c) ∧ ∀ j, j < 93 → u 5 j = x 6 j) else (r = 1 ∧ (∀ c, c ≠ 5 → u c = x c) ∧ ∀ j, j < 93 → u 5 j = x 7 j))) else (if (x (7) 0) = 0 then (r = (-1000002) ∧ u = x) else (if k = 0 then (r = 1 ∧ (∀ c, c ≠ 5 → u c = x c) ∧ ∀ j, j < 93 → u 5 j = x 6 j) else (r = 1 ∧ (∀ c, c ≠ 5 → u c = x c) ∧ ∀ j, j < 93 → u 5 j = x 7 j)))) else (r = (-1000001) ∧ u = x))
theorem kX8_restore_28 : (.fieldLink RX8 28 "WindTakenModel" "image1" "[I" : Cond) ∈ wsX8_restore := by decide +kernel
theorem iX8_restore_X8 : ∀ w ∈ wsX80, w ∈ wsX8_restore := by decide +kernel
theorem kX8_restore_22 : (.fieldLink RX8 22 "WindTakenModel" "now" "[I" : Cond) ∈ wsX8_restore := by decide +kernel
theorem kX8_restore_25 : (.fieldLink RX8 25 "WindTakenModel" "image0" "[I" : Cond) ∈ wsX8_restore := by decide +kernel
theorem kX8_restore_185 : (.constant RX8 185 (-1000002) : Cond) ∈ wsX8_restore := by decide +kernel
theorem kX8_restore_63 : (.constant RX8 63 (-1000001) : Cond) ∈ wsX8_restore := by decide +kernel
abbrev rmX8_restore : Room := { frames := 1, cells := 0, slots := 0, locals := 25 }
set_option maxHeartbeats 4000000 in
set_option maxRecDepth 100000 in
theorem c_X8_restore (l : Launch) (G : GG) (B : Nat) (hW : WOK (wM G B)) (x : Mem) (k : Int32) : Met l yX8_restore wsX8_restore rmX8_restore (XP G (wM G B) [.ref (B + (0)), .int (k)] x) (va_Qi (fun r u => PT_X8_restore x k r u) (XB G (wM G B)) (blkA B (B + 13))) 0 0 (blkA B (B + 13)) := by
  refine Met.ofW (cc := cX8_restore) (maxL := 2) (ret := (some .int)) (by decide) rfl ?_
  intro pp ee ss mm aa bb mt cd s1 Bd hml hv
  obtain ⟨hae, hX, hK, hE⟩ := hv
  have hx := Bd.exec
  have hb := Bd.bytes
  have hr := Bd.returns
  have hts := atoms_spec (ws := wsX8_restore) Bd.pre
  have hown : ss.vm.findClass RX8 = some mm.cls := findClass_of_methodNamed Bd.named
  have hlocks := Bd.notSynchronized
  have hS : va_S (blkA B (B + 13)) ss.heap ss.heap [] := va_S.rf
  have hl := lv_entry ([.ref (B + (0)), .int (k)]) (n := 2) (Nat.le_of_ble_eq_true rfl)
  subst hae
  rw [lg_entry_eq]
  generalize (lg_sl ([.ref (B + (0)), .int (k)]) ++ List.replicate (2 - (lg_sl ([.ref (B + (0)), .int (k)])).length) Slot.unset).toArray = ls at hl ⊢
  have hl : lv_has ls 2 [(0, .ref (B + (0))), (1, .int (k))] := hl
  generalize ([.ref (B + (0)), .int (k)] : List Value).toArray = aa at hts ⊢
  show W pp l ee rmX8_restore ss mm aa bb mt cd ss.heap [] 0 0 _ (F0 mm 0 ls [])
  generalize hQ : MQ bb (va_Qi (fun r u => PT_X8_restore x k r u) (XB G (wM G B)) (blkA B (B + 13))) aa ss 0 0 (blkA B (B + 13)) = Q
  refine lv_iload_n hx hb dX8_restore_0 rfl (lv_at hl 1 rfl) ?_
  refine lv_i2l (v := (k : Int32).toInt64) hx hb dX8_restore_1 rfl ?_
  refine lv_lconst (v := 0) hx hb dX8_restore_2 (by decide) ?_
  refine lv_lconst (v := 1) hx hb dX8_restore_3 (by decide) ?_
  refine x_ip (w := (wM G B)) (x := x) (v := bI (decide (((0 : Int32)) ≤ ((k : Int32))) && decide (((k : Int32)) ≤ ((1 : Int32))))) (va_runS (As := [.long ((k : Int32).toInt64), .long (0), .long (1)]) (rest := []) ⟨hx, hb, hml, hown, hts⟩ (c_X8_in (l := l) (G := G) (B := B) (hW := hW) (x := x) (va := (k : Int32).toInt64) (vb := 0) (vc := 1) (v1 := (k : Int32)) (lo1 := (0 : Int32)) (hi1 := (1 : Int32)) (hv := (by first | rfl | decide)) (hlo := (by first | rfl | decide)) (hhi := (by first | rfl | decide))) (va_cwS 3 hts gX8_restore_X8_in rfl rfl rfl (by decide +kernel) ⟨Nat.le_of_ble_eq_true rfl, Nat.le_of_ble_eq_true rfl⟩) (x_ps (w := (wM G B)) hW hX hK hE hS [.long ((k : Int32).toInt64), .long (0), .long (1)]) rfl rfl hl.1 rfl (lv_room (Nat.le_of_ble_eq_true rfl)) dX8_restore_4 ⟨Nat.zero_le _, Nat.zero_le _⟩) hS (fun H_1 lo_2 hX hS => ?_)
  refine x_ifne (tgt := 13) hx hb dX8_restore_7 (by decide) (fun c_3 => ?_) (fun c_3 => ?_)
  · refine lv_iload_n hx hb dX8_restore_13 rfl (lv_at hl 1 rfl) ?_
    refine lv_if_ne (tgt := 26) hx hb dX8_restore_14 (by decide) (fun c_4 => ?_) (fun c_4 => ?_)
    · refine lv_aload_n hx hb dX8_restore_26 rfl (lv_at hl 0 rfl) ?_
      refine x_get (w := (wM G B)) (a := 0) (v := .ref (B + (7))) hx hb hts iX8_restore_X8 hown hK hX (Nat.le_of_ble_eq_true rfl) (shM_0 (G := G) (B := B)) rfl 9 (by decide) (hts _ kX8_restore_28) (fun _ h9 => h9) rfl dX8_restore_27 ?_
      refine lv_iconst (v := 0) hx hb dX8_restore_30 (by decide) ?_
      refine x_iald (w := (wM G B)) (a := 7) (n := 93) (j := 0) hx hb hK hX (Nat.le_of_ble_eq_true rfl) (shM_a (G := G) (B := B) (a := 7) (f := x (7)) (by decide)) rfl (by decide) (by decide) dX8_restore_31 ?_
      refine lv_if_ne (tgt := 38) hx hb dX8_restore_32 (by decide) (fun c_5 => ?_) (fun c_5 => ?_)
      · refine lv_iload_n hx hb dX8_restore_38 rfl (lv_at hl 1 rfl) ?_
        refine lv_if_ne (tgt := 56) hx hb dX8_restore_39 (by decide) (fun c_6 => ?_) (fun c_6 => ?_)
        · refine lv_aload_n hx hb dX8_restore_56 rfl (lv_at hl 0 rfl) ?_
          refine x_get (w := (wM G B)) (a := 0) (v := .ref (B + (7))) hx hb hts iX8_restore_X8 hown hK hX (Nat.le_of_ble_eq_true rfl) (shM_0 (G := G) (B := B)) rfl 9 (by decide) (hts _ kX8_restore_28) (fun _ h9 => h9) rfl dX8_restore_57 ?_
          refine lv_aload_n hx hb dX8_restore_60 rfl (lv_at hl 0 rfl) ?_
          refine x_get (w := (wM G B)) (a := 0) (v := .ref (B + (5))) hx hb hts iX8_restore_X8 hown hK hX (Nat.le_of_ble_eq_true rfl) (shM_0 (G := G) (B := B)) rfl 7 (by decide) (hts _ kX8_restore_22) (fun _ h9 => h9) rfl dX8_restore_61 ?_
          refine x_vf (w := (wM G B)) (va_runS (As := [.ref (B + (7)), .ref (B + (5))]) (rest := []) ⟨hx, hb, hml, hown, hts⟩ (c_copyRow_75 (l := l) (G := G) (B := B) (hW := hW) (x := x) ) (va_cwS 2 hts gX8_restore_X8_copyRow rfl rfl rfl (by decide +kernel) ⟨Nat.le_of_ble_eq_true rfl, Nat.le_of_ble_eq_true rfl⟩) (x_ps (w := (wM G B)) hW hX hK hE hS [.ref (B + (7)), .ref (B + (5))]) rfl rfl hl.1 rfl (lv_room (Nat.le_of_ble_eq_true rfl)) dX8_restore_64 ⟨Nat.zero_le _, Nat.zero_le _⟩) hS (fun x_9 H_7 lo_8 h_64 hX hS => ?_)
          try dsimp only at h_64
          refine lv_iconst (v := 1) hx hb dX8_restore_67 (by decide) ?_
          rw [← hQ]
          refine x_iret (v := 1) hx hb hr hX hS hlocks dX8_restore_68 ?_
          show PT_X8_restore _ _ _ _
          unfold PT_X8_restore
          rw [if_pos c_3, if_neg c_4, if_neg c_5, if_neg c_6]
          exact ⟨rfl, h_64⟩
        · refine lv_aload_n hx hb dX8_restore_42 rfl (lv_at hl 0 rfl) ?_
          refine x_get (w := (wM G B)) (a := 0) (v := .ref (B + (6))) hx hb hts iX8_restore_X8 hown hK hX (Nat.le_of_ble_eq_true rfl) (shM_0 (G := G) (B := B)) rfl 8 (by decide) (hts _ kX8_restore_25) (fun _ h9 => h9) rfl dX8_restore_43 ?_
          refine lv_aload_n hx hb dX8_restore_46 rfl (lv_at hl 0 rfl) ?_
          refine x_get (w := (wM G B)) (a := 0) (v := .ref (B + (5))) hx hb hts iX8_restore_X8 hown hK hX (Nat.le_of_ble_eq_true rfl) (shM_0 (G := G) (B := B)) rfl 7 (by decide) (hts _ kX8_restore_22) (fun _ h9 => h9) rfl dX8_restore_47 ?_
          refine x_vf (w := (wM G B)) (va_runS (As := [.ref (B + (6)), .ref (B + (5))]) (rest := []) ⟨hx, hb, hml, hown, hts⟩ (c_copyRow_65 (l := l) (G := G) (B := B) (hW := hW) (x := x) ) (va_cwS 2 hts gX8_restore_X8_copyRow rfl rfl rfl (by decide +kernel) ⟨Nat.le_of_ble_eq_true rfl, Nat.le_of_ble_eq_true rfl⟩) (x_ps (w := (wM G B)) hW hX hK hE hS [.ref (B + (6)), .ref (B + (5))]) rfl rfl hl.1 rfl (lv_room (Nat.le_of_ble_eq_true rfl)) dX8_restore_50 ⟨Nat.zero_le _, Nat.zero_le _⟩) hS (fun x_12 H_10 lo_11 h_50 hX hS => ?_)
          try dsimp only at h_50
          refine lv_goto (tgt := 67) hx hb dX8_restore_53 (by decide) ?_
          refine lv_iconst (v := 1) hx hb dX8_restore_67 (by decide) ?_
          rw [← hQ]
          refine x_iret (v := 1) hx hb hr hX hS hlocks dX8_restore_68 ?_
          show PT_X8_restore _ _ _ _
          unfold PT_X8_restore
          rw [if_pos c_3, if_neg c_4, if_neg c_5, if_pos c_6]
          exact ⟨rfl, h_50⟩
      · refine lv_ldc (v := (-1000002)) hx hb hown (hts _ kX8_restore_185) dX8_restore_35 ?_
        rw [← hQ]
        refine x_iret (v := (-1000002)) hx hb hr hX hS hlocks dX8_restore_37 ?_
        show PT_X8_restore _ _ _ _
        unfold PT_X8_restore
        rw [if_pos c_3, if_neg c_4, if_pos c_5]
        exact ⟨rfl, rfl⟩
    · refine lv_aload_n hx hb dX8_restore_17 rfl (lv_at hl 0 rfl) ?_
      refine x_get (w := (wM G B)) (a := 0) (v := .ref (B + (6))) hx hb hts iX8_restore_X8 hown hK hX (Nat.le_of_ble_eq_true rfl) (shM_0 (G := G) (B := B)) rfl 8 (by decide) (hts _ kX8_restore_25) (fun _ h9 => h9) rfl dX8_restore_18 ?_
      refine lv_iconst (v := 0) hx hb dX8_restore_21 (by decide) ?_
      refine x_iald (w := (wM G B)) (a := 6) (n := 93) (j := 0) hx hb hK hX (Nat.le_of_ble_eq_true rfl) (shM_a (G := G) (B := B) (a := 6) (f := x (6)) (by decide)) rfl (by decide) (by decide) dX8_restore_22 ?_
      refine lv_goto (tgt := 32) hx hb dX8_restore_23 (by decide) ?_
      refine lv_if_ne (tgt := 38) hx hb dX8_restore_32 (by decide) (fun c_13 => ?_) (fun c_13 => ?_)
      · refine lv_iload_n hx hb dX8_restore_38 rfl (lv_at hl 1 rfl) ?_
        refine lv_if_ne (tgt := 56) hx hb dX8_restore_39 (by decide) (fun c_14 => ?_) (fun c_14 => ?_)
        · refine lv_aload_n hx hb dX8_restore_56 rfl (lv_at hl 0 rfl) ?_
          refine x_get (w := (wM G B)) (a := 0) (v := .ref (B + (7))) hx hb hts iX8_restore_X8 hown hK hX (Nat.le_of_ble_eq_true rfl) (shM_0 (G := G) (B := B)) rfl 9 (by decide) (hts _ kX8_restore_28) (fun _ h9 => h9) rfl dX8_restore_57 ?_
          refine lv_aload_n hx hb dX8_restore_60 rfl (lv_at hl 0 rfl) ?_
          refine x_get (w := (wM G B)) (a := 0) (v := .ref (B + (5))) hx hb hts iX8_restore_X8 hown hK hX (Nat.le_of_ble_eq_true rfl) (shM_0 (G := G) (B := B)) rfl 7 (by decide) (hts _ kX8_restore_22) (fun _ h9 => h9) rfl dX8_restore_61 ?_
          refine x_vf (w := (wM G B)) (va_runS (As := [.ref (B + (7)), .ref (B + (5))]) (rest := []) ⟨hx, hb, hml, hown, hts⟩ (c_copyRow_75 (l := l) (G := G) (B := B) (hW := hW) (x := x) ) (va_cwS 2 hts gX8_restore_X8_copyRow rfl rfl rfl (by decide +kernel) ⟨Nat.le_of_ble_eq_true rfl, Nat.le_of_ble_eq_true rfl⟩) (x_ps (w := (wM G B)) hW hX hK hE hS [.ref (B + (7)), .ref (B + (5))]) rfl rfl hl.1 rfl (lv_room (Nat.le_of_ble_eq_true rfl)) dX8_restore_64 ⟨Nat.zero_le _, Nat.zero_le _⟩) hS (fun x_17 H_15 lo_16 h_64 hX hS => ?_)
          try dsimp only at h_64
          refine lv_iconst (v := 1) hx hb dX8_restore_67 (by decide) ?_
          rw [← hQ]
          refine x_iret (v := 1) hx hb hr hX hS hlocks dX8_restore_68 ?_
          show PT_X8_restore _ _ _ _
          unfold PT_X8_restore
          rw [if_pos c_3, if_pos c_4, if_neg c_13, if_neg c_14]
          exact ⟨rfl, h_64⟩
        · refine lv_aload_n hx hb dX8_restore_42 rfl (lv_at hl 0 rfl) ?_
          refine x_get (w := (wM G B)) (a := 0) (v := .ref (B + (6))) hx hb hts iX8_restore_X8 hown hK hX (Nat.le_of_ble_eq_true rfl) (shM_0 (G := G) (B := B)) rfl 8 (by decide) (hts _ kX8_restore_25) (fun _ h9 => h9) rfl dX8_restore_43 ?_
          refine lv_aload_n hx hb dX8_restore_46 rfl (lv_at hl 0 rfl) ?_
          refine x_get (w := (wM G B)) (a := 0) (v := .ref (B + (5))) hx hb hts iX8_restore_X8 hown hK hX (Nat.le_of_ble_eq_true rfl) (shM_0 (G := G) (B := B)) rfl 7 (by decide) (hts _ kX8_restore_22) (fun _ h9 => h9) rfl dX8_restore_47 ?_
          refine x_vf (w := (wM G B)) (va_runS (As := [.ref (B + (6)), .ref (B + (5))]) (rest := []) ⟨hx, hb, hml, hown, hts⟩ (c_copyRow_65 (l := l) (G := G) (B := B) (hW := hW) (x := x) ) (va_cwS 2 hts gX8_restore_X8_copyRow rfl rfl rfl (by decide +kernel) ⟨Nat.le_of_ble_eq_true rfl, Nat.le_of_ble_eq_true rfl⟩) (x_ps (w := (wM G B)) hW hX hK hE hS [.ref (B + (6)), .ref (B + (5))]) rfl rfl hl.1 rfl (lv_room (Nat.le_of_ble_eq_true rfl)) dX8_restore_50 ⟨Nat.zero_le _, Nat.zero_le _⟩) hS (fun x_20 H_18 lo_19 h_50 hX hS => ?_)
          try dsimp only at h_50
          refine lv_goto (tgt := 67) hx hb dX8_restore_53 (by decide) ?_
          refine lv_iconst (v := 1) hx hb dX8_restore_67 (by decide) ?_
          rw [← hQ]
          refine x_iret (v := 1) hx hb hr hX hS hlocks dX8_restore_68 ?_
          show PT_X8_restore _ _ _ _
          unfold PT_X8_restore
          rw [if_pos c_3, if_pos c_4, if_neg c_13, if_pos c_14]
          exact ⟨rfl, h_50⟩
      · refine lv_ldc (v := (-1000002)) hx hb hown (hts _ kX8_restore_185) dX8_restore_35 ?_
        rw [← hQ]
        refine x_iret (v := (-1000002)) hx hb hr hX hS hlocks dX8_restore_37 ?_
        show PT_X8_restore _ _ _ _
        unfold PT_X8_restore
        rw [if_pos c_3, if_pos c_4, if_pos c_13]
        exact ⟨rfl, rfl⟩
  · refine lv_ldc (v := (-1000001)) hx hb hown (hts _ kX8_restore_63) dX8_restore_10 ?_
    rw [← hQ]
    refine x_iret (v := (-1000001)) hx hb hr hX hS hlocks dX8_restore_12 ?_
    show PT_X8_restore _ _ _ _
    unfold PT_X8_restore
    rw [if_neg (ne_of_false c_3)]
    exact ⟨rfl, rfl⟩

def PT_X8_trace (x : Mem) (i : Int32) (k : Nat) (r : Int32) (u : Mem) : Prop := (if (decide (0 ≤ i) && decide (i < nI k)) = false then (r = (-1000000) ∧ u = x) else (r = x (9) (tn i) ∧ u = x))
theorem kX8_trace_268 : (.fieldLink RX8 268 "WindTakenModel" "traced" "I" : Cond) ∈ wsX8_trace := by decide +kernel
theorem iX8_trace_X8 : ∀ w ∈ wsX80, w ∈ wsX8_trace := by decide +kernel
theorem kX8_trace_215 : (.constant RX8 215 (-1000000) : Cond) ∈ wsX8_trace := by decide +kernel
theorem kX8_trace_34 : (.fieldLink RX8 34 "WindTakenModel" "trace" "[I" : Cond) ∈ wsX8_trace := by decide +kernel
abbrev rmX8_trace : Room := { frames := 1, cells := 0, slots := 0, locals := 25 }
set_option maxHeartbeats 4000000 in
set_option maxRecDepth 100000 in
theorem c_X8_trace (l : Launch) (G : GG) (B : Nat) (hW : WOK (wM G B)) (x : Mem) (i : Int32) {k : Nat} (hk : x 0 12 = nI k) (hk16 : k ≤ 16) : Met l yX8_trace wsX8_trace rmX8_trace (XP G (wM G B) [.ref (B + (0)), .int (i)] x) (va_Qi (fun r u => PT_X8_trace x i k r u) (XB G (wM G B)) (blkA B (B + 13))) 0 0 (blkA B (B + 13)) := by
  refine Met.ofW (cc := cX8_trace) (maxL := 2) (ret := (some .int)) (by decide) rfl ?_
  intro pp ee ss mm aa bb mt cd s1 Bd hml hv
  obtain ⟨hae, hX, hK, hE⟩ := hv
  have hx := Bd.exec
  have hb := Bd.bytes
  have hr := Bd.returns
  have hts := atoms_spec (ws := wsX8_trace) Bd.pre
  have hown : ss.vm.findClass RX8 = some mm.cls := findClass_of_methodNamed Bd.named
  have hlocks := Bd.notSynchronized
  have hS : va_S (blkA B (B + 13)) ss.heap ss.heap [] := va_S.rf
  have hl := lv_entry ([.ref (B + (0)), .int (i)]) (n := 2) (Nat.le_of_ble_eq_true rfl)
  subst hae
  rw [lg_entry_eq]
  generalize (lg_sl ([.ref (B + (0)), .int (i)]) ++ List.replicate (2 - (lg_sl ([.ref (B + (0)), .int (i)])).length) Slot.unset).toArray = ls at hl ⊢
  have hl : lv_has ls 2 [(0, .ref (B + (0))), (1, .int (i))] := hl
  generalize ([.ref (B + (0)), .int (i)] : List Value).toArray = aa at hts ⊢
  show W pp l ee rmX8_trace ss mm aa bb mt cd ss.heap [] 0 0 _ (F0 mm 0 ls [])
  generalize hQ : MQ bb (va_Qi (fun r u => PT_X8_trace x i k r u) (XB G (wM G B)) (blkA B (B + 13))) aa ss 0 0 (blkA B (B + 13)) = Q
  refine lv_iload_n hx hb dX8_trace_0 rfl (lv_at hl 1 rfl) ?_
  refine lv_i2l (v := (i : Int32).toInt64) hx hb dX8_trace_1 rfl ?_
  refine lv_lconst (v := 0) hx hb dX8_trace_2 (by decide) ?_
  refine lv_aload_n hx hb dX8_trace_3 rfl (lv_at hl 0 rfl) ?_
  refine x_get (w := (wM G B)) (a := 0) (v := .int (x (0) 12)) hx hb hts iX8_trace_X8 hown hK hX (Nat.le_of_ble_eq_true rfl) (shM_0 (G := G) (B := B)) rfl 12 (by decide) (hts _ kX8_trace_268) (fun _ h9 => h9) rfl dX8_trace_4 ?_
  refine lv_iconst (v := 1) hx hb dX8_trace_7 (by decide) ?_
  refine lv_isub hx hb dX8_trace_8 ?_
  refine lv_i2l (v := ((x (0) 12) - 1 : Int32).toInt64) hx hb dX8_trace_9 rfl ?_
  refine x_ip (w := (wM G B)) (x := x) (v := bI (decide (((0 : Int32)) ≤ ((i : Int32))) && decide (((i : Int32)) ≤ (((x (0) 12) - 1 : Int32))))) (va_runS (As := [.long ((i : Int32).toInt64), .long (0), .long (((x (0) 12) - 1 : Int32).toInt64)]) (rest := []) ⟨hx, hb, hml, hown, hts⟩ (c_X8_in (l := l) (G := G) (B := B) (hW := hW) (x := x) (va := (i : Int32).toInt64) (vb := 0) (vc := ((x (0) 12) - 1 : Int32).toInt64) (v1 := (i : Int32)) (lo1 := (0 : Int32)) (hi1 := ((x (0) 12) - 1 : Int32)) (hv := (by first | rfl | decide)) (hlo := (by first | rfl | decide)) (hhi := (by first | rfl | decide))) (va_cwS 3 hts gX8_trace_X8_in rfl rfl rfl (by decide +kernel) ⟨Nat.le_of_ble_eq_true rfl, Nat.le_of_ble_eq_true rfl⟩) (x_ps (w := (wM G B)) hW hX hK hE hS [.long ((i : Int32).toInt64), .long (0), .long (((x (0) 12) - 1 : Int32).toInt64)]) rfl rfl hl.1 rfl (lv_room (Nat.le_of_ble_eq_true rfl)) dX8_trace_10 ⟨Nat.zero_le _, Nat.zero_le _⟩) hS (fun H_1 lo_2 hX hS => ?_)
  refine W.eq (g2 := F0 mm 13 ls [.int (bI (decide (0 ≤ i) && decide (i < nI k)))]) (congrArg (fun z9 : Bool => F0 mm 13 ls [.int (bI (z9))]) (show (decide ((0 : Int32) ≤ i) && decide (i ≤ x (0) 12 - 1)) = (decide (0 ≤ i) && decide (i < nI k)) by rw [hk, le_m1 (by omega)])) ?_
  refine x_ifeq (tgt := 25) hx hb dX8_trace_13 (by decide) (fun c_3 => ?_) (fun c_3 => ?_)
  · refine lv_ldc (v := (-1000000)) hx hb hown (hts _ kX8_trace_215) dX8_trace_25 ?_
    rw [← hQ]
    refine x_iret (v := (-1000000)) hx hb hr hX hS hlocks dX8_trace_27 ?_
    show PT_X8_trace _ _ _ _ _
    unfold PT_X8_trace
    rw [if_pos c_3]
    exact ⟨rfl, rfl⟩
  · obtain ⟨hie, hi9⟩ := hasM9 (c := nI k) (by omega) c_3 rfl
    refine lv_aload_n hx hb dX8_trace_16 rfl (lv_at hl 0 rfl) ?_
    refine x_get (w := (wM G B)) (a := 0) (v := .ref (B + (9))) hx hb hts iX8_trace_X8 hown hK hX (Nat.le_of_ble_eq_true rfl) (shM_0 (G := G) (B := B)) rfl 11 (by decide) (hts _ kX8_trace_34) (fun _ h9 => h9) rfl dX8_trace_17 ?_
    refine lv_iload_n hx hb dX8_trace_20 rfl (lv_at hl 1 rfl) ?_
    refine x_iald (w := (wM G B)) (a := 9) (n := 16) (j := tn i) hx hb hK hX (Nat.le_of_ble_eq_true rfl) (shM_a (G := G) (B := B) (a := 9) (f := x (9)) (by decide)) hie (by omega) (by decide) dX8_trace_21 ?_
    refine lv_goto (tgt := 27) hx hb dX8_trace_22 (by decide) ?_
    rw [← hQ]
    refine x_iret (v := x (9) (tn i)) hx hb hr hX hS hlocks dX8_trace_27 ?_
    show PT_X8_trace _ _ _ _ _
    unfold PT_X8_trace
    rw [if_neg (ne_of_true c_3)]
    exact ⟨rfl, rfl⟩
