theorem kX7_fault_118 : (.fieldLink RX7 118 "WindTaken" "fault" "I" : Cond) ∈ wsX7_fault := by decide +kernel
theorem iX7_fault_X7 : ∀ w ∈ wsX70, w ∈ wsX7_fault := by decide +kernel
abbrev rmX7_fault : Room := { frames := 0, cells := 0, slots := 0, locals := 0 }
set_option maxHeartbeats 4000000 in
set_option maxRecDepth 100000 in
theorem c_X7_fault (l : Launch) (G : GG) (B : Nat) (tt : Nat → Nat) (hW : WOK (wX G B tt)) (x : Mem)  : Met l yX7_fault wsX7_fault rmX7_fault (XP G (wX G B tt) [.ref (B + (0))] x) (va_Qi (fun r u => r = (x 0 7) ∧ u = x) (XB G (wX G B tt)) (blkA B (B + 117))) 0 0 (blkA B (B + 117)) := by
  refine Met.ofW (cc := cX7_fault) (maxL := 1) (ret := (some .int)) (by decide) rfl ?_
  intro pp ee ss mm aa bb mt cd s1 Bd hml hv
  obtain ⟨hae, hX, hK, hE⟩ := hv
  have hx := Bd.exec
  have hb := Bd.bytes
  have hr := Bd.returns
  have hts := atoms_spec (ws := wsX7_fault) Bd.pre
  have hown : ss.vm.findClass RX7 = some mm.cls := findClass_of_methodNamed Bd.named
  have hlocks := Bd.notSynchronized
  have hS : va_S (blkA B (B + 117)) ss.heap ss.heap [] := va_S.rf
  have hl := lv_entry ([.ref (B + (0))]) (n := 1) (Nat.le_of_ble_eq_true rfl)
  subst hae
  rw [lg_entry_eq]
  generalize (lg_sl ([.ref (B + (0))]) ++ List.replicate (1 - (lg_sl ([.ref (B + (0))])).length) Slot.unset).toArray = ls at hl ⊢
  have hl : lv_has ls 1 [(0, .ref (B + (0)))] := hl
  generalize ([.ref (B + (0))] : List Value).toArray = aa at hts ⊢
  show W pp l ee rmX7_fault ss mm aa bb mt cd ss.heap [] 0 0 _ (F0 mm 0 ls [])
  generalize hQ : MQ bb (va_Qi (fun r u => r = (x 0 7) ∧ u = x) (XB G (wX G B tt)) (blkA B (B + 117))) aa ss 0 0 (blkA B (B + 117)) = Q
  refine lv_aload_n hx hb dX7_fault_0 rfl (lv_at hl 0 rfl) ?_
  refine x_get (w := (wX G B tt)) (a := 0) (v := .int (x (0) 7)) hx hb hts iX7_fault_X7 hown hK hX (Nat.le_of_ble_eq_true rfl) (shX_mn (G := G) (B := B)) rfl 7 (by decide) (hts _ kX7_fault_118) (fun _ h9 => h9) rfl dX7_fault_1 ?_
  rw [← hQ]
  refine x_iret (v := x (0) 7) hx hb hr hX hS hlocks dX7_fault_4 ?_
  refine ⟨?_, rfl⟩
  first | rfl | simp []

theorem kX7_status_301 : (.fieldLink RX7 301 "WindTaken" "status" "I" : Cond) ∈ wsX7_status := by decide +kernel
theorem iX7_status_X7 : ∀ w ∈ wsX70, w ∈ wsX7_status := by decide +kernel
abbrev rmX7_status : Room := { frames := 0, cells := 0, slots := 0, locals := 0 }
set_option maxHeartbeats 4000000 in
set_option maxRecDepth 100000 in
theorem c_X7_status (l : Launch) (G : GG) (B : Nat) (tt : Nat → Nat) (hW : WOK (wX G B tt)) (x : Mem)  : Met l yX7_status wsX7_status rmX7_status (XP G (wX G B tt) [.ref (B + (0))] x) (va_Qi (fun r u => r = (x 0 8) ∧ u = x) (XB G (wX G B tt)) (blkA B (B + 117))) 0 0 (blkA B (B + 117)) := by
  refine Met.ofW (cc := cX7_status) (maxL := 1) (ret := (some .int)) (by decide) rfl ?_
  intro pp ee ss mm aa bb mt cd s1 Bd hml hv
  obtain ⟨hae, hX, hK, hE⟩ := hv
  have hx := Bd.exec
  have hb := Bd.bytes
  have hr := Bd.returns
  have hts := atoms_spec (ws := wsX7_status) Bd.pre
  have hown : ss.vm.findClass RX7 = some mm.cls := findClass_of_methodNamed Bd.named
  have hlocks := Bd.notSynchronized
  have hS : va_S (blkA B (B + 117)) ss.heap ss.heap [] := va_S.rf
  have hl := lv_entry ([.ref (B + (0))]) (n := 1) (Nat.le_of_ble_eq_true rfl)
  subst hae
  rw [lg_entry_eq]
  generalize (lg_sl ([.ref (B + (0))]) ++ List.replicate (1 - (lg_sl ([.ref (B + (0))])).length) Slot.unset).toArray = ls at hl ⊢
  have hl : lv_has ls 1 [(0, .ref (B + (0)))] := hl
  generalize ([.ref (B + (0))] : List Value).toArray = aa at hts ⊢
  show W pp l ee rmX7_status ss mm aa bb mt cd ss.heap [] 0 0 _ (F0 mm 0 ls [])
  generalize hQ : MQ bb (va_Qi (fun r u => r = (x 0 8) ∧ u = x) (XB G (wX G B tt)) (blkA B (B + 117))) aa ss 0 0 (blkA B (B + 117)) = Q
  refine lv_aload_n hx hb dX7_status_0 rfl (lv_at hl 0 rfl) ?_
  refine x_get (w := (wX G B tt)) (a := 0) (v := .int (x (0) 8)) hx hb hts iX7_status_X7 hown hK hX (Nat.le_of_ble_eq_true rfl) (shX_mn (G := G) (B := B)) rfl 8 (by decide) (hts _ kX7_status_301) (fun _ h9 => h9) rfl dX7_status_1 ?_
  rw [← hQ]
  refine x_iret (v := x (0) 8) hx hb hr hX hS hlocks dX7_status_4 ?_
  refine ⟨?_, rfl⟩
  first | rfl | simp []

def PT_X7_row (x : Mem) (a : Int32) (la : Int32) (k : Int32) (r : Int32) (u : Mem) : Prop := (if (decide (0 ≤ a) && decide (a ≤ 7)) = false then (r = (-1000001) ∧ u = x) else (if (decide (((0 : Int32)) ≤ la) && decide (la ≤ ((2 : Int32)))) = false then (r = (-1000001) ∧ u = x) else (if k ≤ 40 then (if 0 ≤ k then (r = k ∧ ∃ y, ((∀ a9, a9 ≠ 29 + 2 * tn a → a9 ≠ 29 + 2 * tn a + 1 → y a9 = x a9) ∧ y (29 + 2 * tn a) 1 = la ∧ y (29 + 2 * tn a) 2 = k ∧ ∀ j, j < 40 → y (29 + 2 * tn a + 1) j = 0) ∧ u = mst y 0 8 0) else (r = -1000010 - 4 ∧ u = mst x 0 8 4)) else (r = (-1000001) ∧ u = x))))
theorem kX7_row_59 : (.constant RX7 59 (-1000001) : Cond) ∈ wsX7_row := by decide +kernel
theorem kX7_row_11 : (.fieldLink RX7 11 "WindTaken" "rows" "[LWindTaken$Row;" : Cond) ∈ wsX7_row := by decide +kernel
theorem iX7_row_X7 : ∀ w ∈ wsX70, w ∈ wsX7_row := by decide +kernel
abbrev rmX7_row : Room := { frames := 2, cells := 0, slots := 0, locals := 42 }
set_option maxHeartbeats 4000000 in
set_option maxRecDepth 100000 in
theorem c_X7_row (l : Launch) (G : GG) (B : Nat) (tt : Nat → Nat) (hW : WOK (wX G B tt)) (x : Mem) (a : Int32) (la : Int32) (k : Int32) : Met l yX7_row wsX7_row rmX7_row (XP G (wX G B tt) [.ref (B + (0)), .int (a), .int (la), .int (k)] x) (va_Qi (fun r u => PT_X7_row x a la k r u) (XB G (wX G B tt)) (blkA B (B + 117))) 0 0 (blkA B (B + 117)) := by
  refine Met.ofW (cc := cX7_row) (maxL := 4) (ret := (some .int)) (by decide) rfl ?_
  intro pp ee ss mm aa bb mt cd s1 Bd hml hv
  obtain ⟨hae, hX, hK, hE⟩ := hv
  have hx := Bd.exec
  have hb := Bd.bytes
  have hr := Bd.returns
  have hts := atoms_spec (ws := wsX7_row) Bd.pre
  have hown : ss.vm.findClass RX7 = some mm.cls := findClass_of_methodNamed Bd.named
  have hlocks := Bd.notSynchronized
  have hS : va_S (blkA B (B + 117)) ss.heap ss.heap [] := va_S.rf
  have hl := lv_entry ([.ref (B + (0)), .int (a), .int (la), .int (k)]) (n := 4) (Nat.le_of_ble_eq_true rfl)
  subst hae
  rw [lg_entry_eq]
  generalize (lg_sl ([.ref (B + (0)), .int (a), .int (la), .int (k)]) ++ List.replicate (4 - (lg_sl ([.ref (B + (0)), .int (a), .int (la), .int (k)])).length) Slot.unset).toArray = ls at hl ⊢
  have hl : lv_has ls 4 [(0, .ref (B + (0))), (1, .int (a)), (2, .int (la)), (3, .int (k))] := hl
  generalize ([.ref (B + (0)), .int (a), .int (la), .int (k)] : List Value).toArray = aa at hts ⊢
  show W pp l ee rmX7_row ss mm aa bb mt cd ss.heap [] 0 0 _ (F0 mm 0 ls [])
  generalize hQ : MQ bb (va_Qi (fun r u => PT_X7_row x a la k r u) (XB G (wX G B tt)) (blkA B (B + 117))) aa ss 0 0 (blkA B (B + 117)) = Q
  refine lv_iload_n hx hb dX7_row_0 rfl (lv_at hl 1 rfl) ?_
  refine x_ip (w := (wX G B tt)) (x := x) (v := bI (decide (0 ≤ a) && decide (a ≤ 7))) (va_runS (As := [.int (a)]) (rest := []) ⟨hx, hb, hml, hown, hts⟩ (c_X7_isRow (l := l) (G := G) (B := B) (tt := tt) (hW := hW) (x := x) (v := a)) (va_cwS 1 hts gX7_row_X7_isRow rfl rfl rfl (by decide +kernel) ⟨Nat.le_of_ble_eq_true rfl, Nat.le_of_ble_eq_true rfl⟩) (x_ps (w := (wX G B tt)) hW hX hK hE hS [.int (a)]) rfl rfl hl.1 rfl (lv_room (Nat.le_of_ble_eq_true rfl)) dX7_row_1 ⟨Nat.zero_le _, Nat.zero_le _⟩) hS (fun H_1 lo_2 hX hS => ?_)
  refine x_ifeq (tgt := 22) hx hb dX7_row_4 (by decide) (fun c_3 => ?_) (fun c_3 => ?_)
  · refine lv_ldc (v := (-1000001)) hx hb hown (hts _ kX7_row_59) dX7_row_22 ?_
    rw [← hQ]
    refine x_iret (v := (-1000001)) hx hb hr hX hS hlocks dX7_row_24 ?_
    show PT_X7_row _ _ _ _ _ _
    unfold PT_X7_row
    rw [if_pos c_3]
    exact ⟨rfl, rfl⟩
  · obtain ⟨hae, ha8⟩ := rowN c_3
    refine lv_iload_n hx hb dX7_row_7 rfl (lv_at hl 2 rfl) ?_
    refine lv_iconst (v := 0) hx hb dX7_row_8 (by decide) ?_
    refine lv_iconst (v := 2) hx hb dX7_row_9 (by decide) ?_
    refine x_ip (w := (wX G B tt)) (x := x) (v := bI (decide (((0 : Int32)) ≤ la) && decide (la ≤ ((2 : Int32))))) (va_runS (As := [.int (la), .int (0), .int (2)]) (rest := []) ⟨hx, hb, hml, hown, hts⟩ (c_X7_isWithin (l := l) (G := G) (B := B) (tt := tt) (hW := hW) (x := x) (v := la) (lo := 0) (hi := 2)) (va_cwS 3 hts gX7_row_X7_isWithin rfl rfl rfl (by decide +kernel) ⟨Nat.le_of_ble_eq_true rfl, Nat.le_of_ble_eq_true rfl⟩) (x_ps (w := (wX G B tt)) hW hX hK hE hS [.int (la), .int (0), .int (2)]) rfl rfl hl.1 rfl (lv_room (Nat.le_of_ble_eq_true rfl)) dX7_row_10 ⟨Nat.zero_le _, Nat.zero_le _⟩) hS (fun H_4 lo_5 hX hS => ?_)
    refine x_ifeq (tgt := 22) hx hb dX7_row_13 (by decide) (fun c_6 => ?_) (fun c_6 => ?_)
    · refine lv_ldc (v := (-1000001)) hx hb hown (hts _ kX7_row_59) dX7_row_22 ?_
      rw [← hQ]
      refine x_iret (v := (-1000001)) hx hb hr hX hS hlocks dX7_row_24 ?_
      show PT_X7_row _ _ _ _ _ _
      unfold PT_X7_row
      rw [if_neg (ne_of_true c_3), if_pos c_6]
      exact ⟨rfl, rfl⟩
    · refine lv_iload_n hx hb dX7_row_16 rfl (lv_at hl 3 rfl) ?_
      refine lv_bipush (v := 40) hx hb dX7_row_17 (by decide) ?_
      refine lv_icmp_le (tgt := 25) hx hb dX7_row_19 (by decide) (fun c_7 => ?_) (fun c_7 => ?_)
      · refine lv_iload_n hx hb dX7_row_25 rfl (lv_at hl 3 rfl) ?_
        refine lv_if_ge (tgt := 35) hx hb dX7_row_26 (by decide) (fun c_8 => ?_) (fun c_8 => ?_)
        · refine lv_aload_n hx hb dX7_row_35 rfl (lv_at hl 0 rfl) ?_
          refine x_get (w := (wX G B tt)) (a := 0) (v := .ref (B + (1))) hx hb hts iX7_row_X7 hown hK hX (Nat.le_of_ble_eq_true rfl) (shX_mn (G := G) (B := B)) rfl 0 (by decide) (hts _ kX7_row_11) (fun _ h9 => h9) rfl dX7_row_36 ?_
          refine lv_iload_n hx hb dX7_row_39 rfl (lv_at hl 1 rfl) ?_
          refine x_aald (w := (wX G B tt)) (a := 1) (n := 8) (j := tn a) (q := B + (29 + 2 * (tn a))) (t0 := 5) hx hb hK hX (Nat.le_of_ble_eq_true rfl) (shX_ra (G := G) (B := B) (f := x (1))) rfl hae (by omega) (by decide) rfl dX7_row_40 ?_
          refine lv_iload_n hx hb dX7_row_41 rfl (lv_at hl 2 rfl) ?_
          refine lv_iload_n hx hb dX7_row_42 rfl (lv_at hl 3 rfl) ?_
          refine x_vf (w := (wX G B tt)) (va_runV (As := [.int (la), .int (k)]) (rest := []) ⟨hx, hb, hml, hown, hts⟩ (c_X4_lay (l := l) (G := G) (B := B) (tt := tt) (hW := hW) (x := x) (ro := tn a) (hro := (by omega)) (la := la) (n := k)) (cwV 2 hts gX7_row_X4_lay rfl rfl rfl (by decide +kernel) ⟨Nat.le_of_ble_eq_true rfl, Nat.le_of_ble_eq_true rfl⟩) (x_pv (w := (wX G B tt)) (a := 29 + 2 * (tn a)) hW hX hK hE hS [.int (la), .int (k)] (rw_lt (by omega)) (shX_rw (G := G) (B := B) (by omega)) rfl) rfl rfl hl.1 rfl (lv_room (Nat.le_of_ble_eq_true rfl)) dX7_row_43 ⟨Nat.zero_le _, Nat.zero_le _⟩) hS (fun x_11 H_9 lo_10 h_43 hX hS => ?_)
          try dsimp only at h_43
          refine lv_aload_n hx hb dX7_row_46 rfl (lv_at hl 0 rfl) ?_
          refine lv_iload_n hx hb dX7_row_47 rfl (lv_at hl 3 rfl) ?_
          refine x_if (w := (wX G B tt)) (va_runV (As := [.int (k)]) (rest := []) ⟨hx, hb, hml, hown, hts⟩ (c_X7_unfound (l := l) (G := G) (B := B) (tt := tt) (hW := hW) (x := x_11) (a := k)) (cwV 1 hts gX7_row_X7_unfound rfl rfl rfl (by decide +kernel) ⟨Nat.le_of_ble_eq_true rfl, Nat.le_of_ble_eq_true rfl⟩) (x_pv (w := (wX G B tt)) (a := 0) hW hX hK hE hS [.int (k)] (Nat.le_of_ble_eq_true rfl) (shX_mn (G := G) (B := B)) rfl) rfl rfl hl.1 rfl (lv_room (Nat.le_of_ble_eq_true rfl)) dX7_row_48 ⟨Nat.zero_le _, Nat.zero_le _⟩) hS (fun r_14 x_15 H_12 lo_13 h_48 hX hS => ?_)
          try dsimp only at h_48
          rw [← hQ]
          refine x_iret (v := r_14) hx hb hr hX hS hlocks dX7_row_51 ?_
          show PT_X7_row _ _ _ _ _ _
          unfold PT_X7_row
          rw [if_neg (ne_of_true c_3), if_neg (ne_of_true c_6), if_pos c_7, if_pos c_8]
          exact ⟨h_48.1, _, h_43, h_48.2⟩
        · refine lv_aload_n hx hb dX7_row_29 rfl (lv_at hl 0 rfl) ?_
          refine lv_iconst (v := 4) hx hb dX7_row_30 (by decide) ?_
          refine x_if (w := (wX G B tt)) (va_runV (As := [.int (4)]) (rest := []) ⟨hx, hb, hml, hown, hts⟩ (c_X7_found (l := l) (G := G) (B := B) (tt := tt) (hW := hW) (x := x) (f := 4)) (cwV 1 hts gX7_row_X7_found rfl rfl rfl (by decide +kernel) ⟨Nat.le_of_ble_eq_true rfl, Nat.le_of_ble_eq_true rfl⟩) (x_pv (w := (wX G B tt)) (a := 0) hW hX hK hE hS [.int (4)] (Nat.le_of_ble_eq_true rfl) (shX_mn (G := G) (B := B)) rfl) rfl rfl hl.1 rfl (lv_room (Nat.le_of_ble_eq_true rfl)) dX7_row_31 ⟨Nat.zero_le _, Nat.zero_le _⟩) hS (fun r_18 x_19 H_16 lo_17 h_31 hX hS => ?_)
          try dsimp only at h_31
          rw [← hQ]
          refine x_iret (v := r_18) hx hb hr hX hS hlocks dX7_row_34 ?_
          show PT_X7_row _ _ _ _ _ _
          unfold PT_X7_row
          rw [if_neg (ne_of_true c_3), if_neg (ne_of_true c_6), if_pos c_7, if_neg c_8]
          exact h_31
      · refine lv_ldc (v := (-1000001)) hx hb hown (hts _ kX7_row_59) dX7_row_22 ?_
        rw [← hQ]
        refine x_iret (v := (-1000001)) hx hb hr hX hS hlocks dX7_row_24 ?_
        show PT_X7_row _ _ _ _ _ _
        unfold PT_X7_row
        rw [if_neg (ne_of_true c_3), if_neg (ne_of_true c_6), if_neg c_7]
        exact ⟨rfl, rfl⟩

def PT_X7_set (x : Mem) (a : Int32) (i : Int32) (v : Int32) (r : Int32) (u : Mem) : Prop := (if (decide (0 ≤ a) && decide (a ≤ 7)) = true then (if (decide (x (29 + 2 * (tn a)) 2 = -1)) = false then (if (decide (0 ≤ i) && (decide (0 ≤ ((1 : Int32))) && decide (((1 : Int32)) ≤ x (29 + 2 * (tn a)) 2 - i))) = true then (r = narI (x (29 + 2 * tn a) 1) v ∧ ∃ y, y = mst x (29 + 2 * tn a + 1) (tn i) r ∧ u = mst y 0 8 0) else (r = -1000010 - 2 ∧ u = mst x 0 8 2)) else (r = -1000010 - 1 ∧ u = mst x 0 8 1)) else (r = (-1000001) ∧ u = x))
theorem kX7_set_11 : (.fieldLink RX7 11 "WindTaken" "rows" "[LWindTaken$Row;" : Cond) ∈ wsX7_set := by decide +kernel
theorem iX7_set_X7 : ∀ w ∈ wsX70, w ∈ wsX7_set := by decide +kernel
theorem kX7_set_59 : (.constant RX7 59 (-1000001) : Cond) ∈ wsX7_set := by decide +kernel
abbrev rmX7_set : Room := { frames := 2, cells := 0, slots := 0, locals := 43 }
set_option maxHeartbeats 4000000 in
set_option maxRecDepth 100000 in
theorem c_X7_set (l : Launch) (G : GG) (B : Nat) (tt : Nat → Nat) (hW : WOK (wX G B tt)) (x : Mem) (a : Int32) (i : Int32) (v : Int32) (hRo : ROK x) : Met l yX7_set wsX7_set rmX7_set (XP G (wX G B tt) [.ref (B + (0)), .int (a), .int (i), .int (v)] x) (va_Qi (fun r u => PT_X7_set x a i v r u) (XB G (wX G B tt)) (blkA B (B + 117))) 0 0 (blkA B (B + 117)) := by
  refine Met.ofW (cc := cX7_set) (maxL := 5) (ret := (some .int)) (by decide) rfl ?_
  intro pp ee ss mm aa bb mt cd s1 Bd hml hv
  obtain ⟨hae, hX, hK, hE⟩ := hv
  have hx := Bd.exec
  have hb := Bd.bytes
  have hr := Bd.returns
  have hts := atoms_spec (ws := wsX7_set) Bd.pre
  have hown : ss.vm.findClass RX7 = some mm.cls := findClass_of_methodNamed Bd.named
  have hlocks := Bd.notSynchronized
  have hS : va_S (blkA B (B + 117)) ss.heap ss.heap [] := va_S.rf
  have hl := lv_entry ([.ref (B + (0)), .int (a), .int (i), .int (v)]) (n := 5) (Nat.le_of_ble_eq_true rfl)
  subst hae
  rw [lg_entry_eq]
  generalize (lg_sl ([.ref (B + (0)), .int (a), .int (i), .int (v)]) ++ List.replicate (5 - (lg_sl ([.ref (B + (0)), .int (a), .int (i), .int (v)])).length) Slot.unset).toArray = ls at hl ⊢
  have hl : lv_has ls 5 [(0, .ref (B + (0))), (1, .int (a)), (2, .int (i)), (3, .int (v))] := hl
  generalize ([.ref (B + (0)), .int (a), .int (i), .int (v)] : List Value).toArray = aa at hts ⊢
  show W pp l ee rmX7_set ss mm aa bb mt cd ss.heap [] 0 0 _ (F0 mm 0 ls [])
  generalize hQ : MQ bb (va_Qi (fun r u => PT_X7_set x a i v r u) (XB G (wX G B tt)) (blkA B (B + 117))) aa ss 0 0 (blkA B (B + 117)) = Q
  refine lv_iload_n hx hb dX7_set_0 rfl (lv_at hl 1 rfl) ?_
  refine x_ip (w := (wX G B tt)) (x := x) (v := bI (decide (0 ≤ a) && decide (a ≤ 7))) (va_runS (As := [.int (a)]) (rest := []) ⟨hx, hb, hml, hown, hts⟩ (c_X7_isRow (l := l) (G := G) (B := B) (tt := tt) (hW := hW) (x := x) (v := a)) (va_cwS 1 hts gX7_set_X7_isRow rfl rfl rfl (by decide +kernel) ⟨Nat.le_of_ble_eq_true rfl, Nat.le_of_ble_eq_true rfl⟩) (x_ps (w := (wX G B tt)) hW hX hK hE hS [.int (a)]) rfl rfl hl.1 rfl (lv_room (Nat.le_of_ble_eq_true rfl)) dX7_set_1 ⟨Nat.zero_le _, Nat.zero_le _⟩) hS (fun H_1 lo_2 hX hS => ?_)
  refine x_ifne (tgt := 10) hx hb dX7_set_4 (by decide) (fun c_3 => ?_) (fun c_3 => ?_)
  · obtain ⟨hae, ha8⟩ := rowN c_3
    refine lv_aload_n hx hb dX7_set_10 rfl (lv_at hl 0 rfl) ?_
    refine x_get (w := (wX G B tt)) (a := 0) (v := .ref (B + (1))) hx hb hts iX7_set_X7 hown hK hX (Nat.le_of_ble_eq_true rfl) (shX_mn (G := G) (B := B)) rfl 0 (by decide) (hts _ kX7_set_11) (fun _ h9 => h9) rfl dX7_set_11 ?_
    refine lv_iload_n hx hb dX7_set_14 rfl (lv_at hl 1 rfl) ?_
    refine x_aald (w := (wX G B tt)) (a := 1) (n := 8) (j := tn a) (q := B + (29 + 2 * (tn a))) (t0 := 5) hx hb hK hX (Nat.le_of_ble_eq_true rfl) (shX_ra (G := G) (B := B) (f := x (1))) rfl hae (by omega) (by decide) rfl dX7_set_15 ?_
    refine lv_astore (lv' := [(4, .ref (B + (29 + 2 * (tn a)))), (0, .ref (B + (0))), (1, .int (a)), (2, .int (i)), (3, .int (v))]) hx hb dX7_set_16 hl (by decide) rfl (fun ls hl => ?_)
    refine lv_aload hx hb dX7_set_18 (lv_at hl 0 rfl) ?_
    refine x_ip (w := (wX G B tt)) (x := x) (v := bI (decide (x (29 + 2 * (tn a)) 2 = -1))) (va_runV (As := []) (rest := []) ⟨hx, hb, hml, hown, hts⟩ (c_X4_isMissing (l := l) (G := G) (B := B) (tt := tt) (hW := hW) (x := x) (ro := tn a) (hro := (by omega))) (cwV 0 hts gX7_set_X4_isMissing rfl rfl rfl (by decide +kernel) ⟨Nat.le_of_ble_eq_true rfl, Nat.le_of_ble_eq_true rfl⟩) (x_pv (w := (wX G B tt)) (a := 29 + 2 * (tn a)) hW hX hK hE hS [] (rw_lt (by omega)) (shX_rw (G := G) (B := B) (by omega)) rfl) rfl rfl hl.1 rfl (lv_room (Nat.le_of_ble_eq_true rfl)) dX7_set_20 ⟨Nat.zero_le _, Nat.zero_le _⟩) hS (fun H_4 lo_5 hX hS => ?_)
    refine x_ifeq (tgt := 32) hx hb dX7_set_23 (by decide) (fun c_6 => ?_) (fun c_6 => ?_)
    · have hmi := c_6
      refine lv_aload hx hb dX7_set_32 (lv_at hl 0 rfl) ?_
      refine lv_iload_n hx hb dX7_set_34 rfl (lv_at hl 3 rfl) ?_
      refine lv_iconst (v := 1) hx hb dX7_set_35 (by decide) ?_
      refine x_ip (w := (wX G B tt)) (x := x) (v := bI (decide (0 ≤ i) && (decide (0 ≤ ((1 : Int32))) && decide (((1 : Int32)) ≤ x (29 + 2 * (tn a)) 2 - i)))) (va_runV (As := [.int (i), .int (1)]) (rest := []) ⟨hx, hb, hml, hown, hts⟩ (c_X4_covers (l := l) (G := G) (B := B) (tt := tt) (hW := hW) (x := x) (ro := tn a) (hro := (by omega)) (i := i) (n := 1)) (cwV 2 hts gX7_set_X4_covers rfl rfl rfl (by decide +kernel) ⟨Nat.le_of_ble_eq_true rfl, Nat.le_of_ble_eq_true rfl⟩) (x_pv (w := (wX G B tt)) (a := 29 + 2 * (tn a)) hW hX hK hE hS [.int (i), .int (1)] (rw_lt (by omega)) (shX_rw (G := G) (B := B) (by omega)) rfl) rfl rfl hl.1 rfl (lv_room (Nat.le_of_ble_eq_true rfl)) dX7_set_36 ⟨Nat.zero_le _, Nat.zero_le _⟩) hS (fun H_7 lo_8 hX hS => ?_)
      refine x_ifne (tgt := 48) hx hb dX7_set_39 (by decide) (fun c_9 => ?_) (fun c_9 => ?_)
      · obtain ⟨hie, hke, hik⟩ := covN hRo ha8 hmi c_9
        have hk1 : tn 1 = 1 := tn_nI (k := 1) (by decide)
        refine lv_aload_n hx hb dX7_set_48 rfl (lv_at hl 1 rfl) ?_
        refine lv_aload hx hb dX7_set_49 (lv_at hl 0 rfl) ?_
        refine lv_iload_n hx hb dX7_set_51 rfl (lv_at hl 3 rfl) ?_
        refine lv_iload_n hx hb dX7_set_52 rfl (lv_at hl 4 rfl) ?_
        refine W.eq (g2 := F0 mm 53 ls [.int (v), .int (nI (tn i)), .ref (B + (29 + 2 * (tn a))), .ref (B + (0))]) (congrArg (fun z9 : Int32 => F0 mm 53 ls [.int (v), .int (z9), .ref (B + (29 + 2 * (tn a))), .ref (B + (0))]) hie) ?_
        refine x_if (w := (wX G B tt)) (va_runV (As := [.int (nI (tn i)), .int (v)]) (rest := [.ref (B + (0))]) ⟨hx, hb, hml, hown, hts⟩ (c_X4_put (l := l) (G := G) (B := B) (tt := tt) (hW := hW) (x := x) (ro := tn a) (hro := (by omega)) (i := tn i) (v := v) (hi := (by omega))) (cwV 2 hts gX7_set_X4_put rfl rfl rfl (by decide +kernel) ⟨Nat.le_of_ble_eq_true rfl, Nat.le_of_ble_eq_true rfl⟩) (x_pv (w := (wX G B tt)) (a := 29 + 2 * (tn a)) hW hX hK hE hS [.int (nI (tn i)), .int (v)] (rw_lt (by omega)) (shX_rw (G := G) (B := B) (by omega)) rfl) rfl rfl hl.1 rfl (lv_room (Nat.le_of_ble_eq_true rfl)) dX7_set_53 ⟨Nat.zero_le _, Nat.zero_le _⟩) hS (fun r_12 x_13 H_10 lo_11 h_53 hX hS => ?_)
        try dsimp only at h_53
        refine x_if (w := (wX G B tt)) (va_runV (As := [.int (r_12)]) (rest := []) ⟨hx, hb, hml, hown, hts⟩ (c_X7_unfound (l := l) (G := G) (B := B) (tt := tt) (hW := hW) (x := x_13) (a := r_12)) (cwV 1 hts gX7_set_X7_unfound rfl rfl rfl (by decide +kernel) ⟨Nat.le_of_ble_eq_true rfl, Nat.le_of_ble_eq_true rfl⟩) (x_pv (w := (wX G B tt)) (a := 0) hW hX hK hE hS [.int (r_12)] (Nat.le_of_ble_eq_true rfl) (shX_mn (G := G) (B := B)) rfl) rfl rfl hl.1 rfl (lv_room (Nat.le_of_ble_eq_true rfl)) dX7_set_56 ⟨Nat.zero_le _, Nat.zero_le _⟩) hS (fun r_16 x_17 H_14 lo_15 h_56 hX hS => ?_)
        try dsimp only at h_56
        rw [← hQ]
        refine x_iret (v := r_16) hx hb hr hX hS hlocks dX7_set_59 ?_
        show PT_X7_set _ _ _ _ _ _
        unfold PT_X7_set
        rw [if_pos c_3, if_pos c_6, if_pos c_9]
        obtain ⟨h1, h2⟩ := h_56; subst h1; exact ⟨h_53.1, _, h_53.2, h2⟩
      · refine lv_aload_n hx hb dX7_set_42 rfl (lv_at hl 1 rfl) ?_
        refine lv_iconst (v := 2) hx hb dX7_set_43 (by decide) ?_
        refine x_if (w := (wX G B tt)) (va_runV (As := [.int (2)]) (rest := []) ⟨hx, hb, hml, hown, hts⟩ (c_X7_found (l := l) (G := G) (B := B) (tt := tt) (hW := hW) (x := x) (f := 2)) (cwV 1 hts gX7_set_X7_found rfl rfl rfl (by decide +kernel) ⟨Nat.le_of_ble_eq_true rfl, Nat.le_of_ble_eq_true rfl⟩) (x_pv (w := (wX G B tt)) (a := 0) hW hX hK hE hS [.int (2)] (Nat.le_of_ble_eq_true rfl) (shX_mn (G := G) (B := B)) rfl) rfl rfl hl.1 rfl (lv_room (Nat.le_of_ble_eq_true rfl)) dX7_set_44 ⟨Nat.zero_le _, Nat.zero_le _⟩) hS (fun r_20 x_21 H_18 lo_19 h_44 hX hS => ?_)
        try dsimp only at h_44
        rw [← hQ]
        refine x_iret (v := r_20) hx hb hr hX hS hlocks dX7_set_47 ?_
        show PT_X7_set _ _ _ _ _ _
        unfold PT_X7_set
        rw [if_pos c_3, if_pos c_6, if_neg (ne_of_false c_9)]
        exact h_44
    · refine lv_aload_n hx hb dX7_set_26 rfl (lv_at hl 1 rfl) ?_
      refine lv_iconst (v := 1) hx hb dX7_set_27 (by decide) ?_
      refine x_if (w := (wX G B tt)) (va_runV (As := [.int (1)]) (rest := []) ⟨hx, hb, hml, hown, hts⟩ (c_X7_found (l := l) (G := G) (B := B) (tt := tt) (hW := hW) (x := x) (f := 1)) (cwV 1 hts gX7_set_X7_found rfl rfl rfl (by decide +kernel) ⟨Nat.le_of_ble_eq_true rfl, Nat.le_of_ble_eq_true rfl⟩) (x_pv (w := (wX G B tt)) (a := 0) hW hX hK hE hS [.int (1)] (Nat.le_of_ble_eq_true rfl) (shX_mn (G := G) (B := B)) rfl) rfl rfl hl.1 rfl (lv_room (Nat.le_of_ble_eq_true rfl)) dX7_set_28 ⟨Nat.zero_le _, Nat.zero_le _⟩) hS (fun r_24 x_25 H_22 lo_23 h_28 hX hS => ?_)
      try dsimp only at h_28
      rw [← hQ]
      refine x_iret (v := r_24) hx hb hr hX hS hlocks dX7_set_31 ?_
      show PT_X7_set _ _ _ _ _ _
      unfold PT_X7_set
      rw [if_pos c_3, if_neg (ne_of_true c_6)]
      exact h_28
  · refine lv_ldc (v := (-1000001)) hx hb hown (hts _ kX7_set_59) dX7_set_7 ?_
    rw [← hQ]
    refine x_iret (v := (-1000001)) hx hb hr hX hS hlocks dX7_set_9 ?_
    show PT_X7_set _ _ _ _ _ _
    unfold PT_X7_set
    rw [if_neg (ne_of_false c_3)]
    exact ⟨rfl, rfl⟩

def PT_X7_drop (x : Mem) (a : Int32) (r : Int32) (u : Mem) : Prop := (if (decide (0 ≤ a) && decide (a ≤ 7)) = true then (if (decide (x (29 + 2 * (tn a)) 2 = -1)) = false then (r = x (29 + 2 * tn a) 2 ∧ u = mst (mst x (29 + 2 * tn a) 2 (-1)) 0 8 0) else (r = -1000010 - 1 ∧ u = mst x 0 8 1)) else (r = (-1000001) ∧ u = x))
theorem kX7_drop_11 : (.fieldLink RX7 11 "WindTaken" "rows" "[LWindTaken$Row;" : Cond) ∈ wsX7_drop := by decide +kernel
theorem iX7_drop_X7 : ∀ w ∈ wsX70, w ∈ wsX7_drop := by decide +kernel
theorem kX7_drop_97 : (.fieldLink RX7 97 "WindTaken$Row" "size" "I" : Cond) ∈ wsX7_drop := by decide +kernel
theorem iX7_drop_X4 : ∀ w ∈ wsX40, w ∈ wsX7_drop := by decide +kernel
theorem kX7_drop_59 : (.constant RX7 59 (-1000001) : Cond) ∈ wsX7_drop := by decide +kernel
abbrev rmX7_drop : Room := { frames := 2, cells := 0, slots := 0, locals := 42 }
set_option maxHeartbeats 4000000 in
set_option maxRecDepth 100000 in
theorem c_X7_drop (l : Launch) (G : GG) (B : Nat) (tt : Nat → Nat) (hW : WOK (wX G B tt)) (x : Mem) (a : Int32) : Met l yX7_drop wsX7_drop rmX7_drop (XP G (wX G B tt) [.ref (B + (0)), .int (a)] x) (va_Qi (fun r u => PT_X7_drop x a r u) (XB G (wX G B tt)) (blkA B (B + 117))) 0 0 (blkA B (B + 117)) := by
  refine Met.ofW (cc := cX7_drop) (maxL := 4) (ret := (some .int)) (by decide) rfl ?_
  intro pp ee ss mm aa bb mt cd s1 Bd hml hv
  obtain ⟨hae, hX, hK, hE⟩ := hv
  have hx := Bd.exec
  have hb := Bd.bytes
  have hr := Bd.returns
  have hts := atoms_spec (ws := wsX7_drop) Bd.pre
  have hown : ss.vm.findClass RX7 = some mm.cls := findClass_of_methodNamed Bd.named
  have hlocks := Bd.notSynchronized
  have hS : va_S (blkA B (B + 117)) ss.heap ss.heap [] := va_S.rf
  have hl := lv_entry ([.ref (B + (0)), .int (a)]) (n := 4) (Nat.le_of_ble_eq_true rfl)
  subst hae
  rw [lg_entry_eq]
  generalize (lg_sl ([.ref (B + (0)), .int (a)]) ++ List.replicate (4 - (lg_sl ([.ref (B + (0)), .int (a)])).length) Slot.unset).toArray = ls at hl ⊢
  have hl : lv_has ls 4 [(0, .ref (B + (0))), (1, .int (a))] := hl
  generalize ([.ref (B + (0)), .int (a)] : List Value).toArray = aa at hts ⊢
  show W pp l ee rmX7_drop ss mm aa bb mt cd ss.heap [] 0 0 _ (F0 mm 0 ls [])
  generalize hQ : MQ bb (va_Qi (fun r u => PT_X7_drop x a r u) (XB G (wX G B tt)) (blkA B (B + 117))) aa ss 0 0 (blkA B (B + 117)) = Q
  refine lv_iload_n hx hb dX7_drop_0 rfl (lv_at hl 1 rfl) ?_
  refine x_ip (w := (wX G B tt)) (x := x) (v := bI (decide (0 ≤ a) && decide (a ≤ 7))) (va_runS (As := [.int (a)]) (rest := []) ⟨hx, hb, hml, hown, hts⟩ (c_X7_isRow (l := l) (G := G) (B := B) (tt := tt) (hW := hW) (x := x) (v := a)) (va_cwS 1 hts gX7_drop_X7_isRow rfl rfl rfl (by decide +kernel) ⟨Nat.le_of_ble_eq_true rfl, Nat.le_of_ble_eq_true rfl⟩) (x_ps (w := (wX G B tt)) hW hX hK hE hS [.int (a)]) rfl rfl hl.1 rfl (lv_room (Nat.le_of_ble_eq_true rfl)) dX7_drop_1 ⟨Nat.zero_le _, Nat.zero_le _⟩) hS (fun H_1 lo_2 hX hS => ?_)
  refine x_ifne (tgt := 10) hx hb dX7_drop_4 (by decide) (fun c_3 => ?_) (fun c_3 => ?_)
  · obtain ⟨hae, ha8⟩ := rowN c_3
    refine lv_aload_n hx hb dX7_drop_10 rfl (lv_at hl 0 rfl) ?_
    refine x_get (w := (wX G B tt)) (a := 0) (v := .ref (B + (1))) hx hb hts iX7_drop_X7 hown hK hX (Nat.le_of_ble_eq_true rfl) (shX_mn (G := G) (B := B)) rfl 0 (by decide) (hts _ kX7_drop_11) (fun _ h9 => h9) rfl dX7_drop_11 ?_
    refine lv_iload_n hx hb dX7_drop_14 rfl (lv_at hl 1 rfl) ?_
    refine x_aald (w := (wX G B tt)) (a := 1) (n := 8) (j := tn a) (q := B + (29 + 2 * (tn a))) (t0 := 5) hx hb hK hX (Nat.le_of_ble_eq_true rfl) (shX_ra (G := G) (B := B) (f := x (1))) rfl hae (by omega) (by decide) rfl dX7_drop_15 ?_
    refine lv_astore_n (lv' := [(2, .ref (B + (29 + 2 * (tn a)))), (0, .ref (B + (0))), (1, .int (a))]) hx hb dX7_drop_16 rfl hl (by decide) rfl (fun ls hl => ?_)
    refine lv_aload_n hx hb dX7_drop_17 rfl (lv_at hl 0 rfl) ?_
    refine x_ip (w := (wX G B tt)) (x := x) (v := bI (decide (x (29 + 2 * (tn a)) 2 = -1))) (va_runV (As := []) (rest := []) ⟨hx, hb, hml, hown, hts⟩ (c_X4_isMissing (l := l) (G := G) (B := B) (tt := tt) (hW := hW) (x := x) (ro := tn a) (hro := (by omega))) (cwV 0 hts gX7_drop_X4_isMissing rfl rfl rfl (by decide +kernel) ⟨Nat.le_of_ble_eq_true rfl, Nat.le_of_ble_eq_true rfl⟩) (x_pv (w := (wX G B tt)) (a := 29 + 2 * (tn a)) hW hX hK hE hS [] (rw_lt (by omega)) (shX_rw (G := G) (B := B) (by omega)) rfl) rfl rfl hl.1 rfl (lv_room (Nat.le_of_ble_eq_true rfl)) dX7_drop_18 ⟨Nat.zero_le _, Nat.zero_le _⟩) hS (fun H_4 lo_5 hX hS => ?_)
    refine x_ifeq (tgt := 30) hx hb dX7_drop_21 (by decide) (fun c_6 => ?_) (fun c_6 => ?_)
    · refine lv_aload_n hx hb dX7_drop_30 rfl (lv_at hl 0 rfl) ?_
      refine x_get (w := (wX G B tt)) (a := 29 + 2 * (tn a)) (v := .int (x (29 + 2 * (tn a)) 2)) hx hb hts iX7_drop_X4 hown hK hX (rw_lt (by omega)) (shX_rw (G := G) (B := B) (by omega)) rfl 2 (by decide) (hts _ kX7_drop_97) (fun _ h9 => h9) rfl dX7_drop_31 ?_
      refine lv_istore_n (lv' := [(3, .int (x (29 + 2 * (tn a)) 2)), (2, .ref (B + (29 + 2 * (tn a)))), (0, .ref (B + (0))), (1, .int (a))]) hx hb dX7_drop_34 rfl hl (by decide) rfl (fun ls hl => ?_)
      refine lv_aload_n hx hb dX7_drop_35 rfl (lv_at hl 1 rfl) ?_
      refine lv_iconst (v := (-1)) hx hb dX7_drop_36 (by decide) ?_
      refine x_put (w := (wX G B tt)) (a := 29 + 2 * (tn a)) (v := (-1)) (ty := .int) hx hb hts iX7_drop_X4 tyX4 tyX4_ok nmX4 hown hK hW hX hS (rw_lt (by omega)) (shX_rw (G := G) (B := B) (by omega)) rfl 2 (by decide) (hts _ kX7_drop_97) (fun _ h9 => h9) rfl (by decide +kernel) rfl rfl (Nat.le_of_ble_eq_true rfl) (shX_rw (G := G) (B := B) (by omega)) dX7_drop_37 (fun H_8 lo_9 hX hS => ?_)
      obtain ⟨x_7, ex_7⟩ : ∃ z, z = mst x (29 + 2 * (tn a)) 2 ((-1)) := ⟨_, rfl⟩
      rw [← ex_7] at hX
      refine lv_aload_n hx hb dX7_drop_40 rfl (lv_at hl 2 rfl) ?_
      refine lv_iload_n hx hb dX7_drop_41 rfl (lv_at hl 0 rfl) ?_
      refine x_if (w := (wX G B tt)) (va_runV (As := [.int (x (29 + 2 * (tn a)) 2)]) (rest := []) ⟨hx, hb, hml, hown, hts⟩ (c_X7_unfound (l := l) (G := G) (B := B) (tt := tt) (hW := hW) (x := x_7) (a := x (29 + 2 * (tn a)) 2)) (cwV 1 hts gX7_drop_X7_unfound rfl rfl rfl (by decide +kernel) ⟨Nat.le_of_ble_eq_true rfl, Nat.le_of_ble_eq_true rfl⟩) (x_pv (w := (wX G B tt)) (a := 0) hW hX hK hE hS [.int (x (29 + 2 * (tn a)) 2)] (Nat.le_of_ble_eq_true rfl) (shX_mn (G := G) (B := B)) rfl) rfl rfl hl.1 rfl (lv_room (Nat.le_of_ble_eq_true rfl)) dX7_drop_42 ⟨Nat.zero_le _, Nat.zero_le _⟩) hS (fun r_12 x_13 H_10 lo_11 h_42 hX hS => ?_)
      try dsimp only at h_42
      rw [← hQ]
      refine x_iret (v := r_12) hx hb hr hX hS hlocks dX7_drop_45 ?_
      show PT_X7_drop _ _ _ _
      unfold PT_X7_drop
      rw [if_pos c_3, if_pos c_6]
      exact ⟨h_42.1, by rw [h_42.2, ex_7]⟩
    · refine lv_aload_n hx hb dX7_drop_24 rfl (lv_at hl 1 rfl) ?_
      refine lv_iconst (v := 1) hx hb dX7_drop_25 (by decide) ?_
      refine x_if (w := (wX G B tt)) (va_runV (As := [.int (1)]) (rest := []) ⟨hx, hb, hml, hown, hts⟩ (c_X7_found (l := l) (G := G) (B := B) (tt := tt) (hW := hW) (x := x) (f := 1)) (cwV 1 hts gX7_drop_X7_found rfl rfl rfl (by decide +kernel) ⟨Nat.le_of_ble_eq_true rfl, Nat.le_of_ble_eq_true rfl⟩) (x_pv (w := (wX G B tt)) (a := 0) hW hX hK hE hS [.int (1)] (Nat.le_of_ble_eq_true rfl) (shX_mn (G := G) (B := B)) rfl) rfl rfl hl.1 rfl (lv_room (Nat.le_of_ble_eq_true rfl)) dX7_drop_26 ⟨Nat.zero_le _, Nat.zero_le _⟩) hS (fun r_16 x_17 H_14 lo_15 h_26 hX hS => ?_)
      try dsimp only at h_26
      rw [← hQ]
      refine x_iret (v := r_16) hx hb hr hX hS hlocks dX7_drop_29 ?_
      show PT_X7_drop _ _ _ _
      unfold PT_X7_drop
      rw [if_pos c_3, if_neg (ne_of_true c_6)]
      exact h_26
  · refine lv_ldc (v := (-1000001)) hx hb hown (hts _ kX7_drop_59) dX7_drop_7 ?_
    rw [← hQ]
    refine x_iret (v := (-1000001)) hx hb hr hX hS hlocks dX7_drop_9 ?_
    show PT_X7_drop _ _ _ _
    unfold PT_X7_drop
    rw [if_neg (ne_of_false c_3)]
    exact ⟨rfl, rfl⟩

def PT_X7_copy (x : Mem) (a : Int32) (i : Int32) (b9 : Int32) (j : Int32) (k : Int32) (r : Int32) (u : Mem) : Prop := (if (decide (0 ≤ a) && decide (a ≤ 7)) = false then (r = (-1000001) ∧ u = x) else (if (decide (0 ≤ b9) && decide (b9 ≤ 7)) = true then (if (decide (x (29 + 2 * (tn a)) 2 = -1)) = true then (r = -1000010 - 1 ∧ u = mst x 0 8 1) else (if (decide (x (29 + 2 * (tn b9)) 2 = -1)) = false then (if (x (29 + 2 * (tn a)) 1) = (x (29 + 2 * (tn b9)) 1) then (if (decide (0 ≤ i) && (decide (0 ≤ k) && decide (k ≤ x (29 + 2 * (tn a)) 2 - i))) = false then (r = -1000010 - 2 ∧ u = mst x 0 8 2) else (if (decide (0 ≤ j) && (decide (0 ≤ k) && decide (k ≤ x (29 + 2 * (tn b9)) 2 - j))) = true then (r = k ∧ u = mst (mcp x (29 + 2 * tn a + 1) (29 + 2 * tn b9 + 1) (tn i) (tn j) (tn k)) 0 8 0) else (r = -1000010 - 2 ∧ u = mst x 0 8 2))) else (r = -1000010 - 5 ∧ u = mst x 0 8 5)) else (r = -1000010 - 1 ∧ u = mst x 0 8 1))) else (r = (-1000001) ∧ u = x)))
theorem kX7_copy_59 : (.constant RX7 59 (-1000001) : Cond) ∈ wsX7_copy := by decide +kernel
theorem kX7_copy_11 : (.fieldLink RX7 11 "WindTaken" "rows" "[LWindTaken$Row;" : Cond) ∈ wsX7_copy := by decide +kernel
theorem iX7_copy_X7 : ∀ w ∈ wsX70, w ∈ wsX7_copy := by decide +kernel
theorem kX7_copy_83 : (.fieldLink RX7 83 "WindTaken$Row" "lane" "I" : Cond) ∈ wsX7_copy := by decide +kernel
theorem iX7_copy_X4 : ∀ w ∈ wsX40, w ∈ wsX7_copy := by decide +kernel
theorem kX7_copy_87 : (.fieldLink RX7 87 "WindTaken$Row" "items" "[I" : Cond) ∈ wsX7_copy := by decide +kernel
theorem kX7_copy_91 : (.methodLink RX7 91 arraycopyName : Cond) ∈ wsX7_copy := by decide +kernel
theorem knX7_copy : (.native arraycopyName : Cond) ∈ wsX7_copy := by decide +kernel
theorem ksX7_copy_ac : (.static arraycopyName : Cond) ∈ wsX7_copy := by decide +kernel
theorem kiX7_copy_ac : (.initialized "java/lang/System" : Cond) ∈ wsX7_copy := by decide +kernel
abbrev rmX7_copy : Room := { frames := 2, cells := 0, slots := 0, locals := 42 }
set_option maxHeartbeats 4000000 in
set_option maxRecDepth 100000 in
theorem c_X7_copy (l : Launch) (G : GG) (B : Nat) (tt : Nat → Nat) (hW : WOK (wX G B tt)) (x : Mem) (a : Int32) (i : Int32) (b9 : Int32) (j : Int32) (k : Int32) (hRo : ROK x) : Met l yX7_copy wsX7_copy rmX7_copy (XP G (wX G B tt) [.ref (B + (0)), .int (a), .int (i), .int (b9), .int (j), .int (k)] x) (va_Qi (fun r u => PT_X7_copy x a i b9 j k r u) (XB G (wX G B tt)) (blkA B (B + 117))) 0 0 (blkA B (B + 117)) := by
  refine Met.ofW (cc := cX7_copy) (maxL := 8) (ret := (some .int)) (by decide) rfl ?_
  intro pp ee ss mm aa bb mt cd s1 Bd hml hv
  obtain ⟨hae, hX, hK, hE⟩ := hv
  have hx := Bd.exec
  have hb := Bd.bytes
  have hr := Bd.returns
  have hts := atoms_spec (ws := wsX7_copy) Bd.pre
  have hown : ss.vm.findClass RX7 = some mm.cls := findClass_of_methodNamed Bd.named
  have hlocks := Bd.notSynchronized
  have hS : va_S (blkA B (B + 117)) ss.heap ss.heap [] := va_S.rf
  have hl := lv_entry ([.ref (B + (0)), .int (a), .int (i), .int (b9), .int (j), .int (k)]) (n := 8) (Nat.le_of_ble_eq_true rfl)
  subst hae
  rw [lg_entry_eq]
  generalize (lg_sl ([.ref (B + (0)), .int (a), .int (i), .int (b9), .int (j), .int (k)]) ++ List.replicate (8 - (lg_sl ([.ref (B + (0)), .int (a), .int (i), .int (b9), .int (j), .int (k)])).length) Slot.unset).toArray = ls at hl ⊢
  have hl : lv_has ls 8 [(0, .ref (B + (0))), (1, .int (a)), (2, .int (i)), (3, .int (b9)), (4, .int (j)), (5, .int (k))] := hl
  generalize ([.ref (B + (0)), .int (a), .int (i), .int (b9), .int (j), .int (k)] : List Value).toArray = aa at hts ⊢
  show W pp l ee rmX7_copy ss mm aa bb mt cd ss.heap [] 0 0 _ (F0 mm 0 ls [])
  generalize hQ : MQ bb (va_Qi (fun r u => PT_X7_copy x a i b9 j k r u) (XB G (wX G B tt)) (blkA B (B + 117))) aa ss 0 0 (blkA B (B + 117)) = Q
  refine lv_iload_n hx hb dX7_copy_0 rfl (lv_at hl 1 rfl) ?_
  refine x_ip (w := (wX G B tt)) (x := x) (v := bI (decide (0 ≤ a) && decide (a ≤ 7))) (va_runS (As := [.int (a)]) (rest := []) ⟨hx, hb, hml, hown, hts⟩ (c_X7_isRow (l := l) (G := G) (B := B) (tt := tt) (hW := hW) (x := x) (v := a)) (va_cwS 1 hts gX7_copy_X7_isRow rfl rfl rfl (by decide +kernel) ⟨Nat.le_of_ble_eq_true rfl, Nat.le_of_ble_eq_true rfl⟩) (x_ps (w := (wX G B tt)) hW hX hK hE hS [.int (a)]) rfl rfl hl.1 rfl (lv_room (Nat.le_of_ble_eq_true rfl)) dX7_copy_1 ⟨Nat.zero_le _, Nat.zero_le _⟩) hS (fun H_1 lo_2 hX hS => ?_)
  refine x_ifeq (tgt := 14) hx hb dX7_copy_4 (by decide) (fun c_3 => ?_) (fun c_3 => ?_)
  · refine lv_ldc (v := (-1000001)) hx hb hown (hts _ kX7_copy_59) dX7_copy_14 ?_
    rw [← hQ]
    refine x_iret (v := (-1000001)) hx hb hr hX hS hlocks dX7_copy_16 ?_
    show PT_X7_copy _ _ _ _ _ _ _ _
    unfold PT_X7_copy
    rw [if_pos c_3]
    exact ⟨rfl, rfl⟩
  · obtain ⟨hae, ha8⟩ := rowN c_3
    refine lv_iload_n hx hb dX7_copy_7 rfl (lv_at hl 3 rfl) ?_
    refine x_ip (w := (wX G B tt)) (x := x) (v := bI (decide (0 ≤ b9) && decide (b9 ≤ 7))) (va_runS (As := [.int (b9)]) (rest := []) ⟨hx, hb, hml, hown, hts⟩ (c_X7_isRow (l := l) (G := G) (B := B) (tt := tt) (hW := hW) (x := x) (v := b9)) (va_cwS 1 hts gX7_copy_X7_isRow rfl rfl rfl (by decide +kernel) ⟨Nat.le_of_ble_eq_true rfl, Nat.le_of_ble_eq_true rfl⟩) (x_ps (w := (wX G B tt)) hW hX hK hE hS [.int (b9)]) rfl rfl hl.1 rfl (lv_room (Nat.le_of_ble_eq_true rfl)) dX7_copy_8 ⟨Nat.zero_le _, Nat.zero_le _⟩) hS (fun H_4 lo_5 hX hS => ?_)
    refine x_ifne (tgt := 17) hx hb dX7_copy_11 (by decide) (fun c_6 => ?_) (fun c_6 => ?_)
    · obtain ⟨hb9e, hb98⟩ := rowN c_6
      refine lv_aload_n hx hb dX7_copy_17 rfl (lv_at hl 0 rfl) ?_
      refine x_get (w := (wX G B tt)) (a := 0) (v := .ref (B + (1))) hx hb hts iX7_copy_X7 hown hK hX (Nat.le_of_ble_eq_true rfl) (shX_mn (G := G) (B := B)) rfl 0 (by decide) (hts _ kX7_copy_11) (fun _ h9 => h9) rfl dX7_copy_18 ?_
      refine lv_iload_n hx hb dX7_copy_21 rfl (lv_at hl 1 rfl) ?_
      refine x_aald (w := (wX G B tt)) (a := 1) (n := 8) (j := tn a) (q := B + (29 + 2 * (tn a))) (t0 := 5) hx hb hK hX (Nat.le_of_ble_eq_true rfl) (shX_ra (G := G) (B := B) (f := x (1))) rfl hae (by omega) (by decide) rfl dX7_copy_22 ?_
      refine lv_astore (lv' := [(6, .ref (B + (29 + 2 * (tn a)))), (0, .ref (B + (0))), (1, .int (a)), (2, .int (i)), (3, .int (b9)), (4, .int (j)), (5, .int (k))]) hx hb dX7_copy_23 hl (by decide) rfl (fun ls hl => ?_)
      refine lv_aload_n hx hb dX7_copy_25 rfl (lv_at hl 1 rfl) ?_
      refine x_get (w := (wX G B tt)) (a := 0) (v := .ref (B + (1))) hx hb hts iX7_copy_X7 hown hK hX (Nat.le_of_ble_eq_true rfl) (shX_mn (G := G) (B := B)) rfl 0 (by decide) (hts _ kX7_copy_11) (fun _ h9 => h9) rfl dX7_copy_26 ?_
      refine lv_iload_n hx hb dX7_copy_29 rfl (lv_at hl 4 rfl) ?_
      refine x_aald (w := (wX G B tt)) (a := 1) (n := 8) (j := tn b9) (q := B + (29 + 2 * (tn b9))) (t0 := 5) hx hb hK hX (Nat.le_of_ble_eq_true rfl) (shX_ra (G := G) (B := B) (f := x (1))) rfl hb9e (by omega) (by decide) rfl dX7_copy_30 ?_
      refine lv_astore (lv' := [(7, .ref (B + (29 + 2 * (tn b9)))), (6, .ref (B + (29 + 2 * (tn a)))), (0, .ref (B + (0))), (1, .int (a)), (2, .int (i)), (3, .int (b9)), (4, .int (j)), (5, .int (k))]) hx hb dX7_copy_31 hl (by decide) rfl (fun ls hl => ?_)
      refine lv_aload hx hb dX7_copy_33 (lv_at hl 1 rfl) ?_
      refine x_ip (w := (wX G B tt)) (x := x) (v := bI (decide (x (29 + 2 * (tn a)) 2 = -1))) (va_runV (As := []) (rest := []) ⟨hx, hb, hml, hown, hts⟩ (c_X4_isMissing (l := l) (G := G) (B := B) (tt := tt) (hW := hW) (x := x) (ro := tn a) (hro := (by omega))) (cwV 0 hts gX7_copy_X4_isMissing rfl rfl rfl (by decide +kernel) ⟨Nat.le_of_ble_eq_true rfl, Nat.le_of_ble_eq_true rfl⟩) (x_pv (w := (wX G B tt)) (a := 29 + 2 * (tn a)) hW hX hK hE hS [] (rw_lt (by omega)) (shX_rw (G := G) (B := B) (by omega)) rfl) rfl rfl hl.1 rfl (lv_room (Nat.le_of_ble_eq_true rfl)) dX7_copy_35 ⟨Nat.zero_le _, Nat.zero_le _⟩) hS (fun H_7 lo_8 hX hS => ?_)
      refine x_ifne (tgt := 49) hx hb dX7_copy_38 (by decide) (fun c_9 => ?_) (fun c_9 => ?_)
      · refine lv_aload_n hx hb dX7_copy_49 rfl (lv_at hl 2 rfl) ?_
        refine lv_iconst (v := 1) hx hb dX7_copy_50 (by decide) ?_
        refine x_if (w := (wX G B tt)) (va_runV (As := [.int (1)]) (rest := []) ⟨hx, hb, hml, hown, hts⟩ (c_X7_found (l := l) (G := G) (B := B) (tt := tt) (hW := hW) (x := x) (f := 1)) (cwV 1 hts gX7_copy_X7_found rfl rfl rfl (by decide +kernel) ⟨Nat.le_of_ble_eq_true rfl, Nat.le_of_ble_eq_true rfl⟩) (x_pv (w := (wX G B tt)) (a := 0) hW hX hK hE hS [.int (1)] (Nat.le_of_ble_eq_true rfl) (shX_mn (G := G) (B := B)) rfl) rfl rfl hl.1 rfl (lv_room (Nat.le_of_ble_eq_true rfl)) dX7_copy_51 ⟨Nat.zero_le _, Nat.zero_le _⟩) hS (fun r_12 x_13 H_10 lo_11 h_51 hX hS => ?_)
        try dsimp only at h_51
        rw [← hQ]
        refine x_iret (v := r_12) hx hb hr hX hS hlocks dX7_copy_54 ?_
        show PT_X7_copy _ _ _ _ _ _ _ _
        unfold PT_X7_copy
        rw [if_neg (ne_of_true c_3), if_pos c_6, if_pos c_9]
        exact h_51
      · have hma := c_9
        refine lv_aload hx hb dX7_copy_41 (lv_at hl 0 rfl) ?_
        refine x_ip (w := (wX G B tt)) (x := x) (v := bI (decide (x (29 + 2 * (tn b9)) 2 = -1))) (va_runV (As := []) (rest := []) ⟨hx, hb, hml, hown, hts⟩ (c_X4_isMissing (l := l) (G := G) (B := B) (tt := tt) (hW := hW) (x := x) (ro := tn b9) (hro := (by omega))) (cwV 0 hts gX7_copy_X4_isMissing rfl rfl rfl (by decide +kernel) ⟨Nat.le_of_ble_eq_true rfl, Nat.le_of_ble_eq_true rfl⟩) (x_pv (w := (wX G B tt)) (a := 29 + 2 * (tn b9)) hW hX hK hE hS [] (rw_lt (by omega)) (shX_rw (G := G) (B := B) (by omega)) rfl) rfl rfl hl.1 rfl (lv_room (Nat.le_of_ble_eq_true rfl)) dX7_copy_43 ⟨Nat.zero_le _, Nat.zero_le _⟩) hS (fun H_14 lo_15 hX hS => ?_)
        refine x_ifeq (tgt := 55) hx hb dX7_copy_46 (by decide) (fun c_16 => ?_) (fun c_16 => ?_)
        · have hmb := c_16
          refine lv_aload hx hb dX7_copy_55 (lv_at hl 1 rfl) ?_
          refine x_get (w := (wX G B tt)) (a := 29 + 2 * (tn a)) (v := .int (x (29 + 2 * (tn a)) 1)) hx hb hts iX7_copy_X4 hown hK hX (rw_lt (by omega)) (shX_rw (G := G) (B := B) (by omega)) rfl 1 (by decide) (hts _ kX7_copy_83) (fun _ h9 => h9) rfl dX7_copy_57 ?_
          refine lv_aload hx hb dX7_copy_60 (lv_at hl 0 rfl) ?_
          refine x_get (w := (wX G B tt)) (a := 29 + 2 * (tn b9)) (v := .int (x (29 + 2 * (tn b9)) 1)) hx hb hts iX7_copy_X4 hown hK hX (rw_lt (by omega)) (shX_rw (G := G) (B := B) (by omega)) rfl 1 (by decide) (hts _ kX7_copy_83) (fun _ h9 => h9) rfl dX7_copy_62 ?_
          refine lv_icmp_eq (tgt := 74) hx hb dX7_copy_65 (by decide) (fun c_17 => ?_) (fun c_17 => ?_)
          · refine lv_aload hx hb dX7_copy_74 (lv_at hl 1 rfl) ?_
            refine lv_iload_n hx hb dX7_copy_76 rfl (lv_at hl 4 rfl) ?_
            refine lv_iload hx hb dX7_copy_77 (lv_at hl 7 rfl) ?_
            refine x_ip (w := (wX G B tt)) (x := x) (v := bI (decide (0 ≤ i) && (decide (0 ≤ k) && decide (k ≤ x (29 + 2 * (tn a)) 2 - i)))) (va_runV (As := [.int (i), .int (k)]) (rest := []) ⟨hx, hb, hml, hown, hts⟩ (c_X4_covers (l := l) (G := G) (B := B) (tt := tt) (hW := hW) (x := x) (ro := tn a) (hro := (by omega)) (i := i) (n := k)) (cwV 2 hts gX7_copy_X4_covers rfl rfl rfl (by decide +kernel) ⟨Nat.le_of_ble_eq_true rfl, Nat.le_of_ble_eq_true rfl⟩) (x_pv (w := (wX G B tt)) (a := 29 + 2 * (tn a)) hW hX hK hE hS [.int (i), .int (k)] (rw_lt (by omega)) (shX_rw (G := G) (B := B) (by omega)) rfl) rfl rfl hl.1 rfl (lv_room (Nat.le_of_ble_eq_true rfl)) dX7_copy_79 ⟨Nat.zero_le _, Nat.zero_le _⟩) hS (fun H_18 lo_19 hX hS => ?_)
            refine x_ifeq (tgt := 97) hx hb dX7_copy_82 (by decide) (fun c_20 => ?_) (fun c_20 => ?_)
            · refine lv_aload_n hx hb dX7_copy_97 rfl (lv_at hl 2 rfl) ?_
              refine lv_iconst (v := 2) hx hb dX7_copy_98 (by decide) ?_
              refine x_if (w := (wX G B tt)) (va_runV (As := [.int (2)]) (rest := []) ⟨hx, hb, hml, hown, hts⟩ (c_X7_found (l := l) (G := G) (B := B) (tt := tt) (hW := hW) (x := x) (f := 2)) (cwV 1 hts gX7_copy_X7_found rfl rfl rfl (by decide +kernel) ⟨Nat.le_of_ble_eq_true rfl, Nat.le_of_ble_eq_true rfl⟩) (x_pv (w := (wX G B tt)) (a := 0) hW hX hK hE hS [.int (2)] (Nat.le_of_ble_eq_true rfl) (shX_mn (G := G) (B := B)) rfl) rfl rfl hl.1 rfl (lv_room (Nat.le_of_ble_eq_true rfl)) dX7_copy_99 ⟨Nat.zero_le _, Nat.zero_le _⟩) hS (fun r_23 x_24 H_21 lo_22 h_99 hX hS => ?_)
              try dsimp only at h_99
              rw [← hQ]
              refine x_iret (v := r_23) hx hb hr hX hS hlocks dX7_copy_102 ?_
              show PT_X7_copy _ _ _ _ _ _ _ _
              unfold PT_X7_copy
              rw [if_neg (ne_of_true c_3), if_pos c_6, if_neg (ne_of_false c_9), if_pos c_16, if_pos c_17, if_pos c_20]
              exact h_99
            · obtain ⟨hie, hke, hik⟩ := covN hRo ha8 hma c_20
              refine lv_aload hx hb dX7_copy_85 (lv_at hl 0 rfl) ?_
              refine lv_iload hx hb dX7_copy_87 (lv_at hl 6 rfl) ?_
              refine lv_iload hx hb dX7_copy_89 (lv_at hl 7 rfl) ?_
              refine x_ip (w := (wX G B tt)) (x := x) (v := bI (decide (0 ≤ j) && (decide (0 ≤ k) && decide (k ≤ x (29 + 2 * (tn b9)) 2 - j)))) (va_runV (As := [.int (j), .int (k)]) (rest := []) ⟨hx, hb, hml, hown, hts⟩ (c_X4_covers (l := l) (G := G) (B := B) (tt := tt) (hW := hW) (x := x) (ro := tn b9) (hro := (by omega)) (i := j) (n := k)) (cwV 2 hts gX7_copy_X4_covers rfl rfl rfl (by decide +kernel) ⟨Nat.le_of_ble_eq_true rfl, Nat.le_of_ble_eq_true rfl⟩) (x_pv (w := (wX G B tt)) (a := 29 + 2 * (tn b9)) hW hX hK hE hS [.int (j), .int (k)] (rw_lt (by omega)) (shX_rw (G := G) (B := B) (by omega)) rfl) rfl rfl hl.1 rfl (lv_room (Nat.le_of_ble_eq_true rfl)) dX7_copy_91 ⟨Nat.zero_le _, Nat.zero_le _⟩) hS (fun H_25 lo_26 hX hS => ?_)
              refine x_ifne (tgt := 103) hx hb dX7_copy_94 (by decide) (fun c_27 => ?_) (fun c_27 => ?_)
              · obtain ⟨hje, hke2, hjk⟩ := covN hRo hb98 hmb c_27
                refine lv_aload hx hb dX7_copy_103 (lv_at hl 1 rfl) ?_
                refine x_get (w := (wX G B tt)) (a := 29 + 2 * (tn a)) (v := .ref (B + (29 + 2 * (tn a) + 1))) hx hb hts iX7_copy_X4 hown hK hX (rw_lt (by omega)) (shX_rw (G := G) (B := B) (by omega)) rfl 0 (by decide) (hts _ kX7_copy_87) (fun _ h9 => h9) rfl dX7_copy_105 ?_
                refine lv_iload_n hx hb dX7_copy_108 rfl (lv_at hl 4 rfl) ?_
                refine lv_aload hx hb dX7_copy_109 (lv_at hl 0 rfl) ?_
                refine x_get (w := (wX G B tt)) (a := 29 + 2 * (tn b9)) (v := .ref (B + (29 + 2 * (tn b9) + 1))) hx hb hts iX7_copy_X4 hown hK hX (rw_lt (by omega)) (shX_rw (G := G) (B := B) (by omega)) rfl 0 (by decide) (hts _ kX7_copy_87) (fun _ h9 => h9) rfl dX7_copy_111 ?_
                refine lv_iload hx hb dX7_copy_114 (lv_at hl 6 rfl) ?_
                refine lv_iload hx hb dX7_copy_116 (lv_at hl 7 rfl) ?_
                refine x_copy (w := (wX G B tt)) (a := 29 + 2 * (tn a) + 1) (b := 29 + 2 * (tn b9) + 1) (n0 := 40) (n1 := 40) hx hb (by rw [hml]; exact hl.1.symm) hown (hts _ kX7_copy_91) (hts _ knX7_copy) (hts _ ksX7_copy_ac) (hts _ kiX7_copy_ac) hK hW hX hS (it_lt (by omega)) (it_lt (by omega)) (shX_it (G := G) (B := B) (f := x (29 + 2 * (tn a) + 1)) (by omega)) (fun f => (shX_it (G := G) (B := B) (f := f) (by omega))) hie hje hke (by omega) (by omega) (by decide) (by decide) (Nat.le_of_ble_eq_true rfl) (Nat.le_of_ble_eq_true rfl) dX7_copy_118 (fun H_28 lo_29 hX hS => ?_)
                obtain ⟨x_30, ex_30⟩ : ∃ z, z = mcp x (29 + 2 * (tn a) + 1) (29 + 2 * (tn b9) + 1) (tn i) (tn j) (tn k) := ⟨_, rfl⟩
                rw [← ex_30] at hX
                refine lv_aload_n hx hb dX7_copy_121 rfl (lv_at hl 2 rfl) ?_
                refine lv_iload hx hb dX7_copy_122 (lv_at hl 7 rfl) ?_
                refine x_if (w := (wX G B tt)) (va_runV (As := [.int (k)]) (rest := []) ⟨hx, hb, hml, hown, hts⟩ (c_X7_unfound (l := l) (G := G) (B := B) (tt := tt) (hW := hW) (x := x_30) (a := k)) (cwV 1 hts gX7_copy_X7_unfound rfl rfl rfl (by decide +kernel) ⟨Nat.le_of_ble_eq_true rfl, Nat.le_of_ble_eq_true rfl⟩) (x_pv (w := (wX G B tt)) (a := 0) hW hX hK hE hS [.int (k)] (Nat.le_of_ble_eq_true rfl) (shX_mn (G := G) (B := B)) rfl) rfl rfl hl.1 rfl (lv_room (Nat.le_of_ble_eq_true rfl)) dX7_copy_124 ⟨Nat.zero_le _, Nat.zero_le _⟩) hS (fun r_33 x_34 H_31 lo_32 h_124 hX hS => ?_)
                try dsimp only at h_124
                rw [← hQ]
                refine x_iret (v := r_33) hx hb hr hX hS hlocks dX7_copy_127 ?_
                show PT_X7_copy _ _ _ _ _ _ _ _
                unfold PT_X7_copy
                rw [if_neg (ne_of_true c_3), if_pos c_6, if_neg (ne_of_false c_9), if_pos c_16, if_pos c_17, if_neg (ne_of_true c_20), if_pos c_27]
                exact ⟨h_124.1, by rw [h_124.2, ex_30]⟩
              · refine lv_aload_n hx hb dX7_copy_97 rfl (lv_at hl 2 rfl) ?_
                refine lv_iconst (v := 2) hx hb dX7_copy_98 (by decide) ?_
                refine x_if (w := (wX G B tt)) (va_runV (As := [.int (2)]) (rest := []) ⟨hx, hb, hml, hown, hts⟩ (c_X7_found (l := l) (G := G) (B := B) (tt := tt) (hW := hW) (x := x) (f := 2)) (cwV 1 hts gX7_copy_X7_found rfl rfl rfl (by decide +kernel) ⟨Nat.le_of_ble_eq_true rfl, Nat.le_of_ble_eq_true rfl⟩) (x_pv (w := (wX G B tt)) (a := 0) hW hX hK hE hS [.int (2)] (Nat.le_of_ble_eq_true rfl) (shX_mn (G := G) (B := B)) rfl) rfl rfl hl.1 rfl (lv_room (Nat.le_of_ble_eq_true rfl)) dX7_copy_99 ⟨Nat.zero_le _, Nat.zero_le _⟩) hS (fun r_37 x_38 H_35 lo_36 h_99 hX hS => ?_)
                try dsimp only at h_99
                rw [← hQ]
                refine x_iret (v := r_37) hx hb hr hX hS hlocks dX7_copy_102 ?_
                show PT_X7_copy _ _ _ _ _ _ _ _
                unfold PT_X7_copy
                rw [if_neg (ne_of_true c_3), if_pos c_6, if_neg (ne_of_false c_9), if_pos c_16, if_pos c_17, if_neg (ne_of_true c_20), if_neg (ne_of_false c_27)]
                exact h_99
          · refine lv_aload_n hx hb dX7_copy_68 rfl (lv_at hl 2 rfl) ?_
            refine lv_iconst (v := 5) hx hb dX7_copy_69 (by decide) ?_
            refine x_if (w := (wX G B tt)) (va_runV (As := [.int (5)]) (rest := []) ⟨hx, hb, hml, hown, hts⟩ (c_X7_found (l := l) (G := G) (B := B) (tt := tt) (hW := hW) (x := x) (f := 5)) (cwV 1 hts gX7_copy_X7_found rfl rfl rfl (by decide +kernel) ⟨Nat.le_of_ble_eq_true rfl, Nat.le_of_ble_eq_true rfl⟩) (x_pv (w := (wX G B tt)) (a := 0) hW hX hK hE hS [.int (5)] (Nat.le_of_ble_eq_true rfl) (shX_mn (G := G) (B := B)) rfl) rfl rfl hl.1 rfl (lv_room (Nat.le_of_ble_eq_true rfl)) dX7_copy_70 ⟨Nat.zero_le _, Nat.zero_le _⟩) hS (fun r_41 x_42 H_39 lo_40 h_70 hX hS => ?_)
            try dsimp only at h_70
            rw [← hQ]
            refine x_iret (v := r_41) hx hb hr hX hS hlocks dX7_copy_73 ?_
            show PT_X7_copy _ _ _ _ _ _ _ _
            unfold PT_X7_copy
            rw [if_neg (ne_of_true c_3), if_pos c_6, if_neg (ne_of_false c_9), if_pos c_16, if_neg c_17]
            exact h_70
        · refine lv_aload_n hx hb dX7_copy_49 rfl (lv_at hl 2 rfl) ?_
          refine lv_iconst (v := 1) hx hb dX7_copy_50 (by decide) ?_
          refine x_if (w := (wX G B tt)) (va_runV (As := [.int (1)]) (rest := []) ⟨hx, hb, hml, hown, hts⟩ (c_X7_found (l := l) (G := G) (B := B) (tt := tt) (hW := hW) (x := x) (f := 1)) (cwV 1 hts gX7_copy_X7_found rfl rfl rfl (by decide +kernel) ⟨Nat.le_of_ble_eq_true rfl, Nat.le_of_ble_eq_true rfl⟩) (x_pv (w := (wX G B tt)) (a := 0) hW hX hK hE hS [.int (1)] (Nat.le_of_ble_eq_true rfl) (shX_mn (G := G) (B := B)) rfl) rfl rfl hl.1 rfl (lv_room (Nat.le_of_ble_eq_true rfl)) dX7_copy_51 ⟨Nat.zero_le _, Nat.zero_le _⟩) hS (fun r_45 x_46 H_43 lo_44 h_51 hX hS => ?_)
          try dsimp only at h_51
          rw [← hQ]
          refine x_iret (v := r_45) hx hb hr hX hS hlocks dX7_copy_54 ?_
          show PT_X7_copy _ _ _ _ _ _ _ _
          unfold PT_X7_copy
          rw [if_neg (ne_of_true c_3), if_pos c_6, if_neg (ne_of_false c_9), if_neg (ne_of_true c_16)]
          exact h_51
    · refine lv_ldc (v := (-1000001)) hx hb hown (hts _ kX7_copy_59) dX7_copy_14 ?_
      rw [← hQ]
      refine x_iret (v := (-1000001)) hx hb hr hX hS hlocks dX7_copy_16 ?_
      show PT_X7_copy _ _ _ _ _ _ _ _
      unfold PT_X7_copy
      rw [if_neg (ne_of_true c_3), if_neg (ne_of_false c_6)]
      exact ⟨rfl, rfl⟩
