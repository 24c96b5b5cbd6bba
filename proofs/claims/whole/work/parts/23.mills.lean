def PT_X7_furl (x : Mem) (m : Int32) (s : Int32) (n : Nat) (nw : Nat → Int32) (r : Int32) (u : Mem) : Prop := (if (decide (0 ≤ m) && decide (m < x 5 1)) = false then (r = (-1000001) ∧ u = x) else (if (decide (((0 : Int32)) ≤ s) && decide (s ≤ ((1 : Int32)))) = true then (r = bI (decide (x (5 + 1 + 1 + tn m) 11 ≠ 0)) ∧ u = mst x (5 + 1 + 1 + tn m) 11 (bI (decide (s = 1)))) else (r = (-1000001) ∧ u = x)))
theorem kX7_furl_25 : (.fieldLink RX7 25 "WindTaken" "ridge" "LWindTaken$Ridge;" : Cond) ∈ wsX7_furl := by decide +kernel
theorem iX7_furl_X7 : ∀ w ∈ wsX70, w ∈ wsX7_furl := by decide +kernel
theorem kX7_furl_59 : (.constant RX7 59 (-1000001) : Cond) ∈ wsX7_furl := by decide +kernel
theorem kX7_furl_135 : (.fieldLink RX7 135 "WindTaken$Ridge" "mills" "[LWindTaken$Mill;" : Cond) ∈ wsX7_furl := by decide +kernel
theorem iX7_furl_X3 : ∀ w ∈ wsX30, w ∈ wsX7_furl := by decide +kernel
theorem kX7_furl_139 : (.fieldLink RX7 139 "WindTaken$Mill" "furled" "Z" : Cond) ∈ wsX7_furl := by decide +kernel
theorem iX7_furl_X0 : ∀ w ∈ wsX00, w ∈ wsX7_furl := by decide +kernel
abbrev rmX7_furl : Room := { frames := 1, cells := 0, slots := 0, locals := 22 }
set_option maxHeartbeats 4000000 in
set_option maxRecDepth 100000 in
theorem c_X7_furl (l : Launch) (G : GG) (B : Nat) (tt : Nat → Nat) (hW : WOK (wX G B tt)) (x : Mem) (m : Int32) (s : Int32) {n : Nat} {nw : Nat → Int32} (hR : RR n x 5 nw) : Met l yX7_furl wsX7_furl rmX7_furl (XP G (wX G B tt) [.ref (B + (0)), .int (m), .int (s)] x) (va_Qi (fun r u => PT_X7_furl x m s n nw r u) (XB G (wX G B tt)) (blkA B (B + 117))) 0 0 (blkA B (B + 117)) := by
  refine Met.ofW (cc := cX7_furl) (maxL := 4) (ret := (some .int)) (by decide) rfl ?_
  intro pp ee ss mm aa bb mt cd s1 Bd hml hv
  obtain ⟨hae, hX, hK, hE⟩ := hv
  have hx := Bd.exec
  have hb := Bd.bytes
  have hr := Bd.returns
  have hts := atoms_spec (ws := wsX7_furl) Bd.pre
  have hown : ss.vm.findClass RX7 = some mm.cls := findClass_of_methodNamed Bd.named
  have hlocks := Bd.notSynchronized
  have hS : va_S (blkA B (B + 117)) ss.heap ss.heap [] := va_S.rf
  have hl := lv_entry ([.ref (B + (0)), .int (m), .int (s)]) (n := 4) (Nat.le_of_ble_eq_true rfl)
  subst hae
  rw [lg_entry_eq]
  generalize (lg_sl ([.ref (B + (0)), .int (m), .int (s)]) ++ List.replicate (4 - (lg_sl ([.ref (B + (0)), .int (m), .int (s)])).length) Slot.unset).toArray = ls at hl ⊢
  have hl : lv_has ls 4 [(0, .ref (B + (0))), (1, .int (m)), (2, .int (s))] := hl
  generalize ([.ref (B + (0)), .int (m), .int (s)] : List Value).toArray = aa at hts ⊢
  show W pp l ee rmX7_furl ss mm aa bb mt cd ss.heap [] 0 0 _ (F0 mm 0 ls [])
  generalize hQ : MQ bb (va_Qi (fun r u => PT_X7_furl x m s n nw r u) (XB G (wX G B tt)) (blkA B (B + 117))) aa ss 0 0 (blkA B (B + 117)) = Q
  have hn8 := hR.1
  refine lv_aload_n hx hb dX7_furl_0 rfl (lv_at hl 0 rfl) ?_
  refine x_get (w := (wX G B tt)) (a := 0) (v := .ref (B + (5))) hx hb hts iX7_furl_X7 hown hK hX (Nat.le_of_ble_eq_true rfl) (shX_mn (G := G) (B := B)) rfl 2 (by decide) (hts _ kX7_furl_25) (fun _ h9 => h9) rfl dX7_furl_1 ?_
  refine lv_iload_n hx hb dX7_furl_4 rfl (lv_at hl 1 rfl) ?_
  refine x_ip (w := (wX G B tt)) (x := x) (v := bI (decide (0 ≤ m) && decide (m < x 5 1))) (va_runV (As := [.int (m)]) (rest := []) ⟨hx, hb, hml, hown, hts⟩ (c_X3_has (l := l) (G := G) (B := B) (tt := tt) (hW := hW) (x := x) (ρ := 5) (hρ := rg5) (v := m)) (cwV 1 hts gX7_furl_X3_has rfl rfl rfl (by decide +kernel) ⟨Nat.le_of_ble_eq_true rfl, Nat.le_of_ble_eq_true rfl⟩) (x_pv (w := (wX G B tt)) (a := 5) hW hX hK hE hS [.int (m)] (rg_lt rg5) (shX_ri (G := G) (B := B) rg5) rfl) rfl rfl hl.1 rfl (lv_room (Nat.le_of_ble_eq_true rfl)) dX7_furl_5 ⟨Nat.zero_le _, Nat.zero_le _⟩) hS (fun H_1 lo_2 hX hS => ?_)
  refine x_ifeq (tgt := 20) hx hb dX7_furl_8 (by decide) (fun c_3 => ?_) (fun c_3 => ?_)
  · refine lv_ldc (v := (-1000001)) hx hb hown (hts _ kX7_furl_59) dX7_furl_20 ?_
    rw [← hQ]
    refine x_iret (v := (-1000001)) hx hb hr hX hS hlocks dX7_furl_22 ?_
    show PT_X7_furl _ _ _ _ _ _ _
    unfold PT_X7_furl
    rw [if_pos c_3]
    exact ⟨rfl, rfl⟩
  · obtain ⟨hme, hmn⟩ := hasM hR.cnt hn8 c_3
    refine lv_iload_n hx hb dX7_furl_11 rfl (lv_at hl 2 rfl) ?_
    refine lv_iconst (v := 0) hx hb dX7_furl_12 (by decide) ?_
    refine lv_iconst (v := 1) hx hb dX7_furl_13 (by decide) ?_
    refine x_ip (w := (wX G B tt)) (x := x) (v := bI (decide (((0 : Int32)) ≤ s) && decide (s ≤ ((1 : Int32))))) (va_runS (As := [.int (s), .int (0), .int (1)]) (rest := []) ⟨hx, hb, hml, hown, hts⟩ (c_X7_isWithin (l := l) (G := G) (B := B) (tt := tt) (hW := hW) (x := x) (v := s) (lo := 0) (hi := 1)) (va_cwS 3 hts gX7_furl_X7_isWithin rfl rfl rfl (by decide +kernel) ⟨Nat.le_of_ble_eq_true rfl, Nat.le_of_ble_eq_true rfl⟩) (x_ps (w := (wX G B tt)) hW hX hK hE hS [.int (s), .int (0), .int (1)]) rfl rfl hl.1 rfl (lv_room (Nat.le_of_ble_eq_true rfl)) dX7_furl_14 ⟨Nat.zero_le _, Nat.zero_le _⟩) hS (fun H_4 lo_5 hX hS => ?_)
    refine x_ifne (tgt := 23) hx hb dX7_furl_17 (by decide) (fun c_6 => ?_) (fun c_6 => ?_)
    · refine lv_aload_n hx hb dX7_furl_23 rfl (lv_at hl 0 rfl) ?_
      refine x_get (w := (wX G B tt)) (a := 0) (v := .ref (B + (5))) hx hb hts iX7_furl_X7 hown hK hX (Nat.le_of_ble_eq_true rfl) (shX_mn (G := G) (B := B)) rfl 2 (by decide) (hts _ kX7_furl_25) (fun _ h9 => h9) rfl dX7_furl_24 ?_
      refine x_get (w := (wX G B tt)) (a := 5) (v := .ref (B + (5 + 1))) hx hb hts iX7_furl_X3 hown hK hX (rg_lt rg5) (shX_ri (G := G) (B := B) rg5) rfl 0 (by decide) (hts _ kX7_furl_135) (fun _ h9 => h9) rfl dX7_furl_27 ?_
      refine lv_iload_n hx hb dX7_furl_30 rfl (lv_at hl 1 rfl) ?_
      refine x_aald (w := (wX G B tt)) (a := 5 + 1) (n := 8) (j := tn m) (q := B + (5 + 1 + 1 + (tn m))) (t0 := 2) hx hb hK hX (rg_lt1 rg5) (shX_ma (G := G) (B := B) (f := x (5 + 1)) rg5) rfl hme (by omega) (by decide) rfl dX7_furl_31 ?_
      refine x_get (w := (wX G B tt)) (a := 5 + 1 + 1 + (tn m)) (v := .int (bI (decide (x (5 + 1 + 1 + (tn m)) 11 ≠ 0)))) hx hb hts iX7_furl_X0 hown hK hX (rg_ltm rg5 (by omega)) (shX_mi (G := G) (B := B) rg5 (by omega)) rfl 11 (by decide) (hts _ kX7_furl_139) (fun _ h9 => h9) rfl dX7_furl_32 ?_
      refine x_ip (w := (wX G B tt)) (x := x) (v := bI (decide (x (5 + 1 + 1 + (tn m)) 11 ≠ 0))) (va_runS (As := [.int (bI (decide (x (5 + 1 + 1 + (tn m)) 11 ≠ 0)))]) (rest := []) ⟨hx, hb, hml, hown, hts⟩ (c_X7_bit (l := l) (G := G) (B := B) (tt := tt) (hW := hW) (x := x) (b := decide (x (5 + 1 + 1 + (tn m)) 11 ≠ 0))) (va_cwS 1 hts gX7_furl_X7_bit rfl rfl rfl (by decide +kernel) ⟨Nat.le_of_ble_eq_true rfl, Nat.le_of_ble_eq_true rfl⟩) (x_ps (w := (wX G B tt)) hW hX hK hE hS [.int (bI (decide (x (5 + 1 + 1 + (tn m)) 11 ≠ 0)))]) rfl rfl hl.1 rfl (lv_room (Nat.le_of_ble_eq_true rfl)) dX7_furl_35 ⟨Nat.zero_le _, Nat.zero_le _⟩) hS (fun H_7 lo_8 hX hS => ?_)
      refine lv_istore_n (lv' := [(3, .int (bI (decide (x (5 + 1 + 1 + (tn m)) 11 ≠ 0)))), (0, .ref (B + (0))), (1, .int (m)), (2, .int (s))]) hx hb dX7_furl_38 rfl hl (by decide) rfl (fun ls hl => ?_)
      refine lv_aload_n hx hb dX7_furl_39 rfl (lv_at hl 1 rfl) ?_
      refine x_get (w := (wX G B tt)) (a := 0) (v := .ref (B + (5))) hx hb hts iX7_furl_X7 hown hK hX (Nat.le_of_ble_eq_true rfl) (shX_mn (G := G) (B := B)) rfl 2 (by decide) (hts _ kX7_furl_25) (fun _ h9 => h9) rfl dX7_furl_40 ?_
      refine x_get (w := (wX G B tt)) (a := 5) (v := .ref (B + (5 + 1))) hx hb hts iX7_furl_X3 hown hK hX (rg_lt rg5) (shX_ri (G := G) (B := B) rg5) rfl 0 (by decide) (hts _ kX7_furl_135) (fun _ h9 => h9) rfl dX7_furl_43 ?_
      refine lv_iload_n hx hb dX7_furl_46 rfl (lv_at hl 2 rfl) ?_
      refine x_aald (w := (wX G B tt)) (a := 5 + 1) (n := 8) (j := tn m) (q := B + (5 + 1 + 1 + (tn m))) (t0 := 2) hx hb hK hX (rg_lt1 rg5) (shX_ma (G := G) (B := B) (f := x (5 + 1)) rg5) rfl hme (by omega) (by decide) rfl dX7_furl_47 ?_
      refine lv_iload_n hx hb dX7_furl_48 rfl (lv_at hl 3 rfl) ?_
      refine lv_iconst (v := 1) hx hb dX7_furl_49 (by decide) ?_
      have kJ_11 : ∀ (v_10 : Bool) (_ : v_10 = (if s = 1 then true else false)) (H_12 : Heap) (lo_13 : List Loc) (_ : MR G (wX G B tt) x H_12) (_ : va_S (blkA B (B + 117)) ss.heap H_12 lo_13) (ls : Array Slot) (_ : lv_has ls 4 [(3, .int (bI (decide (x (5 + 1 + 1 + (tn m)) 11 ≠ 0)))), (0, .ref (B + (0))), (1, .int (m)), (2, .int (s))]), W pp l ee rmX7_furl ss mm aa bb mt cd H_12 lo_13 0 0 Q (F0 mm 58 ls [.int (bI (v_10)), .ref (B + (5 + 1 + 1 + (tn m)))]) := by
        intro v_10 ev_10 H_12 lo_13 hX hS ls hl
        show W pp l ee rmX7_furl ss mm aa bb mt cd H_12 lo_13 0 0 Q (F0 mm 58 ls (.int (bI (v_10)) :: [.ref (B + (5 + 1 + 1 + (tn m)))]))
        refine x_put (w := (wX G B tt)) (a := 5 + 1 + 1 + (tn m)) (v := bI (v_10)) (ty := .boolean) hx hb hts iX7_furl_X0 tyX0 tyX0_ok nmX0 hown hK hW hX hS (rg_ltm rg5 (by omega)) (shX_mi (G := G) (B := B) rg5 (by omega)) rfl 11 (by decide) (hts _ kX7_furl_139) (fun _ h9 => h9) rfl (by decide +kernel) (bI_nar _) (bI_fit _) (Nat.le_of_ble_eq_true rfl) (shX_fu (G := G) (B := B) rg5 (by omega) _ _) dX7_furl_58 (fun H_15 lo_16 hX hS => ?_)
        obtain ⟨x_14, ex_14⟩ : ∃ z, z = mst x (5 + 1 + 1 + (tn m)) 11 (bI (v_10)) := ⟨_, rfl⟩
        rw [← ex_14] at hX
        refine lv_iload_n hx hb dX7_furl_61 rfl (lv_at hl 0 rfl) ?_
        rw [← hQ]
        refine x_iret (v := bI (decide (x (5 + 1 + 1 + (tn m)) 11 ≠ 0))) hx hb hr hX hS hlocks dX7_furl_62 ?_
        show PT_X7_furl _ _ _ _ _ _ _
        unfold PT_X7_furl
        rw [if_neg (ne_of_true c_3), if_pos c_6]
        exact ⟨rfl, by rw [ex_14, ev_10]; by_cases h9 : s = 1 <;> simp [h9]⟩
      refine lv_icmp_ne (tgt := 57) hx hb dX7_furl_50 (by decide) (fun c_9 => ?_) (fun c_9 => ?_)
      · refine lv_iconst (v := 0) hx hb dX7_furl_57 (by decide) ?_
        exact kJ_11 (false) (by rw [if_neg c_9]) _ _ hX hS ls (lv_sub hl [0, 1, 2, 3] rfl)
      · refine lv_iconst (v := 1) hx hb dX7_furl_53 (by decide) ?_
        refine lv_goto (tgt := 58) hx hb dX7_furl_54 (by decide) ?_
        exact kJ_11 (true) (by rw [if_pos c_9]) _ _ hX hS ls (lv_sub hl [0, 1, 2, 3] rfl)
    · refine lv_ldc (v := (-1000001)) hx hb hown (hts _ kX7_furl_59) dX7_furl_20 ?_
      rw [← hQ]
      refine x_iret (v := (-1000001)) hx hb hr hX hS hlocks dX7_furl_22 ?_
      show PT_X7_furl _ _ _ _ _ _ _
      unfold PT_X7_furl
      rw [if_neg (ne_of_true c_3), if_neg (ne_of_false c_6)]
      exact ⟨rfl, rfl⟩

def PT_X7_face (x : Mem) (m : Int32) (q : Int32) (n : Nat) (nw : Nat → Int32) (r : Int32) (u : Mem) : Prop := (if (decide (0 ≤ m) && decide (m < x 5 1)) = false then (r = (-1000001) ∧ u = x) else (if (decide (0 ≤ q) && decide (q ≤ 3)) = true then (if (x (5 + 1 + 1 + (tn m)) 1) = 5 then (r = (-1000002) ∧ u = x) else (r = x (5 + 1 + 1 + tn m) 10 ∧ u = mst x (5 + 1 + 1 + tn m) 10 q)) else (r = (-1000001) ∧ u = x)))
theorem kX7_face_25 : (.fieldLink RX7 25 "WindTaken" "ridge" "LWindTaken$Ridge;" : Cond) ∈ wsX7_face := by decide +kernel
theorem iX7_face_X7 : ∀ w ∈ wsX70, w ∈ wsX7_face := by decide +kernel
theorem kX7_face_59 : (.constant RX7 59 (-1000001) : Cond) ∈ wsX7_face := by decide +kernel
theorem kX7_face_135 : (.fieldLink RX7 135 "WindTaken$Ridge" "mills" "[LWindTaken$Mill;" : Cond) ∈ wsX7_face := by decide +kernel
theorem iX7_face_X3 : ∀ w ∈ wsX30, w ∈ wsX7_face := by decide +kernel
theorem kX7_face_152 : (.fieldLink RX7 152 "WindTaken$Mill" "kind" "I" : Cond) ∈ wsX7_face := by decide +kernel
theorem iX7_face_X0 : ∀ w ∈ wsX00, w ∈ wsX7_face := by decide +kernel
theorem kX7_face_156 : (.fieldLink RX7 156 "WindTaken$Mill" "facing" "I" : Cond) ∈ wsX7_face := by decide +kernel
theorem kX7_face_155 : (.constant RX7 155 (-1000002) : Cond) ∈ wsX7_face := by decide +kernel
abbrev rmX7_face : Room := { frames := 2, cells := 0, slots := 0, locals := 42 }
set_option maxHeartbeats 4000000 in
set_option maxRecDepth 100000 in
theorem c_X7_face (l : Launch) (G : GG) (B : Nat) (tt : Nat → Nat) (hW : WOK (wX G B tt)) (x : Mem) (m : Int32) (q : Int32) {n : Nat} {nw : Nat → Int32} (hR : RR n x 5 nw) : Met l yX7_face wsX7_face rmX7_face (XP G (wX G B tt) [.ref (B + (0)), .int (m), .int (q)] x) (va_Qi (fun r u => PT_X7_face x m q n nw r u) (XB G (wX G B tt)) (blkA B (B + 117))) 0 0 (blkA B (B + 117)) := by
  refine Met.ofW (cc := cX7_face) (maxL := 5) (ret := (some .int)) (by decide) rfl ?_
  intro pp ee ss mm aa bb mt cd s1 Bd hml hv
  obtain ⟨hae, hX, hK, hE⟩ := hv
  have hx := Bd.exec
  have hb := Bd.bytes
  have hr := Bd.returns
  have hts := atoms_spec (ws := wsX7_face) Bd.pre
  have hown : ss.vm.findClass RX7 = some mm.cls := findClass_of_methodNamed Bd.named
  have hlocks := Bd.notSynchronized
  have hS : va_S (blkA B (B + 117)) ss.heap ss.heap [] := va_S.rf
  have hl := lv_entry ([.ref (B + (0)), .int (m), .int (q)]) (n := 5) (Nat.le_of_ble_eq_true rfl)
  subst hae
  rw [lg_entry_eq]
  generalize (lg_sl ([.ref (B + (0)), .int (m), .int (q)]) ++ List.replicate (5 - (lg_sl ([.ref (B + (0)), .int (m), .int (q)])).length) Slot.unset).toArray = ls at hl ⊢
  have hl : lv_has ls 5 [(0, .ref (B + (0))), (1, .int (m)), (2, .int (q))] := hl
  generalize ([.ref (B + (0)), .int (m), .int (q)] : List Value).toArray = aa at hts ⊢
  show W pp l ee rmX7_face ss mm aa bb mt cd ss.heap [] 0 0 _ (F0 mm 0 ls [])
  generalize hQ : MQ bb (va_Qi (fun r u => PT_X7_face x m q n nw r u) (XB G (wX G B tt)) (blkA B (B + 117))) aa ss 0 0 (blkA B (B + 117)) = Q
  have hn8 := hR.1
  refine lv_aload_n hx hb dX7_face_0 rfl (lv_at hl 0 rfl) ?_
  refine x_get (w := (wX G B tt)) (a := 0) (v := .ref (B + (5))) hx hb hts iX7_face_X7 hown hK hX (Nat.le_of_ble_eq_true rfl) (shX_mn (G := G) (B := B)) rfl 2 (by decide) (hts _ kX7_face_25) (fun _ h9 => h9) rfl dX7_face_1 ?_
  refine lv_iload_n hx hb dX7_face_4 rfl (lv_at hl 1 rfl) ?_
  refine x_ip (w := (wX G B tt)) (x := x) (v := bI (decide (0 ≤ m) && decide (m < x 5 1))) (va_runV (As := [.int (m)]) (rest := []) ⟨hx, hb, hml, hown, hts⟩ (c_X3_has (l := l) (G := G) (B := B) (tt := tt) (hW := hW) (x := x) (ρ := 5) (hρ := rg5) (v := m)) (cwV 1 hts gX7_face_X3_has rfl rfl rfl (by decide +kernel) ⟨Nat.le_of_ble_eq_true rfl, Nat.le_of_ble_eq_true rfl⟩) (x_pv (w := (wX G B tt)) (a := 5) hW hX hK hE hS [.int (m)] (rg_lt rg5) (shX_ri (G := G) (B := B) rg5) rfl) rfl rfl hl.1 rfl (lv_room (Nat.le_of_ble_eq_true rfl)) dX7_face_5 ⟨Nat.zero_le _, Nat.zero_le _⟩) hS (fun H_1 lo_2 hX hS => ?_)
  refine x_ifeq (tgt := 18) hx hb dX7_face_8 (by decide) (fun c_3 => ?_) (fun c_3 => ?_)
  · refine lv_ldc (v := (-1000001)) hx hb hown (hts _ kX7_face_59) dX7_face_18 ?_
    rw [← hQ]
    refine x_iret (v := (-1000001)) hx hb hr hX hS hlocks dX7_face_20 ?_
    show PT_X7_face _ _ _ _ _ _ _
    unfold PT_X7_face
    rw [if_pos c_3]
    exact ⟨rfl, rfl⟩
  · obtain ⟨hme, hmn⟩ := hasM hR.cnt hn8 c_3
    refine lv_iload_n hx hb dX7_face_11 rfl (lv_at hl 2 rfl) ?_
    refine x_ip (w := (wX G B tt)) (x := x) (v := bI (decide (0 ≤ q) && decide (q ≤ 3))) (va_runS (As := [.int (q)]) (rest := []) ⟨hx, hb, hml, hown, hts⟩ (c_X7_isQuarter (l := l) (G := G) (B := B) (tt := tt) (hW := hW) (x := x) (v := q)) (va_cwS 1 hts gX7_face_X7_isQuarter rfl rfl rfl (by decide +kernel) ⟨Nat.le_of_ble_eq_true rfl, Nat.le_of_ble_eq_true rfl⟩) (x_ps (w := (wX G B tt)) hW hX hK hE hS [.int (q)]) rfl rfl hl.1 rfl (lv_room (Nat.le_of_ble_eq_true rfl)) dX7_face_12 ⟨Nat.zero_le _, Nat.zero_le _⟩) hS (fun H_4 lo_5 hX hS => ?_)
    refine x_ifne (tgt := 21) hx hb dX7_face_15 (by decide) (fun c_6 => ?_) (fun c_6 => ?_)
    · refine lv_aload_n hx hb dX7_face_21 rfl (lv_at hl 0 rfl) ?_
      refine x_get (w := (wX G B tt)) (a := 0) (v := .ref (B + (5))) hx hb hts iX7_face_X7 hown hK hX (Nat.le_of_ble_eq_true rfl) (shX_mn (G := G) (B := B)) rfl 2 (by decide) (hts _ kX7_face_25) (fun _ h9 => h9) rfl dX7_face_22 ?_
      refine x_get (w := (wX G B tt)) (a := 5) (v := .ref (B + (5 + 1))) hx hb hts iX7_face_X3 hown hK hX (rg_lt rg5) (shX_ri (G := G) (B := B) rg5) rfl 0 (by decide) (hts _ kX7_face_135) (fun _ h9 => h9) rfl dX7_face_25 ?_
      refine lv_iload_n hx hb dX7_face_28 rfl (lv_at hl 1 rfl) ?_
      refine x_aald (w := (wX G B tt)) (a := 5 + 1) (n := 8) (j := tn m) (q := B + (5 + 1 + 1 + (tn m))) (t0 := 2) hx hb hK hX (rg_lt1 rg5) (shX_ma (G := G) (B := B) (f := x (5 + 1)) rg5) rfl hme (by omega) (by decide) rfl dX7_face_29 ?_
      refine lv_astore_n (lv' := [(3, .ref (B + (5 + 1 + 1 + (tn m)))), (0, .ref (B + (0))), (1, .int (m)), (2, .int (q))]) hx hb dX7_face_30 rfl hl (by decide) rfl (fun ls hl => ?_)
      refine lv_aload_n hx hb dX7_face_31 rfl (lv_at hl 0 rfl) ?_
      refine x_get (w := (wX G B tt)) (a := 5 + 1 + 1 + (tn m)) (v := .int (x (5 + 1 + 1 + (tn m)) 1)) hx hb hts iX7_face_X0 hown hK hX (rg_ltm rg5 (by omega)) (shX_mi (G := G) (B := B) rg5 (by omega)) rfl 1 (by decide) (hts _ kX7_face_152) (fun _ h9 => h9) rfl dX7_face_32 ?_
      refine lv_iconst (v := 5) hx hb dX7_face_35 (by decide) ?_
      refine lv_icmp_ne (tgt := 42) hx hb dX7_face_36 (by decide) (fun c_7 => ?_) (fun c_7 => ?_)
      · refine lv_aload_n hx hb dX7_face_42 rfl (lv_at hl 0 rfl) ?_
        refine x_get (w := (wX G B tt)) (a := 5 + 1 + 1 + (tn m)) (v := .int (x (5 + 1 + 1 + (tn m)) 10)) hx hb hts iX7_face_X0 hown hK hX (rg_ltm rg5 (by omega)) (shX_mi (G := G) (B := B) rg5 (by omega)) rfl 10 (by decide) (hts _ kX7_face_156) (fun _ h9 => h9) rfl dX7_face_43 ?_
        refine lv_istore (lv' := [(4, .int (x (5 + 1 + 1 + (tn m)) 10)), (3, .ref (B + (5 + 1 + 1 + (tn m)))), (0, .ref (B + (0))), (1, .int (m)), (2, .int (q))]) hx hb dX7_face_46 hl (by decide) rfl (fun ls hl => ?_)
        refine lv_aload_n hx hb dX7_face_48 rfl (lv_at hl 1 rfl) ?_
        refine lv_iload_n hx hb dX7_face_49 rfl (lv_at hl 4 rfl) ?_
        refine x_put (w := (wX G B tt)) (a := 5 + 1 + 1 + (tn m)) (v := q) (ty := .int) hx hb hts iX7_face_X0 tyX0 tyX0_ok nmX0 hown hK hW hX hS (rg_ltm rg5 (by omega)) (shX_mi (G := G) (B := B) rg5 (by omega)) rfl 10 (by decide) (hts _ kX7_face_156) (fun _ h9 => h9) rfl (by decide +kernel) rfl rfl (Nat.le_of_ble_eq_true rfl) (shX_mi (G := G) (B := B) rg5 (by omega)) dX7_face_50 (fun H_9 lo_10 hX hS => ?_)
        obtain ⟨x_8, ex_8⟩ : ∃ z, z = mst x (5 + 1 + 1 + (tn m)) 10 (q) := ⟨_, rfl⟩
        rw [← ex_8] at hX
        refine lv_iload hx hb dX7_face_53 (lv_at hl 0 rfl) ?_
        rw [← hQ]
        refine x_iret (v := x (5 + 1 + 1 + (tn m)) 10) hx hb hr hX hS hlocks dX7_face_55 ?_
        show PT_X7_face _ _ _ _ _ _ _
        unfold PT_X7_face
        rw [if_neg (ne_of_true c_3), if_pos c_6, if_neg c_7]
        exact ⟨rfl, ex_8⟩
      · refine lv_ldc (v := (-1000002)) hx hb hown (hts _ kX7_face_155) dX7_face_39 ?_
        rw [← hQ]
        refine x_iret (v := (-1000002)) hx hb hr hX hS hlocks dX7_face_41 ?_
        show PT_X7_face _ _ _ _ _ _ _
        unfold PT_X7_face
        rw [if_neg (ne_of_true c_3), if_pos c_6, if_pos c_7]
        exact ⟨rfl, rfl⟩
    · refine lv_ldc (v := (-1000001)) hx hb hown (hts _ kX7_face_59) dX7_face_18 ?_
      rw [← hQ]
      refine x_iret (v := (-1000001)) hx hb hr hX hS hlocks dX7_face_20 ?_
      show PT_X7_face _ _ _ _ _ _ _
      unfold PT_X7_face
      rw [if_neg (ne_of_true c_3), if_neg (ne_of_false c_6)]
      exact ⟨rfl, rfl⟩

def PT_X7_build (x : Mem) (m : Int32) (n : Nat) (nw : Nat → Int32) (r : Int32) (u : Mem) : Prop := (if (decide (0 ≤ m) && decide (m < x 5 1)) = true then (if (x (5 + 1 + 1 + (tn m)) 4) < 9 then (r = x (5 + 1 + 1 + tn m) 4 + 1 ∧ u = mst x (5 + 1 + 1 + tn m) 4 r) else (r = (-1000003) ∧ u = x)) else (r = (-1000001) ∧ u = x))
theorem kX7_build_25 : (.fieldLink RX7 25 "WindTaken" "ridge" "LWindTaken$Ridge;" : Cond) ∈ wsX7_build := by decide +kernel
theorem iX7_build_X7 : ∀ w ∈ wsX70, w ∈ wsX7_build := by decide +kernel
theorem kX7_build_135 : (.fieldLink RX7 135 "WindTaken$Ridge" "mills" "[LWindTaken$Mill;" : Cond) ∈ wsX7_build := by decide +kernel
theorem iX7_build_X3 : ∀ w ∈ wsX30, w ∈ wsX7_build := by decide +kernel
theorem kX7_build_159 : (.fieldLink RX7 159 "WindTaken$Mill" "floors" "I" : Cond) ∈ wsX7_build := by decide +kernel
theorem iX7_build_X0 : ∀ w ∈ wsX00, w ∈ wsX7_build := by decide +kernel
theorem kX7_build_109 : (.constant RX7 109 (-1000003) : Cond) ∈ wsX7_build := by decide +kernel
theorem kX7_build_59 : (.constant RX7 59 (-1000001) : Cond) ∈ wsX7_build := by decide +kernel
abbrev rmX7_build : Room := { frames := 1, cells := 0, slots := 0, locals := 21 }
set_option maxHeartbeats 4000000 in
set_option maxRecDepth 100000 in
theorem c_X7_build (l : Launch) (G : GG) (B : Nat) (tt : Nat → Nat) (hW : WOK (wX G B tt)) (x : Mem) (m : Int32) {n : Nat} {nw : Nat → Int32} (hR : RR n x 5 nw) : Met l yX7_build wsX7_build rmX7_build (XP G (wX G B tt) [.ref (B + (0)), .int (m)] x) (va_Qi (fun r u => PT_X7_build x m n nw r u) (XB G (wX G B tt)) (blkA B (B + 117))) 0 0 (blkA B (B + 117)) := by
  refine Met.ofW (cc := cX7_build) (maxL := 3) (ret := (some .int)) (by decide) rfl ?_
  intro pp ee ss mm aa bb mt cd s1 Bd hml hv
  obtain ⟨hae, hX, hK, hE⟩ := hv
  have hx := Bd.exec
  have hb := Bd.bytes
  have hr := Bd.returns
  have hts := atoms_spec (ws := wsX7_build) Bd.pre
  have hown : ss.vm.findClass RX7 = some mm.cls := findClass_of_methodNamed Bd.named
  have hlocks := Bd.notSynchronized
  have hS : va_S (blkA B (B + 117)) ss.heap ss.heap [] := va_S.rf
  have hl := lv_entry ([.ref (B + (0)), .int (m)]) (n := 3) (Nat.le_of_ble_eq_true rfl)
  subst hae
  rw [lg_entry_eq]
  generalize (lg_sl ([.ref (B + (0)), .int (m)]) ++ List.replicate (3 - (lg_sl ([.ref (B + (0)), .int (m)])).length) Slot.unset).toArray = ls at hl ⊢
  have hl : lv_has ls 3 [(0, .ref (B + (0))), (1, .int (m))] := hl
  generalize ([.ref (B + (0)), .int (m)] : List Value).toArray = aa at hts ⊢
  show W pp l ee rmX7_build ss mm aa bb mt cd ss.heap [] 0 0 _ (F0 mm 0 ls [])
  generalize hQ : MQ bb (va_Qi (fun r u => PT_X7_build x m n nw r u) (XB G (wX G B tt)) (blkA B (B + 117))) aa ss 0 0 (blkA B (B + 117)) = Q
  have hn8 := hR.1
  refine lv_aload_n hx hb dX7_build_0 rfl (lv_at hl 0 rfl) ?_
  refine x_get (w := (wX G B tt)) (a := 0) (v := .ref (B + (5))) hx hb hts iX7_build_X7 hown hK hX (Nat.le_of_ble_eq_true rfl) (shX_mn (G := G) (B := B)) rfl 2 (by decide) (hts _ kX7_build_25) (fun _ h9 => h9) rfl dX7_build_1 ?_
  refine lv_iload_n hx hb dX7_build_4 rfl (lv_at hl 1 rfl) ?_
  refine x_ip (w := (wX G B tt)) (x := x) (v := bI (decide (0 ≤ m) && decide (m < x 5 1))) (va_runV (As := [.int (m)]) (rest := []) ⟨hx, hb, hml, hown, hts⟩ (c_X3_has (l := l) (G := G) (B := B) (tt := tt) (hW := hW) (x := x) (ρ := 5) (hρ := rg5) (v := m)) (cwV 1 hts gX7_build_X3_has rfl rfl rfl (by decide +kernel) ⟨Nat.le_of_ble_eq_true rfl, Nat.le_of_ble_eq_true rfl⟩) (x_pv (w := (wX G B tt)) (a := 5) hW hX hK hE hS [.int (m)] (rg_lt rg5) (shX_ri (G := G) (B := B) rg5) rfl) rfl rfl hl.1 rfl (lv_room (Nat.le_of_ble_eq_true rfl)) dX7_build_5 ⟨Nat.zero_le _, Nat.zero_le _⟩) hS (fun H_1 lo_2 hX hS => ?_)
  refine x_ifne (tgt := 14) hx hb dX7_build_8 (by decide) (fun c_3 => ?_) (fun c_3 => ?_)
  · obtain ⟨hme, hmn⟩ := hasM hR.cnt hn8 c_3
    refine lv_aload_n hx hb dX7_build_14 rfl (lv_at hl 0 rfl) ?_
    refine x_get (w := (wX G B tt)) (a := 0) (v := .ref (B + (5))) hx hb hts iX7_build_X7 hown hK hX (Nat.le_of_ble_eq_true rfl) (shX_mn (G := G) (B := B)) rfl 2 (by decide) (hts _ kX7_build_25) (fun _ h9 => h9) rfl dX7_build_15 ?_
    refine x_get (w := (wX G B tt)) (a := 5) (v := .ref (B + (5 + 1))) hx hb hts iX7_build_X3 hown hK hX (rg_lt rg5) (shX_ri (G := G) (B := B) rg5) rfl 0 (by decide) (hts _ kX7_build_135) (fun _ h9 => h9) rfl dX7_build_18 ?_
    refine lv_iload_n hx hb dX7_build_21 rfl (lv_at hl 1 rfl) ?_
    refine x_aald (w := (wX G B tt)) (a := 5 + 1) (n := 8) (j := tn m) (q := B + (5 + 1 + 1 + (tn m))) (t0 := 2) hx hb hK hX (rg_lt1 rg5) (shX_ma (G := G) (B := B) (f := x (5 + 1)) rg5) rfl hme (by omega) (by decide) rfl dX7_build_22 ?_
    refine lv_astore_n (lv' := [(2, .ref (B + (5 + 1 + 1 + (tn m)))), (0, .ref (B + (0))), (1, .int (m))]) hx hb dX7_build_23 rfl hl (by decide) rfl (fun ls hl => ?_)
    refine lv_aload_n hx hb dX7_build_24 rfl (lv_at hl 0 rfl) ?_
    refine x_get (w := (wX G B tt)) (a := 5 + 1 + 1 + (tn m)) (v := .int (x (5 + 1 + 1 + (tn m)) 4)) hx hb hts iX7_build_X0 hown hK hX (rg_ltm rg5 (by omega)) (shX_mi (G := G) (B := B) rg5 (by omega)) rfl 4 (by decide) (hts _ kX7_build_159) (fun _ h9 => h9) rfl dX7_build_25 ?_
    refine lv_bipush (v := 9) hx hb dX7_build_28 (by decide) ?_
    refine lv_icmp_lt (tgt := 36) hx hb dX7_build_30 (by decide) (fun c_4 => ?_) (fun c_4 => ?_)
    · refine lv_aload_n hx hb dX7_build_36 rfl (lv_at hl 0 rfl) ?_
      refine lv_dup hx hb dX7_build_37 rfl ?_
      refine x_get (w := (wX G B tt)) (a := 5 + 1 + 1 + (tn m)) (v := .int (x (5 + 1 + 1 + (tn m)) 4)) hx hb hts iX7_build_X0 hown hK hX (rg_ltm rg5 (by omega)) (shX_mi (G := G) (B := B) rg5 (by omega)) rfl 4 (by decide) (hts _ kX7_build_159) (fun _ h9 => h9) rfl dX7_build_38 ?_
      refine lv_iconst (v := 1) hx hb dX7_build_41 (by decide) ?_
      refine lv_iadd hx hb dX7_build_42 ?_
      refine x_put (w := (wX G B tt)) (a := 5 + 1 + 1 + (tn m)) (v := (x (5 + 1 + 1 + (tn m)) 4) + 1) (ty := .int) hx hb hts iX7_build_X0 tyX0 tyX0_ok nmX0 hown hK hW hX hS (rg_ltm rg5 (by omega)) (shX_mi (G := G) (B := B) rg5 (by omega)) rfl 4 (by decide) (hts _ kX7_build_159) (fun _ h9 => h9) rfl (by decide +kernel) rfl rfl (Nat.le_of_ble_eq_true rfl) (shX_mi (G := G) (B := B) rg5 (by omega)) dX7_build_43 (fun H_6 lo_7 hX hS => ?_)
      obtain ⟨x_5, ex_5⟩ : ∃ z, z = mst x (5 + 1 + 1 + (tn m)) 4 ((x (5 + 1 + 1 + (tn m)) 4) + 1) := ⟨_, rfl⟩
      rw [← ex_5] at hX
      refine lv_aload_n hx hb dX7_build_46 rfl (lv_at hl 0 rfl) ?_
      refine x_get (w := (wX G B tt)) (a := 5 + 1 + 1 + (tn m)) (v := .int (x_5 (5 + 1 + 1 + (tn m)) 4)) hx hb hts iX7_build_X0 hown hK hX (rg_ltm rg5 (by omega)) (shX_mi (G := G) (B := B) rg5 (by omega)) rfl 4 (by decide) (hts _ kX7_build_159) (fun _ h9 => h9) rfl dX7_build_47 ?_
      rw [← hQ]
      refine x_iret (v := x_5 (5 + 1 + 1 + (tn m)) 4) hx hb hr hX hS hlocks dX7_build_50 ?_
      show PT_X7_build _ _ _ _ _ _
      unfold PT_X7_build
      rw [if_pos c_3, if_pos c_4]
      have h9 : x_5 (5 + 1 + 1 + tn m) 4 = x (5 + 1 + 1 + tn m) 4 + 1 := (by rw [ex_5, mst_self]); exact ⟨h9, by rw [h9, ← ex_5]⟩
    · refine lv_ldc (v := (-1000003)) hx hb hown (hts _ kX7_build_109) dX7_build_33 ?_
      rw [← hQ]
      refine x_iret (v := (-1000003)) hx hb hr hX hS hlocks dX7_build_35 ?_
      show PT_X7_build _ _ _ _ _ _
      unfold PT_X7_build
      rw [if_pos c_3, if_neg c_4]
      exact ⟨rfl, rfl⟩
  · refine lv_ldc (v := (-1000001)) hx hb hown (hts _ kX7_build_59) dX7_build_11 ?_
    rw [← hQ]
    refine x_iret (v := (-1000001)) hx hb hr hX hS hlocks dX7_build_13 ?_
    show PT_X7_build _ _ _ _ _ _
    unfold PT_X7_build
    rw [if_neg (ne_of_false c_3)]
    exact ⟨rfl, rfl⟩

def PT_X7_bring (x : Mem) (m : Int32) (k : Int32) (n : Nat) (nw : Nat → Int32) (r : Int32) (u : Mem) : Prop := (if (decide (0 ≤ m) && decide (m < x 5 1)) = false then (r = (-1000001) ∧ u = x) else (if (decide (((0 : Int32)) ≤ k) && decide (k ≤ ((999 : Int32)))) = true then (r = jmin (x (5 + 1 + 1 + tn m) 7 + k) 99999 ∧ u = mst x (5 + 1 + 1 + tn m) 7 r) else (r = (-1000001) ∧ u = x)))
theorem kX7_bring_25 : (.fieldLink RX7 25 "WindTaken" "ridge" "LWindTaken$Ridge;" : Cond) ∈ wsX7_bring := by decide +kernel
theorem iX7_bring_X7 : ∀ w ∈ wsX70, w ∈ wsX7_bring := by decide +kernel
theorem kX7_bring_59 : (.constant RX7 59 (-1000001) : Cond) ∈ wsX7_bring := by decide +kernel
theorem kX7_bring_135 : (.fieldLink RX7 135 "WindTaken$Ridge" "mills" "[LWindTaken$Mill;" : Cond) ∈ wsX7_bring := by decide +kernel
theorem iX7_bring_X3 : ∀ w ∈ wsX30, w ∈ wsX7_bring := by decide +kernel
theorem kX7_bring_162 : (.fieldLink RX7 162 "WindTaken$Mill" "corn" "I" : Cond) ∈ wsX7_bring := by decide +kernel
theorem iX7_bring_X0 : ∀ w ∈ wsX00, w ∈ wsX7_bring := by decide +kernel
theorem kX7_bring_165 : (.constant RX7 165 (99999) : Cond) ∈ wsX7_bring := by decide +kernel
theorem kX7_bring_166 : (.methodLink RX7 166 Lib.Math.min.name : Cond) ∈ wsX7_bring := by decide +kernel
theorem ksX7_bring_min : (.static Lib.Math.min.name : Cond) ∈ wsX7_bring := by decide +kernel
theorem kiX7_bring_Math : (.initialized "java/lang/Math" : Cond) ∈ wsX7_bring := by decide +kernel
theorem kcX7_bring_min : (.code Lib.Math.min.name Lib.Math.min.code 2 (some .int) : Cond) ∈ wsX7_bring := by decide +kernel
abbrev rmX7_bring : Room := { frames := 1, cells := 0, slots := 0, locals := 22 }
set_option maxHeartbeats 4000000 in
set_option maxRecDepth 100000 in
theorem c_X7_bring (l : Launch) (G : GG) (B : Nat) (tt : Nat → Nat) (hW : WOK (wX G B tt)) (x : Mem) (m : Int32) (k : Int32) {n : Nat} {nw : Nat → Int32} (hR : RR n x 5 nw) : Met l yX7_bring wsX7_bring rmX7_bring (XP G (wX G B tt) [.ref (B + (0)), .int (m), .int (k)] x) (va_Qi (fun r u => PT_X7_bring x m k n nw r u) (XB G (wX G B tt)) (blkA B (B + 117))) 0 0 (blkA B (B + 117)) := by
  refine Met.ofW (cc := cX7_bring) (maxL := 4) (ret := (some .int)) (by decide) rfl ?_
  intro pp ee ss mm aa bb mt cd s1 Bd hml hv
  obtain ⟨hae, hX, hK, hE⟩ := hv
  have hx := Bd.exec
  have hb := Bd.bytes
  have hr := Bd.returns
  have hts := atoms_spec (ws := wsX7_bring) Bd.pre
  have hown : ss.vm.findClass RX7 = some mm.cls := findClass_of_methodNamed Bd.named
  have hlocks := Bd.notSynchronized
  have hS : va_S (blkA B (B + 117)) ss.heap ss.heap [] := va_S.rf
  have hl := lv_entry ([.ref (B + (0)), .int (m), .int (k)]) (n := 4) (Nat.le_of_ble_eq_true rfl)
  subst hae
  rw [lg_entry_eq]
  generalize (lg_sl ([.ref (B + (0)), .int (m), .int (k)]) ++ List.replicate (4 - (lg_sl ([.ref (B + (0)), .int (m), .int (k)])).length) Slot.unset).toArray = ls at hl ⊢
  have hl : lv_has ls 4 [(0, .ref (B + (0))), (1, .int (m)), (2, .int (k))] := hl
  generalize ([.ref (B + (0)), .int (m), .int (k)] : List Value).toArray = aa at hts ⊢
  show W pp l ee rmX7_bring ss mm aa bb mt cd ss.heap [] 0 0 _ (F0 mm 0 ls [])
  generalize hQ : MQ bb (va_Qi (fun r u => PT_X7_bring x m k n nw r u) (XB G (wX G B tt)) (blkA B (B + 117))) aa ss 0 0 (blkA B (B + 117)) = Q
  have hn8 := hR.1
  refine lv_aload_n hx hb dX7_bring_0 rfl (lv_at hl 0 rfl) ?_
  refine x_get (w := (wX G B tt)) (a := 0) (v := .ref (B + (5))) hx hb hts iX7_bring_X7 hown hK hX (Nat.le_of_ble_eq_true rfl) (shX_mn (G := G) (B := B)) rfl 2 (by decide) (hts _ kX7_bring_25) (fun _ h9 => h9) rfl dX7_bring_1 ?_
  refine lv_iload_n hx hb dX7_bring_4 rfl (lv_at hl 1 rfl) ?_
  refine x_ip (w := (wX G B tt)) (x := x) (v := bI (decide (0 ≤ m) && decide (m < x 5 1))) (va_runV (As := [.int (m)]) (rest := []) ⟨hx, hb, hml, hown, hts⟩ (c_X3_has (l := l) (G := G) (B := B) (tt := tt) (hW := hW) (x := x) (ρ := 5) (hρ := rg5) (v := m)) (cwV 1 hts gX7_bring_X3_has rfl rfl rfl (by decide +kernel) ⟨Nat.le_of_ble_eq_true rfl, Nat.le_of_ble_eq_true rfl⟩) (x_pv (w := (wX G B tt)) (a := 5) hW hX hK hE hS [.int (m)] (rg_lt rg5) (shX_ri (G := G) (B := B) rg5) rfl) rfl rfl hl.1 rfl (lv_room (Nat.le_of_ble_eq_true rfl)) dX7_bring_5 ⟨Nat.zero_le _, Nat.zero_le _⟩) hS (fun H_1 lo_2 hX hS => ?_)
  refine x_ifeq (tgt := 22) hx hb dX7_bring_8 (by decide) (fun c_3 => ?_) (fun c_3 => ?_)
  · refine lv_ldc (v := (-1000001)) hx hb hown (hts _ kX7_bring_59) dX7_bring_22 ?_
    rw [← hQ]
    refine x_iret (v := (-1000001)) hx hb hr hX hS hlocks dX7_bring_24 ?_
    show PT_X7_bring _ _ _ _ _ _ _
    unfold PT_X7_bring
    rw [if_pos c_3]
    exact ⟨rfl, rfl⟩
  · obtain ⟨hme, hmn⟩ := hasM hR.cnt hn8 c_3
    refine lv_iload_n hx hb dX7_bring_11 rfl (lv_at hl 2 rfl) ?_
    refine lv_iconst (v := 0) hx hb dX7_bring_12 (by decide) ?_
    refine lv_sipush (v := 999) hx hb dX7_bring_13 (by decide) ?_
    refine x_ip (w := (wX G B tt)) (x := x) (v := bI (decide (((0 : Int32)) ≤ k) && decide (k ≤ ((999 : Int32))))) (va_runS (As := [.int (k), .int (0), .int (999)]) (rest := []) ⟨hx, hb, hml, hown, hts⟩ (c_X7_isWithin (l := l) (G := G) (B := B) (tt := tt) (hW := hW) (x := x) (v := k) (lo := 0) (hi := 999)) (va_cwS 3 hts gX7_bring_X7_isWithin rfl rfl rfl (by decide +kernel) ⟨Nat.le_of_ble_eq_true rfl, Nat.le_of_ble_eq_true rfl⟩) (x_ps (w := (wX G B tt)) hW hX hK hE hS [.int (k), .int (0), .int (999)]) rfl rfl hl.1 rfl (lv_room (Nat.le_of_ble_eq_true rfl)) dX7_bring_16 ⟨Nat.zero_le _, Nat.zero_le _⟩) hS (fun H_4 lo_5 hX hS => ?_)
    refine x_ifne (tgt := 25) hx hb dX7_bring_19 (by decide) (fun c_6 => ?_) (fun c_6 => ?_)
    · refine lv_aload_n hx hb dX7_bring_25 rfl (lv_at hl 0 rfl) ?_
      refine x_get (w := (wX G B tt)) (a := 0) (v := .ref (B + (5))) hx hb hts iX7_bring_X7 hown hK hX (Nat.le_of_ble_eq_true rfl) (shX_mn (G := G) (B := B)) rfl 2 (by decide) (hts _ kX7_bring_25) (fun _ h9 => h9) rfl dX7_bring_26 ?_
      refine x_get (w := (wX G B tt)) (a := 5) (v := .ref (B + (5 + 1))) hx hb hts iX7_bring_X3 hown hK hX (rg_lt rg5) (shX_ri (G := G) (B := B) rg5) rfl 0 (by decide) (hts _ kX7_bring_135) (fun _ h9 => h9) rfl dX7_bring_29 ?_
      refine lv_iload_n hx hb dX7_bring_32 rfl (lv_at hl 1 rfl) ?_
      refine x_aald (w := (wX G B tt)) (a := 5 + 1) (n := 8) (j := tn m) (q := B + (5 + 1 + 1 + (tn m))) (t0 := 2) hx hb hK hX (rg_lt1 rg5) (shX_ma (G := G) (B := B) (f := x (5 + 1)) rg5) rfl hme (by omega) (by decide) rfl dX7_bring_33 ?_
      refine lv_astore_n (lv' := [(3, .ref (B + (5 + 1 + 1 + (tn m)))), (0, .ref (B + (0))), (1, .int (m)), (2, .int (k))]) hx hb dX7_bring_34 rfl hl (by decide) rfl (fun ls hl => ?_)
      refine lv_aload_n hx hb dX7_bring_35 rfl (lv_at hl 0 rfl) ?_
      refine lv_aload_n hx hb dX7_bring_36 rfl (lv_at hl 0 rfl) ?_
      refine x_get (w := (wX G B tt)) (a := 5 + 1 + 1 + (tn m)) (v := .int (x (5 + 1 + 1 + (tn m)) 7)) hx hb hts iX7_bring_X0 hown hK hX (rg_ltm rg5 (by omega)) (shX_mi (G := G) (B := B) rg5 (by omega)) rfl 7 (by decide) (hts _ kX7_bring_162) (fun _ h9 => h9) rfl dX7_bring_37 ?_
      refine lv_iload_n hx hb dX7_bring_40 rfl (lv_at hl 3 rfl) ?_
      refine lv_iadd hx hb dX7_bring_41 ?_
      refine lv_ldc (v := 99999) hx hb hown (hts _ kX7_bring_165) dX7_bring_42 ?_
      refine x_mmin hx hb (by rw [hml]; exact hl.1.symm) hown (hts _ kX7_bring_166) (hts _ ksX7_bring_min) (hts _ kiX7_bring_Math) (hts _ kcX7_bring_min) ⟨Nat.le_of_ble_eq_true rfl, Nat.le_of_ble_eq_true rfl, Nat.zero_le _, Nat.zero_le _⟩ dX7_bring_44 ?_
      refine x_put (w := (wX G B tt)) (a := 5 + 1 + 1 + (tn m)) (v := jmin ((x (5 + 1 + 1 + (tn m)) 7) + k) 99999) (ty := .int) hx hb hts iX7_bring_X0 tyX0 tyX0_ok nmX0 hown hK hW hX hS (rg_ltm rg5 (by omega)) (shX_mi (G := G) (B := B) rg5 (by omega)) rfl 7 (by decide) (hts _ kX7_bring_162) (fun _ h9 => h9) rfl (by decide +kernel) rfl rfl (Nat.le_of_ble_eq_true rfl) (shX_mi (G := G) (B := B) rg5 (by omega)) dX7_bring_47 (fun H_8 lo_9 hX hS => ?_)
      obtain ⟨x_7, ex_7⟩ : ∃ z, z = mst x (5 + 1 + 1 + (tn m)) 7 (jmin ((x (5 + 1 + 1 + (tn m)) 7) + k) 99999) := ⟨_, rfl⟩
      rw [← ex_7] at hX
      refine lv_aload_n hx hb dX7_bring_50 rfl (lv_at hl 0 rfl) ?_
      refine x_get (w := (wX G B tt)) (a := 5 + 1 + 1 + (tn m)) (v := .int (x_7 (5 + 1 + 1 + (tn m)) 7)) hx hb hts iX7_bring_X0 hown hK hX (rg_ltm rg5 (by omega)) (shX_mi (G := G) (B := B) rg5 (by omega)) rfl 7 (by decide) (hts _ kX7_bring_162) (fun _ h9 => h9) rfl dX7_bring_51 ?_
      rw [← hQ]
      refine x_iret (v := x_7 (5 + 1 + 1 + (tn m)) 7) hx hb hr hX hS hlocks dX7_bring_54 ?_
      show PT_X7_bring _ _ _ _ _ _ _
      unfold PT_X7_bring
      rw [if_neg (ne_of_true c_3), if_pos c_6]
      have h9 : x_7 (5 + 1 + 1 + tn m) 7 = jmin (x (5 + 1 + 1 + tn m) 7 + k) 99999 := (by rw [ex_7, mst_self]); exact ⟨h9, by rw [h9, ← ex_7]⟩
    · refine lv_ldc (v := (-1000001)) hx hb hown (hts _ kX7_bring_59) dX7_bring_22 ?_
      rw [← hQ]
      refine x_iret (v := (-1000001)) hx hb hr hX hS hlocks dX7_bring_24 ?_
      show PT_X7_bring _ _ _ _ _ _ _
      unfold PT_X7_bring
      rw [if_neg (ne_of_true c_3), if_neg (ne_of_false c_6)]
      exact ⟨rfl, rfl⟩

def PT_X7_mill (x : Mem) (m : Int32) (a : Int32) (n : Nat) (nw : Nat → Int32) (r : Int32) (u : Mem) : Prop := (if (decide (0 ≤ m) && decide (m < x 5 1)) = true then (if a = 0 then (r = x (5 + 1 + 1 + (tn m)) 4 ∧ u = x) else (if a = 1 then (r = x (5 + 1 + 1 + (tn m)) 5 ∧ u = x) else (if a = 2 then (r = x (5 + 1 + 1 + (tn m)) 6 ∧ u = x) else (if a = 3 then (r = x (5 + 1 + 1 + (tn m)) 7 ∧ u = x) else (if a = 4 then (r = x (5 + 1 + 1 + (tn m)) 8 ∧ u = x) else (if a = 5 then (r = x (5 + 1 + 1 + (tn m)) 9 ∧ u = x) else (if a = 6 then (r = x (5 + 1 + 1 + (tn m)) 10 ∧ u = x) else (if a = 7 then (r = bI (decide (x (5 + 1 + 1 + (tn m)) 11 ≠ 0)) ∧ u = x) else (if a = 8 then (r = x (5 + 1 + 1 + (tn m)) 2 ∧ u = x) else (if a = 9 then (r = x (5 + 1 + 1 + (tn m)) 3 ∧ u = x) else (r = (-1000001) ∧ u = x))))))))))) else (r = (-1000001) ∧ u = x))
theorem kX7_mill_25 : (.fieldLink RX7 25 "WindTaken" "ridge" "LWindTaken$Ridge;" : Cond) ∈ wsX7_mill := by decide +kernel
theorem iX7_mill_X7 : ∀ w ∈ wsX70, w ∈ wsX7_mill := by decide +kernel
theorem kX7_mill_135 : (.fieldLink RX7 135 "WindTaken$Ridge" "mills" "[LWindTaken$Mill;" : Cond) ∈ wsX7_mill := by decide +kernel
theorem iX7_mill_X3 : ∀ w ∈ wsX30, w ∈ wsX7_mill := by decide +kernel
theorem kX7_mill_159 : (.fieldLink RX7 159 "WindTaken$Mill" "floors" "I" : Cond) ∈ wsX7_mill := by decide +kernel
theorem iX7_mill_X0 : ∀ w ∈ wsX00, w ∈ wsX7_mill := by decide +kernel
theorem kX7_mill_186 : (.fieldLink RX7 186 "WindTaken$Mill" "sails" "I" : Cond) ∈ wsX7_mill := by decide +kernel
theorem kX7_mill_189 : (.fieldLink RX7 189 "WindTaken$Mill" "age" "I" : Cond) ∈ wsX7_mill := by decide +kernel
theorem kX7_mill_162 : (.fieldLink RX7 162 "WindTaken$Mill" "corn" "I" : Cond) ∈ wsX7_mill := by decide +kernel
theorem kX7_mill_192 : (.fieldLink RX7 192 "WindTaken$Mill" "flour" "I" : Cond) ∈ wsX7_mill := by decide +kernel
theorem kX7_mill_195 : (.fieldLink RX7 195 "WindTaken$Mill" "wear" "I" : Cond) ∈ wsX7_mill := by decide +kernel
theorem kX7_mill_156 : (.fieldLink RX7 156 "WindTaken$Mill" "facing" "I" : Cond) ∈ wsX7_mill := by decide +kernel
theorem kX7_mill_139 : (.fieldLink RX7 139 "WindTaken$Mill" "furled" "Z" : Cond) ∈ wsX7_mill := by decide +kernel
theorem kX7_mill_198 : (.fieldLink RX7 198 "WindTaken$Mill" "x" "I" : Cond) ∈ wsX7_mill := by decide +kernel
theorem kX7_mill_201 : (.fieldLink RX7 201 "WindTaken$Mill" "y" "I" : Cond) ∈ wsX7_mill := by decide +kernel
theorem kX7_mill_59 : (.constant RX7 59 (-1000001) : Cond) ∈ wsX7_mill := by decide +kernel
abbrev rmX7_mill : Room := { frames := 1, cells := 0, slots := 0, locals := 21 }
set_option maxHeartbeats 4000000 in
set_option maxRecDepth 100000 in
theorem c_X7_mill (l : Launch) (G : GG) (B : Nat) (tt : Nat → Nat) (hW : WOK (wX G B tt)) (x : Mem) (m : Int32) (a : Int32) {n : Nat} {nw : Nat → Int32} (hR : RR n x 5 nw) : Met l yX7_mill wsX7_mill rmX7_mill (XP G (wX G B tt) [.ref (B + (0)), .int (m), .int (a)] x) (va_Qi (fun r u => PT_X7_mill x m a n nw r u) (XB G (wX G B tt)) (blkA B (B + 117))) 0 0 (blkA B (B + 117)) := by
  refine Met.ofW (cc := cX7_mill) (maxL := 4) (ret := (some .int)) (by decide) rfl ?_
  intro pp ee ss mm aa bb mt cd s1 Bd hml hv
  obtain ⟨hae, hX, hK, hE⟩ := hv
  have hx := Bd.exec
  have hb := Bd.bytes
  have hr := Bd.returns
  have hts := atoms_spec (ws := wsX7_mill) Bd.pre
  have hown : ss.vm.findClass RX7 = some mm.cls := findClass_of_methodNamed Bd.named
  have hlocks := Bd.notSynchronized
  have hS : va_S (blkA B (B + 117)) ss.heap ss.heap [] := va_S.rf
  have hl := lv_entry ([.ref (B + (0)), .int (m), .int (a)]) (n := 4) (Nat.le_of_ble_eq_true rfl)
  subst hae
  rw [lg_entry_eq]
  generalize (lg_sl ([.ref (B + (0)), .int (m), .int (a)]) ++ List.replicate (4 - (lg_sl ([.ref (B + (0)), .int (m), .int (a)])).length) Slot.unset).toArray = ls at hl ⊢
  have hl : lv_has ls 4 [(0, .ref (B + (0))), (1, .int (m)), (2, .int (a))] := hl
  generalize ([.ref (B + (0)), .int (m), .int (a)] : List Value).toArray = aa at hts ⊢
  show W pp l ee rmX7_mill ss mm aa bb mt cd ss.heap [] 0 0 _ (F0 mm 0 ls [])
  generalize hQ : MQ bb (va_Qi (fun r u => PT_X7_mill x m a n nw r u) (XB G (wX G B tt)) (blkA B (B + 117))) aa ss 0 0 (blkA B (B + 117)) = Q
  have hn8 := hR.1
  refine lv_aload_n hx hb dX7_mill_0 rfl (lv_at hl 0 rfl) ?_
  refine x_get (w := (wX G B tt)) (a := 0) (v := .ref (B + (5))) hx hb hts iX7_mill_X7 hown hK hX (Nat.le_of_ble_eq_true rfl) (shX_mn (G := G) (B := B)) rfl 2 (by decide) (hts _ kX7_mill_25) (fun _ h9 => h9) rfl dX7_mill_1 ?_
  refine lv_iload_n hx hb dX7_mill_4 rfl (lv_at hl 1 rfl) ?_
  refine x_ip (w := (wX G B tt)) (x := x) (v := bI (decide (0 ≤ m) && decide (m < x 5 1))) (va_runV (As := [.int (m)]) (rest := []) ⟨hx, hb, hml, hown, hts⟩ (c_X3_has (l := l) (G := G) (B := B) (tt := tt) (hW := hW) (x := x) (ρ := 5) (hρ := rg5) (v := m)) (cwV 1 hts gX7_mill_X3_has rfl rfl rfl (by decide +kernel) ⟨Nat.le_of_ble_eq_true rfl, Nat.le_of_ble_eq_true rfl⟩) (x_pv (w := (wX G B tt)) (a := 5) hW hX hK hE hS [.int (m)] (rg_lt rg5) (shX_ri (G := G) (B := B) rg5) rfl) rfl rfl hl.1 rfl (lv_room (Nat.le_of_ble_eq_true rfl)) dX7_mill_5 ⟨Nat.zero_le _, Nat.zero_le _⟩) hS (fun H_1 lo_2 hX hS => ?_)
  refine x_ifne (tgt := 14) hx hb dX7_mill_8 (by decide) (fun c_3 => ?_) (fun c_3 => ?_)
  · obtain ⟨hme, hmn⟩ := hasM hR.cnt hn8 c_3
    refine lv_aload_n hx hb dX7_mill_14 rfl (lv_at hl 0 rfl) ?_
    refine x_get (w := (wX G B tt)) (a := 0) (v := .ref (B + (5))) hx hb hts iX7_mill_X7 hown hK hX (Nat.le_of_ble_eq_true rfl) (shX_mn (G := G) (B := B)) rfl 2 (by decide) (hts _ kX7_mill_25) (fun _ h9 => h9) rfl dX7_mill_15 ?_
    refine x_get (w := (wX G B tt)) (a := 5) (v := .ref (B + (5 + 1))) hx hb hts iX7_mill_X3 hown hK hX (rg_lt rg5) (shX_ri (G := G) (B := B) rg5) rfl 0 (by decide) (hts _ kX7_mill_135) (fun _ h9 => h9) rfl dX7_mill_18 ?_
    refine lv_iload_n hx hb dX7_mill_21 rfl (lv_at hl 1 rfl) ?_
    refine x_aald (w := (wX G B tt)) (a := 5 + 1) (n := 8) (j := tn m) (q := B + (5 + 1 + 1 + (tn m))) (t0 := 2) hx hb hK hX (rg_lt1 rg5) (shX_ma (G := G) (B := B) (f := x (5 + 1)) rg5) rfl hme (by omega) (by decide) rfl dX7_mill_22 ?_
    refine lv_astore_n (lv' := [(3, .ref (B + (5 + 1 + 1 + (tn m)))), (0, .ref (B + (0))), (1, .int (m)), (2, .int (a))]) hx hb dX7_mill_23 rfl hl (by decide) rfl (fun ls hl => ?_)
    refine lv_iload_n hx hb dX7_mill_24 rfl (lv_at hl 3 rfl) ?_
    by_cases c_5 : a = 0
    · subst c_5
      refine lv_tableIn (tgt := 80) (off := 55) hx hb dX7_mill_25 (by decide) (by decide) rfl (by decide) ?_
      refine lv_aload_n hx hb dX7_mill_80 rfl (lv_at hl 0 rfl) ?_
      refine x_get (w := (wX G B tt)) (a := 5 + 1 + 1 + (tn m)) (v := .int (x (5 + 1 + 1 + (tn m)) 4)) hx hb hts iX7_mill_X0 hown hK hX (rg_ltm rg5 (by omega)) (shX_mi (G := G) (B := B) rg5 (by omega)) rfl 4 (by decide) (hts _ kX7_mill_159) (fun _ h9 => h9) rfl dX7_mill_81 ?_
      rw [← hQ]
      refine x_iret (v := x (5 + 1 + 1 + (tn m)) 4) hx hb hr hX hS hlocks dX7_mill_84 ?_
      show PT_X7_mill _ _ _ _ _ _ _
      unfold PT_X7_mill
      rw [if_pos c_3, if_pos rfl]
      exact ⟨rfl, rfl⟩
    by_cases c_6 : a = 1
    · subst c_6
      refine lv_tableIn (tgt := 85) (off := 60) hx hb dX7_mill_25 (by decide) (by decide) rfl (by decide) ?_
      refine lv_aload_n hx hb dX7_mill_85 rfl (lv_at hl 0 rfl) ?_
      refine x_get (w := (wX G B tt)) (a := 5 + 1 + 1 + (tn m)) (v := .int (x (5 + 1 + 1 + (tn m)) 5)) hx hb hts iX7_mill_X0 hown hK hX (rg_ltm rg5 (by omega)) (shX_mi (G := G) (B := B) rg5 (by omega)) rfl 5 (by decide) (hts _ kX7_mill_186) (fun _ h9 => h9) rfl dX7_mill_86 ?_
      rw [← hQ]
      refine x_iret (v := x (5 + 1 + 1 + (tn m)) 5) hx hb hr hX hS hlocks dX7_mill_89 ?_
      show PT_X7_mill _ _ _ _ _ _ _
      unfold PT_X7_mill
      rw [if_pos c_3, if_neg (by decide), if_pos rfl]
      exact ⟨rfl, rfl⟩
    by_cases c_7 : a = 2
    · subst c_7
      refine lv_tableIn (tgt := 90) (off := 65) hx hb dX7_mill_25 (by decide) (by decide) rfl (by decide) ?_
      refine lv_aload_n hx hb dX7_mill_90 rfl (lv_at hl 0 rfl) ?_
      refine x_get (w := (wX G B tt)) (a := 5 + 1 + 1 + (tn m)) (v := .int (x (5 + 1 + 1 + (tn m)) 6)) hx hb hts iX7_mill_X0 hown hK hX (rg_ltm rg5 (by omega)) (shX_mi (G := G) (B := B) rg5 (by omega)) rfl 6 (by decide) (hts _ kX7_mill_189) (fun _ h9 => h9) rfl dX7_mill_91 ?_
      rw [← hQ]
      refine x_iret (v := x (5 + 1 + 1 + (tn m)) 6) hx hb hr hX hS hlocks dX7_mill_94 ?_
      show PT_X7_mill _ _ _ _ _ _ _
      unfold PT_X7_mill
      rw [if_pos c_3, if_neg (by decide), if_neg (by decide), if_pos rfl]
      exact ⟨rfl, rfl⟩
    by_cases c_8 : a = 3
    · subst c_8
      refine lv_tableIn (tgt := 95) (off := 70) hx hb dX7_mill_25 (by decide) (by decide) rfl (by decide) ?_
      refine lv_aload_n hx hb dX7_mill_95 rfl (lv_at hl 0 rfl) ?_
      refine x_get (w := (wX G B tt)) (a := 5 + 1 + 1 + (tn m)) (v := .int (x (5 + 1 + 1 + (tn m)) 7)) hx hb hts iX7_mill_X0 hown hK hX (rg_ltm rg5 (by omega)) (shX_mi (G := G) (B := B) rg5 (by omega)) rfl 7 (by decide) (hts _ kX7_mill_162) (fun _ h9 => h9) rfl dX7_mill_96 ?_
      rw [← hQ]
      refine x_iret (v := x (5 + 1 + 1 + (tn m)) 7) hx hb hr hX hS hlocks dX7_mill_99 ?_
      show PT_X7_mill _ _ _ _ _ _ _
      unfold PT_X7_mill
      rw [if_pos c_3, if_neg (by decide), if_neg (by decide), if_neg (by decide), if_pos rfl]
      exact ⟨rfl, rfl⟩
    by_cases c_9 : a = 4
    · subst c_9
      refine lv_tableIn (tgt := 100) (off := 75) hx hb dX7_mill_25 (by decide) (by decide) rfl (by decide) ?_
      refine lv_aload_n hx hb dX7_mill_100 rfl (lv_at hl 0 rfl) ?_
      refine x_get (w := (wX G B tt)) (a := 5 + 1 + 1 + (tn m)) (v := .int (x (5 + 1 + 1 + (tn m)) 8)) hx hb hts iX7_mill_X0 hown hK hX (rg_ltm rg5 (by omega)) (shX_mi (G := G) (B := B) rg5 (by omega)) rfl 8 (by decide) (hts _ kX7_mill_192) (fun _ h9 => h9) rfl dX7_mill_101 ?_
      rw [← hQ]
      refine x_iret (v := x (5 + 1 + 1 + (tn m)) 8) hx hb hr hX hS hlocks dX7_mill_104 ?_
      show PT_X7_mill _ _ _ _ _ _ _
      unfold PT_X7_mill
      rw [if_pos c_3, if_neg (by decide), if_neg (by decide), if_neg (by decide), if_neg (by decide), if_pos rfl]
      exact ⟨rfl, rfl⟩
    by_cases c_10 : a = 5
    · subst c_10
      refine lv_tableIn (tgt := 105) (off := 80) hx hb dX7_mill_25 (by decide) (by decide) rfl (by decide) ?_
      refine lv_aload_n hx hb dX7_mill_105 rfl (lv_at hl 0 rfl) ?_
      refine x_get (w := (wX G B tt)) (a := 5 + 1 + 1 + (tn m)) (v := .int (x (5 + 1 + 1 + (tn m)) 9)) hx hb hts iX7_mill_X0 hown hK hX (rg_ltm rg5 (by omega)) (shX_mi (G := G) (B := B) rg5 (by omega)) rfl 9 (by decide) (hts _ kX7_mill_195) (fun _ h9 => h9) rfl dX7_mill_106 ?_
      rw [← hQ]
      refine x_iret (v := x (5 + 1 + 1 + (tn m)) 9) hx hb hr hX hS hlocks dX7_mill_109 ?_
      show PT_X7_mill _ _ _ _ _ _ _
      unfold PT_X7_mill
      rw [if_pos c_3, if_neg (by decide), if_neg (by decide), if_neg (by decide), if_neg (by decide), if_neg (by decide), if_pos rfl]
      exact ⟨rfl, rfl⟩
    by_cases c_11 : a = 6
    · subst c_11
      refine lv_tableIn (tgt := 110) (off := 85) hx hb dX7_mill_25 (by decide) (by decide) rfl (by decide) ?_
      refine lv_aload_n hx hb dX7_mill_110 rfl (lv_at hl 0 rfl) ?_
      refine x_get (w := (wX G B tt)) (a := 5 + 1 + 1 + (tn m)) (v := .int (x (5 + 1 + 1 + (tn m)) 10)) hx hb hts iX7_mill_X0 hown hK hX (rg_ltm rg5 (by omega)) (shX_mi (G := G) (B := B) rg5 (by omega)) rfl 10 (by decide) (hts _ kX7_mill_156) (fun _ h9 => h9) rfl dX7_mill_111 ?_
      rw [← hQ]
      refine x_iret (v := x (5 + 1 + 1 + (tn m)) 10) hx hb hr hX hS hlocks dX7_mill_114 ?_
      show PT_X7_mill _ _ _ _ _ _ _
      unfold PT_X7_mill
      rw [if_pos c_3, if_neg (by decide), if_neg (by decide), if_neg (by decide), if_neg (by decide), if_neg (by decide), if_neg (by decide), if_pos rfl]
      exact ⟨rfl, rfl⟩
    by_cases c_12 : a = 7
    · subst c_12
      refine lv_tableIn (tgt := 115) (off := 90) hx hb dX7_mill_25 (by decide) (by decide) rfl (by decide) ?_
      refine lv_aload_n hx hb dX7_mill_115 rfl (lv_at hl 0 rfl) ?_
      refine x_get (w := (wX G B tt)) (a := 5 + 1 + 1 + (tn m)) (v := .int (bI (decide (x (5 + 1 + 1 + (tn m)) 11 ≠ 0)))) hx hb hts iX7_mill_X0 hown hK hX (rg_ltm rg5 (by omega)) (shX_mi (G := G) (B := B) rg5 (by omega)) rfl 11 (by decide) (hts _ kX7_mill_139) (fun _ h9 => h9) rfl dX7_mill_116 ?_
      refine x_ip (w := (wX G B tt)) (x := x) (v := bI (decide (x (5 + 1 + 1 + (tn m)) 11 ≠ 0))) (va_runS (As := [.int (bI (decide (x (5 + 1 + 1 + (tn m)) 11 ≠ 0)))]) (rest := []) ⟨hx, hb, hml, hown, hts⟩ (c_X7_bit (l := l) (G := G) (B := B) (tt := tt) (hW := hW) (x := x) (b := decide (x (5 + 1 + 1 + (tn m)) 11 ≠ 0))) (va_cwS 1 hts gX7_mill_X7_bit rfl rfl rfl (by decide +kernel) ⟨Nat.le_of_ble_eq_true rfl, Nat.le_of_ble_eq_true rfl⟩) (x_ps (w := (wX G B tt)) hW hX hK hE hS [.int (bI (decide (x (5 + 1 + 1 + (tn m)) 11 ≠ 0)))]) rfl rfl hl.1 rfl (lv_room (Nat.le_of_ble_eq_true rfl)) dX7_mill_119 ⟨Nat.zero_le _, Nat.zero_le _⟩) hS (fun H_13 lo_14 hX hS => ?_)
      rw [← hQ]
      refine x_iret (v := bI (decide (x (5 + 1 + 1 + (tn m)) 11 ≠ 0))) hx hb hr hX hS hlocks dX7_mill_122 ?_
      show PT_X7_mill _ _ _ _ _ _ _
      unfold PT_X7_mill
      rw [if_pos c_3, if_neg (by decide), if_neg (by decide), if_neg (by decide), if_neg (by decide), if_neg (by decide), if_neg (by decide), if_neg (by decide), if_pos rfl]
      exact ⟨rfl, rfl⟩
    by_cases c_15 : a = 8
    · subst c_15
      refine lv_tableIn (tgt := 123) (off := 98) hx hb dX7_mill_25 (by decide) (by decide) rfl (by decide) ?_
      refine lv_aload_n hx hb dX7_mill_123 rfl (lv_at hl 0 rfl) ?_
      refine x_get (w := (wX G B tt)) (a := 5 + 1 + 1 + (tn m)) (v := .int (x (5 + 1 + 1 + (tn m)) 2)) hx hb hts iX7_mill_X0 hown hK hX (rg_ltm rg5 (by omega)) (shX_mi (G := G) (B := B) rg5 (by omega)) rfl 2 (by decide) (hts _ kX7_mill_198) (fun _ h9 => h9) rfl dX7_mill_124 ?_
      rw [← hQ]
      refine x_iret (v := x (5 + 1 + 1 + (tn m)) 2) hx hb hr hX hS hlocks dX7_mill_127 ?_
      show PT_X7_mill _ _ _ _ _ _ _
      unfold PT_X7_mill
      rw [if_pos c_3, if_neg (by decide), if_neg (by decide), if_neg (by decide), if_neg (by decide), if_neg (by decide), if_neg (by decide), if_neg (by decide), if_neg (by decide), if_pos rfl]
      exact ⟨rfl, rfl⟩
    by_cases c_16 : a = 9
    · subst c_16
      refine lv_tableIn (tgt := 128) (off := 103) hx hb dX7_mill_25 (by decide) (by decide) rfl (by decide) ?_
      refine lv_aload_n hx hb dX7_mill_128 rfl (lv_at hl 0 rfl) ?_
      refine x_get (w := (wX G B tt)) (a := 5 + 1 + 1 + (tn m)) (v := .int (x (5 + 1 + 1 + (tn m)) 3)) hx hb hts iX7_mill_X0 hown hK hX (rg_ltm rg5 (by omega)) (shX_mi (G := G) (B := B) rg5 (by omega)) rfl 3 (by decide) (hts _ kX7_mill_201) (fun _ h9 => h9) rfl dX7_mill_129 ?_
      rw [← hQ]
      refine x_iret (v := x (5 + 1 + 1 + (tn m)) 3) hx hb hr hX hS hlocks dX7_mill_132 ?_
      show PT_X7_mill _ _ _ _ _ _ _
      unfold PT_X7_mill
      rw [if_pos c_3, if_neg (by decide), if_neg (by decide), if_neg (by decide), if_neg (by decide), if_neg (by decide), if_neg (by decide), if_neg (by decide), if_neg (by decide), if_neg (by decide), if_pos rfl]
      exact ⟨rfl, rfl⟩
    refine lv_tableOut (tgt := 133) hx hb dX7_mill_25 (ts_out (fun k h1 h2 => by
      have h3 : k = 0 ∨ k = 1 ∨ k = 2 ∨ k = 3 ∨ k = 4 ∨ k = 5 ∨ k = 6 ∨ k = 7 ∨ k = 8 ∨ k = 9 := by omega
      rcases h3 with rfl | rfl | rfl | rfl | rfl | rfl | rfl | rfl | rfl | rfl
      · exact c_5
      · exact c_6
      · exact c_7
      · exact c_8
      · exact c_9
      · exact c_10
      · exact c_11
      · exact c_12
      · exact c_15
      · exact c_16
      )) (by decide) ?_
    refine lv_ldc (v := (-1000001)) hx hb hown (hts _ kX7_mill_59) dX7_mill_133 ?_
    rw [← hQ]
    refine x_iret (v := (-1000001)) hx hb hr hX hS hlocks dX7_mill_135 ?_
    show PT_X7_mill _ _ _ _ _ _ _
    unfold PT_X7_mill
    rw [if_pos c_3, if_neg c_5, if_neg c_6, if_neg c_7, if_neg c_8, if_neg c_9, if_neg c_10, if_neg c_11, if_neg c_12, if_neg c_15, if_neg c_16]
    exact ⟨rfl, rfl⟩
  · refine lv_ldc (v := (-1000001)) hx hb hown (hts _ kX7_mill_59) dX7_mill_11 ?_
    rw [← hQ]
    refine x_iret (v := (-1000001)) hx hb hr hX hS hlocks dX7_mill_13 ?_
    show PT_X7_mill _ _ _ _ _ _ _
    unfold PT_X7_mill
    rw [if_neg (ne_of_false c_3)]
    exact ⟨rfl, rfl⟩

def PT_X7_kind (x : Mem) (m : Int32) (n : Nat) (nw : Nat → Int32) (r : Int32) (u : Mem) : Prop := (if (decide (0 ≤ m) && decide (m < x 5 1)) = false then (r = (-1000001) ∧ u = x) else (r = x (5 + 1 + 1 + (tn m)) 1 ∧ u = x))
theorem kX7_kind_25 : (.fieldLink RX7 25 "WindTaken" "ridge" "LWindTaken$Ridge;" : Cond) ∈ wsX7_kind := by decide +kernel
theorem iX7_kind_X7 : ∀ w ∈ wsX70, w ∈ wsX7_kind := by decide +kernel
theorem kX7_kind_59 : (.constant RX7 59 (-1000001) : Cond) ∈ wsX7_kind := by decide +kernel
theorem kX7_kind_135 : (.fieldLink RX7 135 "WindTaken$Ridge" "mills" "[LWindTaken$Mill;" : Cond) ∈ wsX7_kind := by decide +kernel
theorem iX7_kind_X3 : ∀ w ∈ wsX30, w ∈ wsX7_kind := by decide +kernel
theorem kX7_kind_152 : (.fieldLink RX7 152 "WindTaken$Mill" "kind" "I" : Cond) ∈ wsX7_kind := by decide +kernel
theorem iX7_kind_X0 : ∀ w ∈ wsX00, w ∈ wsX7_kind := by decide +kernel
abbrev rmX7_kind : Room := { frames := 1, cells := 0, slots := 0, locals := 21 }
set_option maxHeartbeats 4000000 in
set_option maxRecDepth 100000 in
theorem c_X7_kind (l : Launch) (G : GG) (B : Nat) (tt : Nat → Nat) (hW : WOK (wX G B tt)) (x : Mem) (m : Int32) {n : Nat} {nw : Nat → Int32} (hR : RR n x 5 nw) : Met l yX7_kind wsX7_kind rmX7_kind (XP G (wX G B tt) [.ref (B + (0)), .int (m)] x) (va_Qi (fun r u => PT_X7_kind x m n nw r u) (XB G (wX G B tt)) (blkA B (B + 117))) 0 0 (blkA B (B + 117)) := by
  refine Met.ofW (cc := cX7_kind) (maxL := 2) (ret := (some .int)) (by decide) rfl ?_
  intro pp ee ss mm aa bb mt cd s1 Bd hml hv
  obtain ⟨hae, hX, hK, hE⟩ := hv
  have hx := Bd.exec
  have hb := Bd.bytes
  have hr := Bd.returns
  have hts := atoms_spec (ws := wsX7_kind) Bd.pre
  have hown : ss.vm.findClass RX7 = some mm.cls := findClass_of_methodNamed Bd.named
  have hlocks := Bd.notSynchronized
  have hS : va_S (blkA B (B + 117)) ss.heap ss.heap [] := va_S.rf
  have hl := lv_entry ([.ref (B + (0)), .int (m)]) (n := 2) (Nat.le_of_ble_eq_true rfl)
  subst hae
  rw [lg_entry_eq]
  generalize (lg_sl ([.ref (B + (0)), .int (m)]) ++ List.replicate (2 - (lg_sl ([.ref (B + (0)), .int (m)])).length) Slot.unset).toArray = ls at hl ⊢
  have hl : lv_has ls 2 [(0, .ref (B + (0))), (1, .int (m))] := hl
  generalize ([.ref (B + (0)), .int (m)] : List Value).toArray = aa at hts ⊢
  show W pp l ee rmX7_kind ss mm aa bb mt cd ss.heap [] 0 0 _ (F0 mm 0 ls [])
  generalize hQ : MQ bb (va_Qi (fun r u => PT_X7_kind x m n nw r u) (XB G (wX G B tt)) (blkA B (B + 117))) aa ss 0 0 (blkA B (B + 117)) = Q
  have hn8 := hR.1
  refine lv_aload_n hx hb dX7_kind_0 rfl (lv_at hl 0 rfl) ?_
  refine x_get (w := (wX G B tt)) (a := 0) (v := .ref (B + (5))) hx hb hts iX7_kind_X7 hown hK hX (Nat.le_of_ble_eq_true rfl) (shX_mn (G := G) (B := B)) rfl 2 (by decide) (hts _ kX7_kind_25) (fun _ h9 => h9) rfl dX7_kind_1 ?_
  refine lv_iload_n hx hb dX7_kind_4 rfl (lv_at hl 1 rfl) ?_
  refine x_ip (w := (wX G B tt)) (x := x) (v := bI (decide (0 ≤ m) && decide (m < x 5 1))) (va_runV (As := [.int (m)]) (rest := []) ⟨hx, hb, hml, hown, hts⟩ (c_X3_has (l := l) (G := G) (B := B) (tt := tt) (hW := hW) (x := x) (ρ := 5) (hρ := rg5) (v := m)) (cwV 1 hts gX7_kind_X3_has rfl rfl rfl (by decide +kernel) ⟨Nat.le_of_ble_eq_true rfl, Nat.le_of_ble_eq_true rfl⟩) (x_pv (w := (wX G B tt)) (a := 5) hW hX hK hE hS [.int (m)] (rg_lt rg5) (shX_ri (G := G) (B := B) rg5) rfl) rfl rfl hl.1 rfl (lv_room (Nat.le_of_ble_eq_true rfl)) dX7_kind_5 ⟨Nat.zero_le _, Nat.zero_le _⟩) hS (fun H_1 lo_2 hX hS => ?_)
  refine x_ifeq (tgt := 26) hx hb dX7_kind_8 (by decide) (fun c_3 => ?_) (fun c_3 => ?_)
  · refine lv_ldc (v := (-1000001)) hx hb hown (hts _ kX7_kind_59) dX7_kind_26 ?_
    rw [← hQ]
    refine x_iret (v := (-1000001)) hx hb hr hX hS hlocks dX7_kind_28 ?_
    show PT_X7_kind _ _ _ _ _ _
    unfold PT_X7_kind
    rw [if_pos c_3]
    exact ⟨rfl, rfl⟩
  · obtain ⟨hme, hmn⟩ := hasM hR.cnt hn8 c_3
    refine lv_aload_n hx hb dX7_kind_11 rfl (lv_at hl 0 rfl) ?_
    refine x_get (w := (wX G B tt)) (a := 0) (v := .ref (B + (5))) hx hb hts iX7_kind_X7 hown hK hX (Nat.le_of_ble_eq_true rfl) (shX_mn (G := G) (B := B)) rfl 2 (by decide) (hts _ kX7_kind_25) (fun _ h9 => h9) rfl dX7_kind_12 ?_
    refine x_get (w := (wX G B tt)) (a := 5) (v := .ref (B + (5 + 1))) hx hb hts iX7_kind_X3 hown hK hX (rg_lt rg5) (shX_ri (G := G) (B := B) rg5) rfl 0 (by decide) (hts _ kX7_kind_135) (fun _ h9 => h9) rfl dX7_kind_15 ?_
    refine lv_iload_n hx hb dX7_kind_18 rfl (lv_at hl 1 rfl) ?_
    refine x_aald (w := (wX G B tt)) (a := 5 + 1) (n := 8) (j := tn m) (q := B + (5 + 1 + 1 + (tn m))) (t0 := 2) hx hb hK hX (rg_lt1 rg5) (shX_ma (G := G) (B := B) (f := x (5 + 1)) rg5) rfl hme (by omega) (by decide) rfl dX7_kind_19 ?_
    refine x_get (w := (wX G B tt)) (a := 5 + 1 + 1 + (tn m)) (v := .int (x (5 + 1 + 1 + (tn m)) 1)) hx hb hts iX7_kind_X0 hown hK hX (rg_ltm rg5 (by omega)) (shX_mi (G := G) (B := B) rg5 (by omega)) rfl 1 (by decide) (hts _ kX7_kind_152) (fun _ h9 => h9) rfl dX7_kind_20 ?_
    refine lv_goto (tgt := 28) hx hb dX7_kind_23 (by decide) ?_
    rw [← hQ]
    refine x_iret (v := x (5 + 1 + 1 + (tn m)) 1) hx hb hr hX hS hlocks dX7_kind_28 ?_
    show PT_X7_kind _ _ _ _ _ _
    unfold PT_X7_kind
    rw [if_neg (ne_of_true c_3)]
    exact ⟨rfl, rfl⟩

def PT_X7_image (x : Mem) (k : Int32) (n : Nat) (nw : Nat → Int32) (r : Int32) (u : Mem) : Prop := (if (decide (((0 : Int32)) ≤ k) && decide (k ≤ ((1 : Int32)))) = true then (if (decide (x 5 1 = 0)) = false then (r = 1 ∧ RR n u (45 + 10 * tn k) nw ∧ ∀ a, ¬ (45 + 10 * tn k ≤ a ∧ a < 45 + 10 * tn k + 10) → u a = x a) else (r = (-1000002) ∧ u = x)) else (r = (-1000001) ∧ u = x))
theorem kX7_image_25 : (.fieldLink RX7 25 "WindTaken" "ridge" "LWindTaken$Ridge;" : Cond) ∈ wsX7_image := by decide +kernel
theorem iX7_image_X7 : ∀ w ∈ wsX70, w ∈ wsX7_image := by decide +kernel
theorem kX7_image_32 : (.fieldLink RX7 32 "WindTaken" "images" "[LWindTaken$Ridge;" : Cond) ∈ wsX7_image := by decide +kernel
theorem kX7_image_155 : (.constant RX7 155 (-1000002) : Cond) ∈ wsX7_image := by decide +kernel
theorem kX7_image_59 : (.constant RX7 59 (-1000001) : Cond) ∈ wsX7_image := by decide +kernel
abbrev rmX7_image : Room := { frames := 2, cells := 0, slots := 0, locals := 43 }
set_option maxHeartbeats 4000000 in
set_option maxRecDepth 100000 in
theorem c_X7_image (l : Launch) (G : GG) (B : Nat) (tt : Nat → Nat) (hW : WOK (wX G B tt)) (x : Mem) (k : Int32) {n : Nat} {nw : Nat → Int32} (hR : RR n x 5 nw) : Met l yX7_image wsX7_image rmX7_image (XP G (wX G B tt) [.ref (B + (0)), .int (k)] x) (va_Qi (fun r u => PT_X7_image x k n nw r u) (XB G (wX G B tt)) (blkA B (B + 117))) 0 0 (blkA B (B + 117)) := by
  refine Met.ofW (cc := cX7_image) (maxL := 2) (ret := (some .int)) (by decide) rfl ?_
  intro pp ee ss mm aa bb mt cd s1 Bd hml hv
  obtain ⟨hae, hX, hK, hE⟩ := hv
  have hx := Bd.exec
  have hb := Bd.bytes
  have hr := Bd.returns
  have hts := atoms_spec (ws := wsX7_image) Bd.pre
  have hown : ss.vm.findClass RX7 = some mm.cls := findClass_of_methodNamed Bd.named
  have hlocks := Bd.notSynchronized
  have hS : va_S (blkA B (B + 117)) ss.heap ss.heap [] := va_S.rf
  have hl := lv_entry ([.ref (B + (0)), .int (k)]) (n := 2) (Nat.le_of_ble_eq_true rfl)
  subst hae
  rw [lg_entry_eq]
  generalize (lg_sl ([.ref (B + (0)), .int (k)]) ++ List.replicate (2 - (lg_sl ([.ref (B + (0)), .int (k)])).length) Slot.unset).toArray = ls at hl ⊢
  have hl : lv_has ls 2 [(0, .ref (B + (0))), (1, .int (k))] := hl
  generalize ([.ref (B + (0)), .int (k)] : List Value).toArray = aa at hts ⊢
  show W pp l ee rmX7_image ss mm aa bb mt cd ss.heap [] 0 0 _ (F0 mm 0 ls [])
  generalize hQ : MQ bb (va_Qi (fun r u => PT_X7_image x k n nw r u) (XB G (wX G B tt)) (blkA B (B + 117))) aa ss 0 0 (blkA B (B + 117)) = Q
  have hn8 := hR.1
  refine lv_iload_n hx hb dX7_image_0 rfl (lv_at hl 1 rfl) ?_
  refine lv_iconst (v := 0) hx hb dX7_image_1 (by decide) ?_
  refine lv_iconst (v := 1) hx hb dX7_image_2 (by decide) ?_
  refine x_ip (w := (wX G B tt)) (x := x) (v := bI (decide (((0 : Int32)) ≤ k) && decide (k ≤ ((1 : Int32))))) (va_runS (As := [.int (k), .int (0), .int (1)]) (rest := []) ⟨hx, hb, hml, hown, hts⟩ (c_X7_isWithin (l := l) (G := G) (B := B) (tt := tt) (hW := hW) (x := x) (v := k) (lo := 0) (hi := 1)) (va_cwS 3 hts gX7_image_X7_isWithin rfl rfl rfl (by decide +kernel) ⟨Nat.le_of_ble_eq_true rfl, Nat.le_of_ble_eq_true rfl⟩) (x_ps (w := (wX G B tt)) hW hX hK hE hS [.int (k), .int (0), .int (1)]) rfl rfl hl.1 rfl (lv_room (Nat.le_of_ble_eq_true rfl)) dX7_image_3 ⟨Nat.zero_le _, Nat.zero_le _⟩) hS (fun H_1 lo_2 hX hS => ?_)
  refine x_ifne (tgt := 12) hx hb dX7_image_6 (by decide) (fun c_3 => ?_) (fun c_3 => ?_)
  · obtain ⟨hke, hk1⟩ := within_nI (k := 1) rfl (by decide) c_3
    refine lv_aload_n hx hb dX7_image_12 rfl (lv_at hl 0 rfl) ?_
    refine x_get (w := (wX G B tt)) (a := 0) (v := .ref (B + (5))) hx hb hts iX7_image_X7 hown hK hX (Nat.le_of_ble_eq_true rfl) (shX_mn (G := G) (B := B)) rfl 2 (by decide) (hts _ kX7_image_25) (fun _ h9 => h9) rfl dX7_image_13 ?_
    refine x_ip (w := (wX G B tt)) (x := x) (v := bI (decide (x 5 1 = 0))) (va_runV (As := []) (rest := []) ⟨hx, hb, hml, hown, hts⟩ (c_X3_isNone (l := l) (G := G) (B := B) (tt := tt) (hW := hW) (x := x) (ρ := 5) (hρ := rg5)) (cwV 0 hts gX7_image_X3_isNone rfl rfl rfl (by decide +kernel) ⟨Nat.le_of_ble_eq_true rfl, Nat.le_of_ble_eq_true rfl⟩) (x_pv (w := (wX G B tt)) (a := 5) hW hX hK hE hS [] (rg_lt rg5) (shX_ri (G := G) (B := B) rg5) rfl) rfl rfl hl.1 rfl (lv_room (Nat.le_of_ble_eq_true rfl)) dX7_image_16 ⟨Nat.zero_le _, Nat.zero_le _⟩) hS (fun H_4 lo_5 hX hS => ?_)
    refine x_ifeq (tgt := 25) hx hb dX7_image_19 (by decide) (fun c_6 => ?_) (fun c_6 => ?_)
    · refine lv_aload_n hx hb dX7_image_25 rfl (lv_at hl 0 rfl) ?_
      refine x_get (w := (wX G B tt)) (a := 0) (v := .ref (B + (25))) hx hb hts iX7_image_X7 hown hK hX (Nat.le_of_ble_eq_true rfl) (shX_mn (G := G) (B := B)) rfl 4 (by decide) (hts _ kX7_image_32) (fun _ h9 => h9) rfl dX7_image_26 ?_
      refine lv_iload_n hx hb dX7_image_29 rfl (lv_at hl 1 rfl) ?_
      refine x_aald (w := (wX G B tt)) (a := 25) (n := 2) (j := tn k) (q := B + (45 + 10 * (tn k))) (t0 := 4) hx hb hK hX (Nat.le_of_ble_eq_true rfl) (shX_ia (G := G) (B := B) (f := x (25))) rfl hke (by omega) (by decide) rfl dX7_image_30 ?_
      refine lv_aload_n hx hb dX7_image_31 rfl (lv_at hl 0 rfl) ?_
      refine x_get (w := (wX G B tt)) (a := 0) (v := .ref (B + (5))) hx hb hts iX7_image_X7 hown hK hX (Nat.le_of_ble_eq_true rfl) (shX_mn (G := G) (B := B)) rfl 2 (by decide) (hts _ kX7_image_25) (fun _ h9 => h9) rfl dX7_image_32 ?_
      refine x_vf (w := (wX G B tt)) (va_runV (As := [.ref (B + (5))]) (rest := []) ⟨hx, hb, hml, hown, hts⟩ (c_X3_become (l := l) (G := G) (B := B) (tt := tt) (hW := hW) (x := x) (ρ := 45 + 10 * (tn k)) (hρ := (rgI (by omega))) (σ := 5) (hσ := rg5) (n := n) (nw := nw) (hR := hR) (hne := (by omega))) (cwV 1 hts gX7_image_X3_become rfl rfl rfl (by decide +kernel) ⟨Nat.le_of_ble_eq_true rfl, Nat.le_of_ble_eq_true rfl⟩) (x_pv (w := (wX G B tt)) (a := 45 + 10 * (tn k)) hW hX hK hE hS [.ref (B + (5))] (rg_lt (rgI (by omega))) (shX_ri (G := G) (B := B) (rgI (by omega))) rfl) rfl rfl hl.1 rfl (lv_room (Nat.le_of_ble_eq_true rfl)) dX7_image_35 ⟨Nat.zero_le _, Nat.zero_le _⟩) hS (fun x_9 H_7 lo_8 h_35 hX hS => ?_)
      try dsimp only at h_35
      refine lv_iconst (v := 1) hx hb dX7_image_38 (by decide) ?_
      rw [← hQ]
      refine x_iret (v := 1) hx hb hr hX hS hlocks dX7_image_39 ?_
      show PT_X7_image _ _ _ _ _ _
      unfold PT_X7_image
      rw [if_pos c_3, if_pos c_6]
      exact ⟨rfl, h_35⟩
    · refine lv_ldc (v := (-1000002)) hx hb hown (hts _ kX7_image_155) dX7_image_22 ?_
      rw [← hQ]
      refine x_iret (v := (-1000002)) hx hb hr hX hS hlocks dX7_image_24 ?_
      show PT_X7_image _ _ _ _ _ _
      unfold PT_X7_image
      rw [if_pos c_3, if_neg (ne_of_true c_6)]
      exact ⟨rfl, rfl⟩
  · refine lv_ldc (v := (-1000001)) hx hb hown (hts _ kX7_image_59) dX7_image_9 ?_
    rw [← hQ]
    refine x_iret (v := (-1000001)) hx hb hr hX hS hlocks dX7_image_11 ?_
    show PT_X7_image _ _ _ _ _ _
    unfold PT_X7_image
    rw [if_neg (ne_of_false c_3)]
    exact ⟨rfl, rfl⟩

def PT_X7_restore (x : Mem) (k : Int32) (nk : Nat → Nat) (nwk : Nat → Nat → Int32) (r : Int32) (u : Mem) : Prop := (if (decide (((0 : Int32)) ≤ k) && decide (k ≤ ((1 : Int32)))) = true then (if (decide (x (45 + 10 * (tn k)) 1 = 0)) = false then (r = 1 ∧ RR (nk (tn k)) u 5 (nwk (tn k)) ∧ ∀ a, ¬ (5 ≤ a ∧ a < 5 + 10) → u a = x a) else (r = (-1000002) ∧ u = x)) else (r = (-1000001) ∧ u = x))
theorem kX7_restore_32 : (.fieldLink RX7 32 "WindTaken" "images" "[LWindTaken$Ridge;" : Cond) ∈ wsX7_restore := by decide +kernel
theorem iX7_restore_X7 : ∀ w ∈ wsX70, w ∈ wsX7_restore := by decide +kernel
theorem kX7_restore_25 : (.fieldLink RX7 25 "WindTaken" "ridge" "LWindTaken$Ridge;" : Cond) ∈ wsX7_restore := by decide +kernel
theorem kX7_restore_155 : (.constant RX7 155 (-1000002) : Cond) ∈ wsX7_restore := by decide +kernel
theorem kX7_restore_59 : (.constant RX7 59 (-1000001) : Cond) ∈ wsX7_restore := by decide +kernel
abbrev rmX7_restore : Room := { frames := 2, cells := 0, slots := 0, locals := 43 }
set_option maxHeartbeats 4000000 in
set_option maxRecDepth 100000 in
theorem c_X7_restore (l : Launch) (G : GG) (B : Nat) (tt : Nat → Nat) (hW : WOK (wX G B tt)) (x : Mem) (k : Int32) {nk : Nat → Nat} {nwk : Nat → Nat → Int32} (hRk : ∀ k, k < 2 → RR (nk k) x (45 + 10 * k) (nwk k)) : Met l yX7_restore wsX7_restore rmX7_restore (XP G (wX G B tt) [.ref (B + (0)), .int (k)] x) (va_Qi (fun r u => PT_X7_restore x k nk nwk r u) (XB G (wX G B tt)) (blkA B (B + 117))) 0 0 (blkA B (B + 117)) := by
  refine Met.ofW (cc := cX7_restore) (maxL := 2) (ret := (some .int)) (by decide) rfl ?_
  intro pp ee ss mm aa bb mt cd s1 Bd hml hv
  obtain ⟨hae, hX, hK, hE⟩ := hv
  have hx := Bd.exec
  have hb := Bd.bytes
  have hr := Bd.returns
  have hts := atoms_spec (ws := wsX7_restore) Bd.pre
  have hown : ss.vm.findClass RX7 = some mm.cls := findClass_of_methodNamed Bd.named
  have hlocks := Bd.notSynchronized
  have hS : va_S (blkA B (B + 117)) ss.heap ss.heap [] := va_S.rf
  have hl := lv_entry ([.ref (B + (0)), .int (k)]) (n := 2) (Nat.le_of_ble_eq_true rfl)
  subst hae
  rw [lg_entry_eq]
  generalize (lg_sl ([.ref (B + (0)), .int (k)]) ++ List.replicate (2 - (lg_sl ([.ref (B + (0)), .int (k)])).length) Slot.unset).toArray = ls at hl ⊢
  have hl : lv_has ls 2 [(0, .ref (B + (0))), (1, .int (k))] := hl
  generalize ([.ref (B + (0)), .int (k)] : List Value).toArray = aa at hts ⊢
  show W pp l ee rmX7_restore ss mm aa bb mt cd ss.heap [] 0 0 _ (F0 mm 0 ls [])
  generalize hQ : MQ bb (va_Qi (fun r u => PT_X7_restore x k nk nwk r u) (XB G (wX G B tt)) (blkA B (B + 117))) aa ss 0 0 (blkA B (B + 117)) = Q
  refine lv_iload_n hx hb dX7_restore_0 rfl (lv_at hl 1 rfl) ?_
  refine lv_iconst (v := 0) hx hb dX7_restore_1 (by decide) ?_
  refine lv_iconst (v := 1) hx hb dX7_restore_2 (by decide) ?_
  refine x_ip (w := (wX G B tt)) (x := x) (v := bI (decide (((0 : Int32)) ≤ k) && decide (k ≤ ((1 : Int32))))) (va_runS (As := [.int (k), .int (0), .int (1)]) (rest := []) ⟨hx, hb, hml, hown, hts⟩ (c_X7_isWithin (l := l) (G := G) (B := B) (tt := tt) (hW := hW) (x := x) (v := k) (lo := 0) (hi := 1)) (va_cwS 3 hts gX7_restore_X7_isWithin rfl rfl rfl (by decide +kernel) ⟨Nat.le_of_ble_eq_true rfl, Nat.le_of_ble_eq_true rfl⟩) (x_ps (w := (wX G B tt)) hW hX hK hE hS [.int (k), .int (0), .int (1)]) rfl rfl hl.1 rfl (lv_room (Nat.le_of_ble_eq_true rfl)) dX7_restore_3 ⟨Nat.zero_le _, Nat.zero_le _⟩) hS (fun H_1 lo_2 hX hS => ?_)
  refine x_ifne (tgt := 12) hx hb dX7_restore_6 (by decide) (fun c_3 => ?_) (fun c_3 => ?_)
  · obtain ⟨hke, hk1⟩ := within_nI (k := 1) rfl (by decide) c_3
    refine lv_aload_n hx hb dX7_restore_12 rfl (lv_at hl 0 rfl) ?_
    refine x_get (w := (wX G B tt)) (a := 0) (v := .ref (B + (25))) hx hb hts iX7_restore_X7 hown hK hX (Nat.le_of_ble_eq_true rfl) (shX_mn (G := G) (B := B)) rfl 4 (by decide) (hts _ kX7_restore_32) (fun _ h9 => h9) rfl dX7_restore_13 ?_
    refine lv_iload_n hx hb dX7_restore_16 rfl (lv_at hl 1 rfl) ?_
    refine x_aald (w := (wX G B tt)) (a := 25) (n := 2) (j := tn k) (q := B + (45 + 10 * (tn k))) (t0 := 4) hx hb hK hX (Nat.le_of_ble_eq_true rfl) (shX_ia (G := G) (B := B) (f := x (25))) rfl hke (by omega) (by decide) rfl dX7_restore_17 ?_
    refine x_ip (w := (wX G B tt)) (x := x) (v := bI (decide (x (45 + 10 * (tn k)) 1 = 0))) (va_runV (As := []) (rest := []) ⟨hx, hb, hml, hown, hts⟩ (c_X3_isNone (l := l) (G := G) (B := B) (tt := tt) (hW := hW) (x := x) (ρ := 45 + 10 * (tn k)) (hρ := (rgI (by omega)))) (cwV 0 hts gX7_restore_X3_isNone rfl rfl rfl (by decide +kernel) ⟨Nat.le_of_ble_eq_true rfl, Nat.le_of_ble_eq_true rfl⟩) (x_pv (w := (wX G B tt)) (a := 45 + 10 * (tn k)) hW hX hK hE hS [] (rg_lt (rgI (by omega))) (shX_ri (G := G) (B := B) (rgI (by omega))) rfl) rfl rfl hl.1 rfl (lv_room (Nat.le_of_ble_eq_true rfl)) dX7_restore_18 ⟨Nat.zero_le _, Nat.zero_le _⟩) hS (fun H_4 lo_5 hX hS => ?_)
    refine x_ifeq (tgt := 27) hx hb dX7_restore_21 (by decide) (fun c_6 => ?_) (fun c_6 => ?_)
    · refine lv_aload_n hx hb dX7_restore_27 rfl (lv_at hl 0 rfl) ?_
      refine x_get (w := (wX G B tt)) (a := 0) (v := .ref (B + (5))) hx hb hts iX7_restore_X7 hown hK hX (Nat.le_of_ble_eq_true rfl) (shX_mn (G := G) (B := B)) rfl 2 (by decide) (hts _ kX7_restore_25) (fun _ h9 => h9) rfl dX7_restore_28 ?_
      refine lv_aload_n hx hb dX7_restore_31 rfl (lv_at hl 0 rfl) ?_
      refine x_get (w := (wX G B tt)) (a := 0) (v := .ref (B + (25))) hx hb hts iX7_restore_X7 hown hK hX (Nat.le_of_ble_eq_true rfl) (shX_mn (G := G) (B := B)) rfl 4 (by decide) (hts _ kX7_restore_32) (fun _ h9 => h9) rfl dX7_restore_32 ?_
      refine lv_iload_n hx hb dX7_restore_35 rfl (lv_at hl 1 rfl) ?_
      refine x_aald (w := (wX G B tt)) (a := 25) (n := 2) (j := tn k) (q := B + (45 + 10 * (tn k))) (t0 := 4) hx hb hK hX (Nat.le_of_ble_eq_true rfl) (shX_ia (G := G) (B := B) (f := x (25))) rfl hke (by omega) (by decide) rfl dX7_restore_36 ?_
      refine x_vf (w := (wX G B tt)) (va_runV (As := [.ref (B + (45 + 10 * (tn k)))]) (rest := []) ⟨hx, hb, hml, hown, hts⟩ (c_X3_become (l := l) (G := G) (B := B) (tt := tt) (hW := hW) (x := x) (ρ := 5) (hρ := rg5) (σ := 45 + 10 * (tn k)) (hσ := (rgI (by omega))) (n := (nk (tn k))) (nw := (nwk (tn k))) (hR := (hRk (tn k) (by omega))) (hne := (by omega))) (cwV 1 hts gX7_restore_X3_become rfl rfl rfl (by decide +kernel) ⟨Nat.le_of_ble_eq_true rfl, Nat.le_of_ble_eq_true rfl⟩) (x_pv (w := (wX G B tt)) (a := 5) hW hX hK hE hS [.ref (B + (45 + 10 * (tn k)))] (rg_lt rg5) (shX_ri (G := G) (B := B) rg5) rfl) rfl rfl hl.1 rfl (lv_room (Nat.le_of_ble_eq_true rfl)) dX7_restore_37 ⟨Nat.zero_le _, Nat.zero_le _⟩) hS (fun x_9 H_7 lo_8 h_37 hX hS => ?_)
      try dsimp only at h_37
      refine lv_iconst (v := 1) hx hb dX7_restore_40 (by decide) ?_
      rw [← hQ]
      refine x_iret (v := 1) hx hb hr hX hS hlocks dX7_restore_41 ?_
      show PT_X7_restore _ _ _ _ _ _
      unfold PT_X7_restore
      rw [if_pos c_3, if_pos c_6]
      exact ⟨rfl, h_37⟩
    · refine lv_ldc (v := (-1000002)) hx hb hown (hts _ kX7_restore_155) dX7_restore_24 ?_
      rw [← hQ]
      refine x_iret (v := (-1000002)) hx hb hr hX hS hlocks dX7_restore_26 ?_
      show PT_X7_restore _ _ _ _ _ _
      unfold PT_X7_restore
      rw [if_pos c_3, if_neg (ne_of_true c_6)]
      exact ⟨rfl, rfl⟩
  · refine lv_ldc (v := (-1000001)) hx hb hown (hts _ kX7_restore_59) dX7_restore_9 ?_
    rw [← hQ]
    refine x_iret (v := (-1000001)) hx hb hr hX hS hlocks dX7_restore_11 ?_
    show PT_X7_restore _ _ _ _ _ _
    unfold PT_X7_restore
    rw [if_neg (ne_of_false c_3)]
    exact ⟨rfl, rfl⟩

def PT_X7_trace (x : Mem) (i : Int32) (k : Nat) (r : Int32) (u : Mem) : Prop := (if i < 0 then (r = (-1000000) ∧ u = x) else (if (x (27) 1) ≤ i then (r = (-1000000) ∧ u = x) else (r = x (28) (tn i) ∧ u = x)))
theorem kX7_trace_224 : (.constant RX7 224 (-1000000) : Cond) ∈ wsX7_trace := by decide +kernel
theorem kX7_trace_45 : (.fieldLink RX7 45 "WindTaken" "trace" "LWindTaken$Trace;" : Cond) ∈ wsX7_trace := by decide +kernel
theorem iX7_trace_X7 : ∀ w ∈ wsX70, w ∈ wsX7_trace := by decide +kernel
theorem kX7_trace_269 : (.fieldLink RX7 269 "WindTaken$Trace" "length" "I" : Cond) ∈ wsX7_trace := by decide +kernel
theorem iX7_trace_X6 : ∀ w ∈ wsX60, w ∈ wsX7_trace := by decide +kernel
theorem kX7_trace_281 : (.fieldLink RX7 281 "WindTaken$Trace" "numbers" "[I" : Cond) ∈ wsX7_trace := by decide +kernel
abbrev rmX7_trace : Room := { frames := 0, cells := 0, slots := 0, locals := 0 }
set_option maxHeartbeats 4000000 in
set_option maxRecDepth 100000 in
theorem c_X7_trace (l : Launch) (G : GG) (B : Nat) (tt : Nat → Nat) (hW : WOK (wX G B tt)) (x : Mem) (i : Int32) {k : Nat} (hk : x 27 1 = nI k) (hk16 : k ≤ 16) : Met l yX7_trace wsX7_trace rmX7_trace (XP G (wX G B tt) [.ref (B + (0)), .int (i)] x) (va_Qi (fun r u => PT_X7_trace x i k r u) (XB G (wX G B tt)) (blkA B (B + 117))) 0 0 (blkA B (B + 117)) := by
  refine Met.ofW (cc := cX7_trace) (maxL := 2) (ret := (some .int)) (by decide) rfl ?_
  intro pp ee ss mm aa bb mt cd s1 Bd hml hv
  obtain ⟨hae, hX, hK, hE⟩ := hv
  have hx := Bd.exec
  have hb := Bd.bytes
  have hr := Bd.returns
  have hts := atoms_spec (ws := wsX7_trace) Bd.pre
  have hown : ss.vm.findClass RX7 = some mm.cls := findClass_of_methodNamed Bd.named
  have hlocks := Bd.notSynchronized
  have hS : va_S (blkA B (B + 117)) ss.heap ss.heap [] := va_S.rf
  have hl := lv_entry ([.ref (B + (0)), .int (i)]) (n := 2) (Nat.le_of_ble_eq_true rfl)
  subst hae
  rw [lg_entry_eq]
  generalize (lg_sl ([.ref (B + (0)), .int (i)]) ++ List.replicate (2 - (lg_sl ([.ref (B + (0)), .int (i)])).length) Slot.unset).toArray = ls at hl ⊢
  have hl : lv_has ls 2 [(0, .ref (B + (0))), (1, .int (i))] := hl
  generalize ([.ref (B + (0)), .int (i)] : List Value).toArray = aa at hts ⊢
  show W pp l ee rmX7_trace ss mm aa bb mt cd ss.heap [] 0 0 _ (F0 mm 0 ls [])
  generalize hQ : MQ bb (va_Qi (fun r u => PT_X7_trace x i k r u) (XB G (wX G B tt)) (blkA B (B + 117))) aa ss 0 0 (blkA B (B + 117)) = Q
  refine lv_iload_n hx hb dX7_trace_0 rfl (lv_at hl 1 rfl) ?_
  refine lv_if_lt (tgt := 27) hx hb dX7_trace_1 (by decide) (fun c_1 => ?_) (fun c_1 => ?_)
  · refine lv_ldc (v := (-1000000)) hx hb hown (hts _ kX7_trace_224) dX7_trace_27 ?_
    rw [← hQ]
    refine x_iret (v := (-1000000)) hx hb hr hX hS hlocks dX7_trace_29 ?_
    show PT_X7_trace _ _ _ _ _
    unfold PT_X7_trace
    rw [if_pos c_1]
    exact ⟨rfl, rfl⟩
  · refine lv_iload_n hx hb dX7_trace_4 rfl (lv_at hl 1 rfl) ?_
    refine lv_aload_n hx hb dX7_trace_5 rfl (lv_at hl 0 rfl) ?_
    refine x_get (w := (wX G B tt)) (a := 0) (v := .ref (B + (27))) hx hb hts iX7_trace_X7 hown hK hX (Nat.le_of_ble_eq_true rfl) (shX_mn (G := G) (B := B)) rfl 6 (by decide) (hts _ kX7_trace_45) (fun _ h9 => h9) rfl dX7_trace_6 ?_
    refine x_get (w := (wX G B tt)) (a := 27) (v := .int (x (27) 1)) hx hb hts iX7_trace_X6 hown hK hX (Nat.le_of_ble_eq_true rfl) (shX_tr (G := G) (B := B)) rfl 1 (by decide) (hts _ kX7_trace_269) (fun _ h9 => h9) rfl dX7_trace_9 ?_
    refine lv_icmp_ge (tgt := 27) hx hb dX7_trace_12 (by decide) (fun c_2 => ?_) (fun c_2 => ?_)
    · refine lv_ldc (v := (-1000000)) hx hb hown (hts _ kX7_trace_224) dX7_trace_27 ?_
      rw [← hQ]
      refine x_iret (v := (-1000000)) hx hb hr hX hS hlocks dX7_trace_29 ?_
      show PT_X7_trace _ _ _ _ _
      unfold PT_X7_trace
      rw [if_neg c_1, if_pos c_2]
      exact ⟨rfl, rfl⟩
    · obtain ⟨hie, hi9⟩ := ixN c_1 c_2 hk (by omega)
      refine lv_aload_n hx hb dX7_trace_15 rfl (lv_at hl 0 rfl) ?_
      refine x_get (w := (wX G B tt)) (a := 0) (v := .ref (B + (27))) hx hb hts iX7_trace_X7 hown hK hX (Nat.le_of_ble_eq_true rfl) (shX_mn (G := G) (B := B)) rfl 6 (by decide) (hts _ kX7_trace_45) (fun _ h9 => h9) rfl dX7_trace_16 ?_
      refine x_get (w := (wX G B tt)) (a := 27) (v := .ref (B + (28))) hx hb hts iX7_trace_X6 hown hK hX (Nat.le_of_ble_eq_true rfl) (shX_tr (G := G) (B := B)) rfl 0 (by decide) (hts _ kX7_trace_281) (fun _ h9 => h9) rfl dX7_trace_19 ?_
      refine lv_iload_n hx hb dX7_trace_22 rfl (lv_at hl 1 rfl) ?_
      refine x_iald (w := (wX G B tt)) (a := 28) (n := 16) (j := tn i) hx hb hK hX (Nat.le_of_ble_eq_true rfl) (shX_tn (G := G) (B := B) (f := x (28))) hie (by omega) (by decide) dX7_trace_23 ?_
      refine lv_goto (tgt := 29) hx hb dX7_trace_24 (by decide) ?_
      rw [← hQ]
      refine x_iret (v := x (28) (tn i)) hx hb hr hX hS hlocks dX7_trace_29 ?_
      show PT_X7_trace _ _ _ _ _
      unfold PT_X7_trace
      rw [if_neg c_1, if_neg c_2]
      exact ⟨rfl, rfl⟩
