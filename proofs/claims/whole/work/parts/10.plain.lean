abbrev rmX7_isWithin : Room := { frames := 0, cells := 0, slots := 0, locals := 0 }
set_option maxHeartbeats 4000000 in
set_option maxRecDepth 100000 in
theorem c_X7_isWithin (l : Launch) (G : GG) (B : Nat) (tt : Nat → Nat) (hW : WOK (wX G B tt)) (x : Mem) (v : Int32) (lo : Int32) (hi : Int32) : Met l yX7_isWithin wsX7_isWithin rmX7_isWithin (XP G (wX G B tt) [.int (v), .int (lo), .int (hi)] x) (va_Qi (fun r u => r = bI (decide (lo ≤ v) && decide (v ≤ hi)) ∧ u = x) (XB G (wX G B tt)) (blkA B (B + 117))) 0 0 (blkA B (B + 117)) := by
  refine Met.ofW (cc := cX7_isWithin) (maxL := 3) (ret := (some .boolean)) (by decide) rfl ?_
  intro pp ee ss mm aa bb mt cd s1 Bd hml hv
  obtain ⟨hae, hX, hK, hE⟩ := hv
  have hx := Bd.exec
  have hb := Bd.bytes
  have hr := Bd.returns
  have hts := atoms_spec (ws := wsX7_isWithin) Bd.pre
  have hown : ss.vm.findClass RX7 = some mm.cls := findClass_of_methodNamed Bd.named
  have hlocks := Bd.notSynchronized
  have hS : va_S (blkA B (B + 117)) ss.heap ss.heap [] := va_S.rf
  have hl := lv_entry ([.int (v), .int (lo), .int (hi)]) (n := 3) (Nat.le_of_ble_eq_true rfl)
  subst hae
  rw [lg_entry_eq]
  generalize (lg_sl ([.int (v), .int (lo), .int (hi)]) ++ List.replicate (3 - (lg_sl ([.int (v), .int (lo), .int (hi)])).length) Slot.unset).toArray = ls at hl ⊢
  have hl : lv_has ls 3 [(0, .int (v)), (1, .int (lo)), (2, .int (hi))] := hl
  generalize ([.int (v), .int (lo), .int (hi)] : List Value).toArray = aa at hts ⊢
  show W pp l ee rmX7_isWithin ss mm aa bb mt cd ss.heap [] 0 0 _ (F0 mm 0 ls [])
  generalize hQ : MQ bb (va_Qi (fun r u => r = bI (decide (lo ≤ v) && decide (v ≤ hi)) ∧ u = x) (XB G (wX G B tt)) (blkA B (B + 117))) aa ss 0 0 (blkA B (B + 117)) = Q
  refine lv_iload_n hx hb dX7_isWithin_0 rfl (lv_at hl 0 rfl) ?_
  refine lv_iload_n hx hb dX7_isWithin_1 rfl (lv_at hl 1 rfl) ?_
  have kJ_3 : ∀ (v_2 : Bool) (_ : v_2 = (if v < lo then false else (if hi < v then false else true))) (H_4 : Heap) (lo_5 : List Loc) (_ : MR G (wX G B tt) x H_4) (_ : va_S (blkA B (B + 117)) ss.heap H_4 lo_5) (ls : Array Slot) (_ : lv_has ls 3 [(0, .int (v)), (1, .int (lo)), (2, .int (hi))]), W pp l ee rmX7_isWithin ss mm aa bb mt cd H_4 lo_5 0 0 Q (F0 mm 15 ls [.int (bI (v_2))]) := by
    intro v_2 ev_2 H_4 lo_5 hX hS ls hl
    rw [← hQ]
    refine x_zret (v := bI (v_2)) (ty := .boolean) hx hb hr (bI_nar _) hX hS hlocks dX7_isWithin_15 ?_
    refine ⟨?_, rfl⟩
    first | rfl | simp [bI, ev_2]
  refine lv_icmp_lt (tgt := 14) hx hb dX7_isWithin_2 (by decide) (fun c_1 => ?_) (fun c_1 => ?_)
  · refine lv_iconst (v := 0) hx hb dX7_isWithin_14 (by decide) ?_
    exact kJ_3 (false) (by rw [if_pos c_1]) _ _ hX hS ls (lv_sub hl [0, 1, 2] rfl)
  · refine lv_iload_n hx hb dX7_isWithin_5 rfl (lv_at hl 0 rfl) ?_
    refine lv_iload_n hx hb dX7_isWithin_6 rfl (lv_at hl 2 rfl) ?_
    refine lv_icmp_gt (tgt := 14) hx hb dX7_isWithin_7 (by decide) (fun c_6 => ?_) (fun c_6 => ?_)
    · refine lv_iconst (v := 0) hx hb dX7_isWithin_14 (by decide) ?_
      exact kJ_3 (false) (by rw [if_neg c_1, if_pos c_6]) _ _ hX hS ls (lv_sub hl [0, 1, 2] rfl)
    · refine lv_iconst (v := 1) hx hb dX7_isWithin_10 (by decide) ?_
      refine lv_goto (tgt := 15) hx hb dX7_isWithin_11 (by decide) ?_
      exact kJ_3 (true) (by rw [if_neg c_1, if_neg c_6]) _ _ hX hS ls (lv_sub hl [0, 1, 2] rfl)

abbrev rmX7_isRow : Room := { frames := 1, cells := 0, slots := 0, locals := 22 }
set_option maxHeartbeats 4000000 in
set_option maxRecDepth 100000 in
theorem c_X7_isRow (l : Launch) (G : GG) (B : Nat) (tt : Nat → Nat) (hW : WOK (wX G B tt)) (x : Mem) (v : Int32) : Met l yX7_isRow wsX7_isRow rmX7_isRow (XP G (wX G B tt) [.int (v)] x) (va_Qi (fun r u => r = bI (decide (0 ≤ v) && decide (v ≤ 7)) ∧ u = x) (XB G (wX G B tt)) (blkA B (B + 117))) 0 0 (blkA B (B + 117)) := by
  refine Met.ofW (cc := cX7_isRow) (maxL := 1) (ret := (some .boolean)) (by decide) rfl ?_
  intro pp ee ss mm aa bb mt cd s1 Bd hml hv
  obtain ⟨hae, hX, hK, hE⟩ := hv
  have hx := Bd.exec
  have hb := Bd.bytes
  have hr := Bd.returns
  have hts := atoms_spec (ws := wsX7_isRow) Bd.pre
  have hown : ss.vm.findClass RX7 = some mm.cls := findClass_of_methodNamed Bd.named
  have hlocks := Bd.notSynchronized
  have hS : va_S (blkA B (B + 117)) ss.heap ss.heap [] := va_S.rf
  have hl := lv_entry ([.int (v)]) (n := 1) (Nat.le_of_ble_eq_true rfl)
  subst hae
  rw [lg_entry_eq]
  generalize (lg_sl ([.int (v)]) ++ List.replicate (1 - (lg_sl ([.int (v)])).length) Slot.unset).toArray = ls at hl ⊢
  have hl : lv_has ls 1 [(0, .int (v))] := hl
  generalize ([.int (v)] : List Value).toArray = aa at hts ⊢
  show W pp l ee rmX7_isRow ss mm aa bb mt cd ss.heap [] 0 0 _ (F0 mm 0 ls [])
  generalize hQ : MQ bb (va_Qi (fun r u => r = bI (decide (0 ≤ v) && decide (v ≤ 7)) ∧ u = x) (XB G (wX G B tt)) (blkA B (B + 117))) aa ss 0 0 (blkA B (B + 117)) = Q
  refine lv_iload_n hx hb dX7_isRow_0 rfl (lv_at hl 0 rfl) ?_
  refine lv_iconst (v := 0) hx hb dX7_isRow_1 (by decide) ?_
  refine lv_bipush (v := 7) hx hb dX7_isRow_2 (by decide) ?_
  refine x_ip (w := (wX G B tt)) (x := x) (v := bI (decide (((0 : Int32)) ≤ v) && decide (v ≤ ((7 : Int32))))) (va_runS (As := [.int (v), .int (0), .int (7)]) (rest := []) ⟨hx, hb, hml, hown, hts⟩ (c_X7_isWithin (l := l) (G := G) (B := B) (tt := tt) (hW := hW) (x := x) (v := v) (lo := 0) (hi := 7)) (va_cwS 3 hts gX7_isRow_X7_isWithin rfl rfl rfl (by decide +kernel) ⟨Nat.le_of_ble_eq_true rfl, Nat.le_of_ble_eq_true rfl⟩) (x_ps (w := (wX G B tt)) hW hX hK hE hS [.int (v), .int (0), .int (7)]) rfl rfl hl.1 rfl (lv_room (Nat.le_of_ble_eq_true rfl)) dX7_isRow_4 ⟨Nat.zero_le _, Nat.zero_le _⟩) hS (fun H_1 lo_2 hX hS => ?_)
  rw [← hQ]
  refine x_zret (v := bI (decide (((0 : Int32)) ≤ v) && decide (v ≤ ((7 : Int32))))) (ty := .boolean) hx hb hr (bI_nar _) hX hS hlocks dX7_isRow_7 ?_
  refine ⟨?_, rfl⟩
  first | rfl | simp [bI, ]

abbrev rmX7_isQuarter : Room := { frames := 1, cells := 0, slots := 0, locals := 22 }
set_option maxHeartbeats 4000000 in
set_option maxRecDepth 100000 in
theorem c_X7_isQuarter (l : Launch) (G : GG) (B : Nat) (tt : Nat → Nat) (hW : WOK (wX G B tt)) (x : Mem) (v : Int32) : Met l yX7_isQuarter wsX7_isQuarter rmX7_isQuarter (XP G (wX G B tt) [.int (v)] x) (va_Qi (fun r u => r = bI (decide (0 ≤ v) && decide (v ≤ 3)) ∧ u = x) (XB G (wX G B tt)) (blkA B (B + 117))) 0 0 (blkA B (B + 117)) := by
  refine Met.ofW (cc := cX7_isQuarter) (maxL := 1) (ret := (some .boolean)) (by decide) rfl ?_
  intro pp ee ss mm aa bb mt cd s1 Bd hml hv
  obtain ⟨hae, hX, hK, hE⟩ := hv
  have hx := Bd.exec
  have hb := Bd.bytes
  have hr := Bd.returns
  have hts := atoms_spec (ws := wsX7_isQuarter) Bd.pre
  have hown : ss.vm.findClass RX7 = some mm.cls := findClass_of_methodNamed Bd.named
  have hlocks := Bd.notSynchronized
  have hS : va_S (blkA B (B + 117)) ss.heap ss.heap [] := va_S.rf
  have hl := lv_entry ([.int (v)]) (n := 1) (Nat.le_of_ble_eq_true rfl)
  subst hae
  rw [lg_entry_eq]
  generalize (lg_sl ([.int (v)]) ++ List.replicate (1 - (lg_sl ([.int (v)])).length) Slot.unset).toArray = ls at hl ⊢
  have hl : lv_has ls 1 [(0, .int (v))] := hl
  generalize ([.int (v)] : List Value).toArray = aa at hts ⊢
  show W pp l ee rmX7_isQuarter ss mm aa bb mt cd ss.heap [] 0 0 _ (F0 mm 0 ls [])
  generalize hQ : MQ bb (va_Qi (fun r u => r = bI (decide (0 ≤ v) && decide (v ≤ 3)) ∧ u = x) (XB G (wX G B tt)) (blkA B (B + 117))) aa ss 0 0 (blkA B (B + 117)) = Q
  refine lv_iload_n hx hb dX7_isQuarter_0 rfl (lv_at hl 0 rfl) ?_
  refine lv_iconst (v := 0) hx hb dX7_isQuarter_1 (by decide) ?_
  refine lv_iconst (v := 3) hx hb dX7_isQuarter_2 (by decide) ?_
  refine x_ip (w := (wX G B tt)) (x := x) (v := bI (decide (((0 : Int32)) ≤ v) && decide (v ≤ ((3 : Int32))))) (va_runS (As := [.int (v), .int (0), .int (3)]) (rest := []) ⟨hx, hb, hml, hown, hts⟩ (c_X7_isWithin (l := l) (G := G) (B := B) (tt := tt) (hW := hW) (x := x) (v := v) (lo := 0) (hi := 3)) (va_cwS 3 hts gX7_isQuarter_X7_isWithin rfl rfl rfl (by decide +kernel) ⟨Nat.le_of_ble_eq_true rfl, Nat.le_of_ble_eq_true rfl⟩) (x_ps (w := (wX G B tt)) hW hX hK hE hS [.int (v), .int (0), .int (3)]) rfl rfl hl.1 rfl (lv_room (Nat.le_of_ble_eq_true rfl)) dX7_isQuarter_3 ⟨Nat.zero_le _, Nat.zero_le _⟩) hS (fun H_1 lo_2 hX hS => ?_)
  rw [← hQ]
  refine x_zret (v := bI (decide (((0 : Int32)) ≤ v) && decide (v ≤ ((3 : Int32))))) (ty := .boolean) hx hb hr (bI_nar _) hX hS hlocks dX7_isQuarter_6 ?_
  refine ⟨?_, rfl⟩
  first | rfl | simp [bI, ]

abbrev rmX7_isWind : Room := { frames := 2, cells := 0, slots := 0, locals := 42 }
set_option maxHeartbeats 4000000 in
set_option maxRecDepth 100000 in
theorem c_X7_isWind (l : Launch) (G : GG) (B : Nat) (tt : Nat → Nat) (hW : WOK (wX G B tt)) (x : Mem) (q : Int32) (v : Int32) : Met l yX7_isWind wsX7_isWind rmX7_isWind (XP G (wX G B tt) [.int (q), .int (v)] x) (va_Qi (fun r u => r = bI ((decide (0 ≤ q) && decide (q ≤ 3)) && (decide (0 ≤ v) && decide (v ≤ 100))) ∧ u = x) (XB G (wX G B tt)) (blkA B (B + 117))) 0 0 (blkA B (B + 117)) := by
  refine Met.ofW (cc := cX7_isWind) (maxL := 2) (ret := (some .boolean)) (by decide) rfl ?_
  intro pp ee ss mm aa bb mt cd s1 Bd hml hv
  obtain ⟨hae, hX, hK, hE⟩ := hv
  have hx := Bd.exec
  have hb := Bd.bytes
  have hr := Bd.returns
  have hts := atoms_spec (ws := wsX7_isWind) Bd.pre
  have hown : ss.vm.findClass RX7 = some mm.cls := findClass_of_methodNamed Bd.named
  have hlocks := Bd.notSynchronized
  have hS : va_S (blkA B (B + 117)) ss.heap ss.heap [] := va_S.rf
  have hl := lv_entry ([.int (q), .int (v)]) (n := 2) (Nat.le_of_ble_eq_true rfl)
  subst hae
  rw [lg_entry_eq]
  generalize (lg_sl ([.int (q), .int (v)]) ++ List.replicate (2 - (lg_sl ([.int (q), .int (v)])).length) Slot.unset).toArray = ls at hl ⊢
  have hl : lv_has ls 2 [(0, .int (q)), (1, .int (v))] := hl
  generalize ([.int (q), .int (v)] : List Value).toArray = aa at hts ⊢
  show W pp l ee rmX7_isWind ss mm aa bb mt cd ss.heap [] 0 0 _ (F0 mm 0 ls [])
  generalize hQ : MQ bb (va_Qi (fun r u => r = bI ((decide (0 ≤ q) && decide (q ≤ 3)) && (decide (0 ≤ v) && decide (v ≤ 100))) ∧ u = x) (XB G (wX G B tt)) (blkA B (B + 117))) aa ss 0 0 (blkA B (B + 117)) = Q
  refine lv_iload_n hx hb dX7_isWind_0 rfl (lv_at hl 0 rfl) ?_
  refine x_ip (w := (wX G B tt)) (x := x) (v := bI (decide (0 ≤ q) && decide (q ≤ 3))) (va_runS (As := [.int (q)]) (rest := []) ⟨hx, hb, hml, hown, hts⟩ (c_X7_isQuarter (l := l) (G := G) (B := B) (tt := tt) (hW := hW) (x := x) (v := q)) (va_cwS 1 hts gX7_isWind_X7_isQuarter rfl rfl rfl (by decide +kernel) ⟨Nat.le_of_ble_eq_true rfl, Nat.le_of_ble_eq_true rfl⟩) (x_ps (w := (wX G B tt)) hW hX hK hE hS [.int (q)]) rfl rfl hl.1 rfl (lv_room (Nat.le_of_ble_eq_true rfl)) dX7_isWind_1 ⟨Nat.zero_le _, Nat.zero_le _⟩) hS (fun H_1 lo_2 hX hS => ?_)
  have kJ_5 : ∀ (v_4 : Bool) (_ : v_4 = (if (decide (0 ≤ q) && decide (q ≤ 3)) = false then false else (if (decide (((0 : Int32)) ≤ v) && decide (v ≤ ((100 : Int32)))) = false then false else true))) (H_6 : Heap) (lo_7 : List Loc) (_ : MR G (wX G B tt) x H_6) (_ : va_S (blkA B (B + 117)) ss.heap H_6 lo_7) (ls : Array Slot) (_ : lv_has ls 2 [(0, .int (q)), (1, .int (v))]), W pp l ee rmX7_isWind ss mm aa bb mt cd H_6 lo_7 0 0 Q (F0 mm 22 ls [.int (bI (v_4))]) := by
    intro v_4 ev_4 H_6 lo_7 hX hS ls hl
    rw [← hQ]
    refine x_zret (v := bI (v_4)) (ty := .boolean) hx hb hr (bI_nar _) hX hS hlocks dX7_isWind_22 ?_
    refine ⟨?_, rfl⟩
    first | rfl | simp [bI, ev_4]
  refine x_ifeq (tgt := 21) hx hb dX7_isWind_4 (by decide) (fun c_3 => ?_) (fun c_3 => ?_)
  · refine lv_iconst (v := 0) hx hb dX7_isWind_21 (by decide) ?_
    exact kJ_5 (false) (by rw [if_pos c_3]) _ _ hX hS ls (lv_sub hl [0, 1] rfl)
  · refine lv_iload_n hx hb dX7_isWind_7 rfl (lv_at hl 1 rfl) ?_
    refine lv_iconst (v := 0) hx hb dX7_isWind_8 (by decide) ?_
    refine lv_bipush (v := 100) hx hb dX7_isWind_9 (by decide) ?_
    refine x_ip (w := (wX G B tt)) (x := x) (v := bI (decide (((0 : Int32)) ≤ v) && decide (v ≤ ((100 : Int32))))) (va_runS (As := [.int (v), .int (0), .int (100)]) (rest := []) ⟨hx, hb, hml, hown, hts⟩ (c_X7_isWithin (l := l) (G := G) (B := B) (tt := tt) (hW := hW) (x := x) (v := v) (lo := 0) (hi := 100)) (va_cwS 3 hts gX7_isWind_X7_isWithin rfl rfl rfl (by decide +kernel) ⟨Nat.le_of_ble_eq_true rfl, Nat.le_of_ble_eq_true rfl⟩) (x_ps (w := (wX G B tt)) hW hX hK hE hS [.int (v), .int (0), .int (100)]) rfl rfl hl.1 rfl (lv_room (Nat.le_of_ble_eq_true rfl)) dX7_isWind_11 ⟨Nat.zero_le _, Nat.zero_le _⟩) hS (fun H_8 lo_9 hX hS => ?_)
    refine x_ifeq (tgt := 21) hx hb dX7_isWind_14 (by decide) (fun c_10 => ?_) (fun c_10 => ?_)
    · refine lv_iconst (v := 0) hx hb dX7_isWind_21 (by decide) ?_
      exact kJ_5 (false) (by rw [if_neg (ne_of_true c_3), if_pos c_10]) _ _ hX hS ls (lv_sub hl [0, 1] rfl)
    · refine lv_iconst (v := 1) hx hb dX7_isWind_17 (by decide) ?_
      refine lv_goto (tgt := 22) hx hb dX7_isWind_18 (by decide) ?_
      exact kJ_5 (true) (by rw [if_neg (ne_of_true c_3), if_neg (ne_of_true c_10)]) _ _ hX hS ls (lv_sub hl [0, 1] rfl)

abbrev rmX7_bit : Room := { frames := 0, cells := 0, slots := 0, locals := 0 }
set_option maxHeartbeats 4000000 in
set_option maxRecDepth 100000 in
theorem c_X7_bit (l : Launch) (G : GG) (B : Nat) (tt : Nat → Nat) (hW : WOK (wX G B tt)) (x : Mem) (b : Bool) : Met l yX7_bit wsX7_bit rmX7_bit (XP G (wX G B tt) [.int (bI (b))] x) (va_Qi (fun r u => r = (bI b) ∧ u = x) (XB G (wX G B tt)) (blkA B (B + 117))) 0 0 (blkA B (B + 117)) := by
  refine Met.ofW (cc := cX7_bit) (maxL := 1) (ret := (some .int)) (by decide) rfl ?_
  intro pp ee ss mm aa bb mt cd s1 Bd hml hv
  obtain ⟨hae, hX, hK, hE⟩ := hv
  have hx := Bd.exec
  have hb := Bd.bytes
  have hr := Bd.returns
  have hts := atoms_spec (ws := wsX7_bit) Bd.pre
  have hown : ss.vm.findClass RX7 = some mm.cls := findClass_of_methodNamed Bd.named
  have hlocks := Bd.notSynchronized
  have hS : va_S (blkA B (B + 117)) ss.heap ss.heap [] := va_S.rf
  have hl := lv_entry ([.int (bI (b))]) (n := 1) (Nat.le_of_ble_eq_true rfl)
  subst hae
  rw [lg_entry_eq]
  generalize (lg_sl ([.int (bI (b))]) ++ List.replicate (1 - (lg_sl ([.int (bI (b))])).length) Slot.unset).toArray = ls at hl ⊢
  have hl : lv_has ls 1 [(0, .int (bI (b)))] := hl
  generalize ([.int (bI (b))] : List Value).toArray = aa at hts ⊢
  show W pp l ee rmX7_bit ss mm aa bb mt cd ss.heap [] 0 0 _ (F0 mm 0 ls [])
  generalize hQ : MQ bb (va_Qi (fun r u => r = (bI b) ∧ u = x) (XB G (wX G B tt)) (blkA B (B + 117))) aa ss 0 0 (blkA B (B + 117)) = Q
  refine lv_iload_n hx hb dX7_bit_0 rfl (lv_at hl 0 rfl) ?_
  have kJ_3 : ∀ (v_2 : Bool) (_ : v_2 = (if b = false then false else true)) (H_4 : Heap) (lo_5 : List Loc) (_ : MR G (wX G B tt) x H_4) (_ : va_S (blkA B (B + 117)) ss.heap H_4 lo_5) (ls : Array Slot) (_ : lv_has ls 1 [(0, .int (bI (b)))]), W pp l ee rmX7_bit ss mm aa bb mt cd H_4 lo_5 0 0 Q (F0 mm 9 ls [.int (bI (v_2))]) := by
    intro v_2 ev_2 H_4 lo_5 hX hS ls hl
    rw [← hQ]
    refine x_iret (v := bI (v_2)) hx hb hr hX hS hlocks dX7_bit_9 ?_
    refine ⟨?_, rfl⟩
    first | rfl | simp [ev_2]
  refine x_ifeq (tgt := 8) hx hb dX7_bit_1 (by decide) (fun c_1 => ?_) (fun c_1 => ?_)
  · refine lv_iconst (v := 0) hx hb dX7_bit_8 (by decide) ?_
    exact kJ_3 (false) (by rw [if_pos c_1]) _ _ hX hS ls (lv_sub hl [0] rfl)
  · refine lv_iconst (v := 1) hx hb dX7_bit_4 (by decide) ?_
    refine lv_goto (tgt := 9) hx hb dX7_bit_5 (by decide) ?_
    exact kJ_3 (true) (by rw [if_neg (ne_of_true c_1)]) _ _ hX hS ls (lv_sub hl [0] rfl)

abbrev rmX7_quarterOf : Room := { frames := 0, cells := 0, slots := 0, locals := 0 }
set_option maxHeartbeats 4000000 in
set_option maxRecDepth 100000 in
theorem c_X7_quarterOf (l : Launch) (G : GG) (B : Nat) (tt : Nat → Nat) (hW : WOK (wX G B tt)) (x : Mem) (v : Int32) : Met l yX7_quarterOf wsX7_quarterOf rmX7_quarterOf (XP G (wX G B tt) [.int (v)] x) (va_Qi (fun r u => r = (if 0 ≤ v then v / 1000 else -1) ∧ u = x) (XB G (wX G B tt)) (blkA B (B + 117))) 0 0 (blkA B (B + 117)) := by
  refine Met.ofW (cc := cX7_quarterOf) (maxL := 1) (ret := (some .int)) (by decide) rfl ?_
  intro pp ee ss mm aa bb mt cd s1 Bd hml hv
  obtain ⟨hae, hX, hK, hE⟩ := hv
  have hx := Bd.exec
  have hb := Bd.bytes
  have hr := Bd.returns
  have hts := atoms_spec (ws := wsX7_quarterOf) Bd.pre
  have hown : ss.vm.findClass RX7 = some mm.cls := findClass_of_methodNamed Bd.named
  have hlocks := Bd.notSynchronized
  have hS : va_S (blkA B (B + 117)) ss.heap ss.heap [] := va_S.rf
  have hl := lv_entry ([.int (v)]) (n := 1) (Nat.le_of_ble_eq_true rfl)
  subst hae
  rw [lg_entry_eq]
  generalize (lg_sl ([.int (v)]) ++ List.replicate (1 - (lg_sl ([.int (v)])).length) Slot.unset).toArray = ls at hl ⊢
  have hl : lv_has ls 1 [(0, .int (v))] := hl
  generalize ([.int (v)] : List Value).toArray = aa at hts ⊢
  show W pp l ee rmX7_quarterOf ss mm aa bb mt cd ss.heap [] 0 0 _ (F0 mm 0 ls [])
  generalize hQ : MQ bb (va_Qi (fun r u => r = (if 0 ≤ v then v / 1000 else -1) ∧ u = x) (XB G (wX G B tt)) (blkA B (B + 117))) aa ss 0 0 (blkA B (B + 117)) = Q
  refine lv_iload_n hx hb dX7_quarterOf_0 rfl (lv_at hl 0 rfl) ?_
  have kJ_3 : ∀ (v_2 : Int32) (_ : v_2 = (if 0 ≤ v then (v / 1000) else ((-1)))) (H_4 : Heap) (lo_5 : List Loc) (_ : MR G (wX G B tt) x H_4) (_ : va_S (blkA B (B + 117)) ss.heap H_4 lo_5) (ls : Array Slot) (_ : lv_has ls 1 [(0, .int (v))]), W pp l ee rmX7_quarterOf ss mm aa bb mt cd H_4 lo_5 0 0 Q (F0 mm 13 ls [.int (v_2)]) := by
    intro v_2 ev_2 H_4 lo_5 hX hS ls hl
    rw [← hQ]
    refine x_iret (v := v_2) hx hb hr hX hS hlocks dX7_quarterOf_13 ?_
    refine ⟨?_, rfl⟩
    first | rfl | simp [ev_2]
  refine lv_if_ge (tgt := 8) hx hb dX7_quarterOf_1 (by decide) (fun c_1 => ?_) (fun c_1 => ?_)
  · refine lv_iload_n hx hb dX7_quarterOf_8 rfl (lv_at hl 0 rfl) ?_
    refine lv_sipush (v := 1000) hx hb dX7_quarterOf_9 (by decide) ?_
    refine lv_idiv hx hb dX7_quarterOf_12 (by decide) ?_
    exact kJ_3 (v / 1000) (by rw [if_pos c_1]) _ _ hX hS ls (lv_sub hl [0] rfl)
  · refine lv_iconst (v := (-1)) hx hb dX7_quarterOf_4 (by decide) ?_
    refine lv_goto (tgt := 13) hx hb dX7_quarterOf_5 (by decide) ?_
    exact kJ_3 ((-1)) (by rw [if_neg c_1]) _ _ hX hS ls (lv_sub hl [0] rfl)

abbrev rmX7_strengthOf : Room := { frames := 0, cells := 0, slots := 0, locals := 0 }
set_option maxHeartbeats 4000000 in
set_option maxRecDepth 100000 in
theorem c_X7_strengthOf (l : Launch) (G : GG) (B : Nat) (tt : Nat → Nat) (hW : WOK (wX G B tt)) (x : Mem) (v : Int32) : Met l yX7_strengthOf wsX7_strengthOf rmX7_strengthOf (XP G (wX G B tt) [.int (v)] x) (va_Qi (fun r u => r = (v - v / 1000 * 1000) ∧ u = x) (XB G (wX G B tt)) (blkA B (B + 117))) 0 0 (blkA B (B + 117)) := by
  refine Met.ofW (cc := cX7_strengthOf) (maxL := 1) (ret := (some .int)) (by decide) rfl ?_
  intro pp ee ss mm aa bb mt cd s1 Bd hml hv
  obtain ⟨hae, hX, hK, hE⟩ := hv
  have hx := Bd.exec
  have hb := Bd.bytes
  have hr := Bd.returns
  have hts := atoms_spec (ws := wsX7_strengthOf) Bd.pre
  have hown : ss.vm.findClass RX7 = some mm.cls := findClass_of_methodNamed Bd.named
  have hlocks := Bd.notSynchronized
  have hS : va_S (blkA B (B + 117)) ss.heap ss.heap [] := va_S.rf
  have hl := lv_entry ([.int (v)]) (n := 1) (Nat.le_of_ble_eq_true rfl)
  subst hae
  rw [lg_entry_eq]
  generalize (lg_sl ([.int (v)]) ++ List.replicate (1 - (lg_sl ([.int (v)])).length) Slot.unset).toArray = ls at hl ⊢
  have hl : lv_has ls 1 [(0, .int (v))] := hl
  generalize ([.int (v)] : List Value).toArray = aa at hts ⊢
  show W pp l ee rmX7_strengthOf ss mm aa bb mt cd ss.heap [] 0 0 _ (F0 mm 0 ls [])
  generalize hQ : MQ bb (va_Qi (fun r u => r = (v - v / 1000 * 1000) ∧ u = x) (XB G (wX G B tt)) (blkA B (B + 117))) aa ss 0 0 (blkA B (B + 117)) = Q
  refine lv_iload_n hx hb dX7_strengthOf_0 rfl (lv_at hl 0 rfl) ?_
  refine lv_sipush (v := 1000) hx hb dX7_strengthOf_1 (by decide) ?_
  refine lv_irem hx hb dX7_strengthOf_4 (by decide) ?_
  rw [← hQ]
  refine x_iret (v := v - v / 1000 * 1000) hx hb hr hX hS hlocks dX7_strengthOf_5 ?_
  refine ⟨?_, rfl⟩
  first | rfl | simp []

theorem kX7_found_301 : (.fieldLink RX7 301 "WindTaken" "status" "I" : Cond) ∈ wsX7_found := by decide +kernel
theorem iX7_found_X7 : ∀ w ∈ wsX70, w ∈ wsX7_found := by decide +kernel
theorem kX7_found_304 : (.constant RX7 304 (-1000010) : Cond) ∈ wsX7_found := by decide +kernel
abbrev rmX7_found : Room := { frames := 0, cells := 0, slots := 0, locals := 0 }
set_option maxHeartbeats 4000000 in
set_option maxRecDepth 100000 in
theorem c_X7_found (l : Launch) (G : GG) (B : Nat) (tt : Nat → Nat) (hW : WOK (wX G B tt)) (x : Mem) (f : Int32) : Met l yX7_found wsX7_found rmX7_found (XP G (wX G B tt) [.ref (B + (0)), .int (f)] x) (va_Qi (fun r u => r = -1000010 - f ∧ u = mst x 0 8 f) (XB G (wX G B tt)) (blkA B (B + 117))) 0 0 (blkA B (B + 117)) := by
  refine Met.ofW (cc := cX7_found) (maxL := 2) (ret := (some .int)) (by decide) rfl ?_
  intro pp ee ss mm aa bb mt cd s1 Bd hml hv
  obtain ⟨hae, hX, hK, hE⟩ := hv
  have hx := Bd.exec
  have hb := Bd.bytes
  have hr := Bd.returns
  have hts := atoms_spec (ws := wsX7_found) Bd.pre
  have hown : ss.vm.findClass RX7 = some mm.cls := findClass_of_methodNamed Bd.named
  have hlocks := Bd.notSynchronized
  have hS : va_S (blkA B (B + 117)) ss.heap ss.heap [] := va_S.rf
  have hl := lv_entry ([.ref (B + (0)), .int (f)]) (n := 2) (Nat.le_of_ble_eq_true rfl)
  subst hae
  rw [lg_entry_eq]
  generalize (lg_sl ([.ref (B + (0)), .int (f)]) ++ List.replicate (2 - (lg_sl ([.ref (B + (0)), .int (f)])).length) Slot.unset).toArray = ls at hl ⊢
  have hl : lv_has ls 2 [(0, .ref (B + (0))), (1, .int (f))] := hl
  generalize ([.ref (B + (0)), .int (f)] : List Value).toArray = aa at hts ⊢
  show W pp l ee rmX7_found ss mm aa bb mt cd ss.heap [] 0 0 _ (F0 mm 0 ls [])
  generalize hQ : MQ bb (va_Qi (fun r u => r = -1000010 - f ∧ u = mst x 0 8 f) (XB G (wX G B tt)) (blkA B (B + 117))) aa ss 0 0 (blkA B (B + 117)) = Q
  refine lv_aload_n hx hb dX7_found_0 rfl (lv_at hl 0 rfl) ?_
  refine lv_iload_n hx hb dX7_found_1 rfl (lv_at hl 1 rfl) ?_
  refine x_put (w := (wX G B tt)) (a := 0) (v := f) (ty := .int) hx hb hts iX7_found_X7 tyX7 tyX7_ok nmX7 hown hK hW hX hS (Nat.le_of_ble_eq_true rfl) (shX_mn (G := G) (B := B)) rfl 8 (by decide) (hts _ kX7_found_301) (fun _ h9 => h9) rfl (by decide +kernel) rfl rfl (Nat.le_of_ble_eq_true rfl) (shX_mn (G := G) (B := B)) dX7_found_2 (fun H_2 lo_3 hX hS => ?_)
  obtain ⟨x_1, ex_1⟩ : ∃ z, z = mst x (0) 8 (f) := ⟨_, rfl⟩
  rw [← ex_1] at hX
  refine lv_ldcw (v := (-1000010)) hx hb hown (hts _ kX7_found_304) dX7_found_5 ?_
  refine lv_iload_n hx hb dX7_found_8 rfl (lv_at hl 1 rfl) ?_
  refine lv_isub hx hb dX7_found_9 ?_
  rw [← hQ]
  refine x_iret (v := ((-1000010)) - f) hx hb hr hX hS hlocks dX7_found_10 ?_
  exact ⟨rfl, ex_1⟩

theorem kX7_unfound_301 : (.fieldLink RX7 301 "WindTaken" "status" "I" : Cond) ∈ wsX7_unfound := by decide +kernel
theorem iX7_unfound_X7 : ∀ w ∈ wsX70, w ∈ wsX7_unfound := by decide +kernel
abbrev rmX7_unfound : Room := { frames := 0, cells := 0, slots := 0, locals := 0 }
set_option maxHeartbeats 4000000 in
set_option maxRecDepth 100000 in
theorem c_X7_unfound (l : Launch) (G : GG) (B : Nat) (tt : Nat → Nat) (hW : WOK (wX G B tt)) (x : Mem) (a : Int32) : Met l yX7_unfound wsX7_unfound rmX7_unfound (XP G (wX G B tt) [.ref (B + (0)), .int (a)] x) (va_Qi (fun r u => r = a ∧ u = mst x 0 8 0) (XB G (wX G B tt)) (blkA B (B + 117))) 0 0 (blkA B (B + 117)) := by
  refine Met.ofW (cc := cX7_unfound) (maxL := 2) (ret := (some .int)) (by decide) rfl ?_
  intro pp ee ss mm aa bb mt cd s1 Bd hml hv
  obtain ⟨hae, hX, hK, hE⟩ := hv
  have hx := Bd.exec
  have hb := Bd.bytes
  have hr := Bd.returns
  have hts := atoms_spec (ws := wsX7_unfound) Bd.pre
  have hown : ss.vm.findClass RX7 = some mm.cls := findClass_of_methodNamed Bd.named
  have hlocks := Bd.notSynchronized
  have hS : va_S (blkA B (B + 117)) ss.heap ss.heap [] := va_S.rf
  have hl := lv_entry ([.ref (B + (0)), .int (a)]) (n := 2) (Nat.le_of_ble_eq_true rfl)
  subst hae
  rw [lg_entry_eq]
  generalize (lg_sl ([.ref (B + (0)), .int (a)]) ++ List.replicate (2 - (lg_sl ([.ref (B + (0)), .int (a)])).length) Slot.unset).toArray = ls at hl ⊢
  have hl : lv_has ls 2 [(0, .ref (B + (0))), (1, .int (a))] := hl
  generalize ([.ref (B + (0)), .int (a)] : List Value).toArray = aa at hts ⊢
  show W pp l ee rmX7_unfound ss mm aa bb mt cd ss.heap [] 0 0 _ (F0 mm 0 ls [])
  generalize hQ : MQ bb (va_Qi (fun r u => r = a ∧ u = mst x 0 8 0) (XB G (wX G B tt)) (blkA B (B + 117))) aa ss 0 0 (blkA B (B + 117)) = Q
  refine lv_aload_n hx hb dX7_unfound_0 rfl (lv_at hl 0 rfl) ?_
  refine lv_iconst (v := 0) hx hb dX7_unfound_1 (by decide) ?_
  refine x_put (w := (wX G B tt)) (a := 0) (v := 0) (ty := .int) hx hb hts iX7_unfound_X7 tyX7 tyX7_ok nmX7 hown hK hW hX hS (Nat.le_of_ble_eq_true rfl) (shX_mn (G := G) (B := B)) rfl 8 (by decide) (hts _ kX7_unfound_301) (fun _ h9 => h9) rfl (by decide +kernel) rfl rfl (Nat.le_of_ble_eq_true rfl) (shX_mn (G := G) (B := B)) dX7_unfound_2 (fun H_2 lo_3 hX hS => ?_)
  obtain ⟨x_1, ex_1⟩ : ∃ z, z = mst x (0) 8 (0) := ⟨_, rfl⟩
  rw [← ex_1] at hX
  have z_4 : x_1 (0) 8 = nI (0) := by rw [ex_1, mst_self]; first | done | exact rfl
  refine lv_iload_n hx hb dX7_unfound_5 rfl (lv_at hl 1 rfl) ?_
  rw [← hQ]
  refine x_iret (v := a) hx hb hr hX hS hlocks dX7_unfound_6 ?_
  exact ⟨rfl, ex_1⟩

theorem kX0_turnsIn_27 : (.fieldLink RX0 27 "WindTaken$Mill" "furled" "Z" : Cond) ∈ wsX0_turnsIn := by decide +kernel
theorem iX0_turnsIn_X0 : ∀ w ∈ wsX00, w ∈ wsX0_turnsIn := by decide +kernel
theorem kX0_turnsIn_15 : (.fieldLink RX0 15 "WindTaken$Mill" "kind" "I" : Cond) ∈ wsX0_turnsIn := by decide +kernel
theorem kX0_turnsIn_24 : (.fieldLink RX0 24 "WindTaken$Mill" "facing" "I" : Cond) ∈ wsX0_turnsIn := by decide +kernel
abbrev rmX0_turnsIn : Room := { frames := 0, cells := 0, slots := 0, locals := 0 }
set_option maxHeartbeats 4000000 in
set_option maxRecDepth 100000 in
theorem c_X0_turnsIn (l : Launch) (G : GG) (B : Nat) (tt : Nat → Nat) (hW : WOK (wX G B tt)) (x : Mem) {ρ : Nat} (hρ : isRg ρ) {j : Nat} (hj : j < 8) (q : Int32) : Met l yX0_turnsIn wsX0_turnsIn rmX0_turnsIn (XP G (wX G B tt) [.ref (B + (ρ + 1 + 1 + j)), .int (q)] x) (va_Qi (fun r u => r = bI (!decide (x (ρ + 1 + 1 + j) 11 ≠ 0) && (decide (x (ρ + 1 + 1 + j) 1 ≠ 5) && (decide (x (ρ + 1 + 1 + j) 1 ≠ 1) || decide (x (ρ + 1 + 1 + j) 10 = q)))) ∧ u = x) (XB G (wX G B tt)) (blkA B (B + 117))) 0 0 (blkA B (B + 117)) := by
  refine Met.ofW (cc := cX0_turnsIn) (maxL := 2) (ret := (some .boolean)) (by decide) rfl ?_
  intro pp ee ss mm aa bb mt cd s1 Bd hml hv
  obtain ⟨hae, hX, hK, hE⟩ := hv
  have hx := Bd.exec
  have hb := Bd.bytes
  have hr := Bd.returns
  have hts := atoms_spec (ws := wsX0_turnsIn) Bd.pre
  have hown : ss.vm.findClass RX0 = some mm.cls := findClass_of_methodNamed Bd.named
  have hlocks := Bd.notSynchronized
  have hS : va_S (blkA B (B + 117)) ss.heap ss.heap [] := va_S.rf
  have hl := lv_entry ([.ref (B + (ρ + 1 + 1 + j)), .int (q)]) (n := 2) (Nat.le_of_ble_eq_true rfl)
  subst hae
  rw [lg_entry_eq]
  generalize (lg_sl ([.ref (B + (ρ + 1 + 1 + j)), .int (q)]) ++ List.replicate (2 - (lg_sl ([.ref (B + (ρ + 1 + 1 + j)), .int (q)])).length) Slot.unset).toArray = ls at hl ⊢
  have hl : lv_has ls 2 [(0, .ref (B + (ρ + 1 + 1 + j))), (1, .int (q))] := hl
  generalize ([.ref (B + (ρ + 1 + 1 + j)), .int (q)] : List Value).toArray = aa at hts ⊢
  show W pp l ee rmX0_turnsIn ss mm aa bb mt cd ss.heap [] 0 0 _ (F0 mm 0 ls [])
  generalize hQ : MQ bb (va_Qi (fun r u => r = bI (!decide (x (ρ + 1 + 1 + j) 11 ≠ 0) && (decide (x (ρ + 1 + 1 + j) 1 ≠ 5) && (decide (x (ρ + 1 + 1 + j) 1 ≠ 1) || decide (x (ρ + 1 + 1 + j) 10 = q)))) ∧ u = x) (XB G (wX G B tt)) (blkA B (B + 117))) aa ss 0 0 (blkA B (B + 117)) = Q
  refine lv_aload_n hx hb dX0_turnsIn_0 rfl (lv_at hl 0 rfl) ?_
  refine x_get (w := (wX G B tt)) (a := ρ + 1 + 1 + j) (v := .int (bI (decide (x (ρ + 1 + 1 + j) 11 ≠ 0)))) hx hb hts iX0_turnsIn_X0 hown hK hX (rg_ltm hρ hj) (shX_mi (G := G) (B := B) hρ hj) rfl 11 (by decide) (hts _ kX0_turnsIn_27) (fun _ h9 => h9) rfl dX0_turnsIn_1 ?_
  have kJ_3 : ∀ (v_2 : Bool) (_ : v_2 = (if (decide (x (ρ + 1 + 1 + j) 11 ≠ 0)) = true then false else (if (x (ρ + 1 + 1 + j) 1) = 5 then false else (if (x (ρ + 1 + 1 + j) 1) = 1 then (if (x (ρ + 1 + 1 + j) 10) = q then true else false) else true)))) (H_4 : Heap) (lo_5 : List Loc) (_ : MR G (wX G B tt) x H_4) (_ : va_S (blkA B (B + 117)) ss.heap H_4 lo_5) (ls : Array Slot) (_ : lv_has ls 2 [(0, .ref (B + (ρ + 1 + 1 + j))), (1, .int (q))]), W pp l ee rmX0_turnsIn ss mm aa bb mt cd H_4 lo_5 0 0 Q (F0 mm 36 ls [.int (bI (v_2))]) := by
    intro v_2 ev_2 H_4 lo_5 hX hS ls hl
    rw [← hQ]
    refine x_zret (v := bI (v_2)) (ty := .boolean) hx hb hr (bI_nar _) hX hS hlocks dX0_turnsIn_36 ?_
    refine ⟨?_, rfl⟩
    first | rfl | simp [bI, ev_2]
  refine x_ifne (tgt := 35) hx hb dX0_turnsIn_4 (by decide) (fun c_1 => ?_) (fun c_1 => ?_)
  · refine lv_iconst (v := 0) hx hb dX0_turnsIn_35 (by decide) ?_
    exact kJ_3 (false) (by rw [if_pos c_1]) _ _ hX hS ls (lv_sub hl [0, 1] rfl)
  · refine lv_aload_n hx hb dX0_turnsIn_7 rfl (lv_at hl 0 rfl) ?_
    refine x_get (w := (wX G B tt)) (a := ρ + 1 + 1 + j) (v := .int (x (ρ + 1 + 1 + j) 1)) hx hb hts iX0_turnsIn_X0 hown hK hX (rg_ltm hρ hj) (shX_mi (G := G) (B := B) hρ hj) rfl 1 (by decide) (hts _ kX0_turnsIn_15) (fun _ h9 => h9) rfl dX0_turnsIn_8 ?_
    refine lv_iconst (v := 5) hx hb dX0_turnsIn_11 (by decide) ?_
    refine lv_icmp_eq (tgt := 35) hx hb dX0_turnsIn_12 (by decide) (fun c_6 => ?_) (fun c_6 => ?_)
    · refine lv_iconst (v := 0) hx hb dX0_turnsIn_35 (by decide) ?_
      exact kJ_3 (false) (by rw [if_neg (ne_of_false c_1), if_pos c_6]) _ _ hX hS ls (lv_sub hl [0, 1] rfl)
    · refine lv_aload_n hx hb dX0_turnsIn_15 rfl (lv_at hl 0 rfl) ?_
      refine x_get (w := (wX G B tt)) (a := ρ + 1 + 1 + j) (v := .int (x (ρ + 1 + 1 + j) 1)) hx hb hts iX0_turnsIn_X0 hown hK hX (rg_ltm hρ hj) (shX_mi (G := G) (B := B) hρ hj) rfl 1 (by decide) (hts _ kX0_turnsIn_15) (fun _ h9 => h9) rfl dX0_turnsIn_16 ?_
      refine lv_iconst (v := 1) hx hb dX0_turnsIn_19 (by decide) ?_
      refine lv_icmp_ne (tgt := 31) hx hb dX0_turnsIn_20 (by decide) (fun c_7 => ?_) (fun c_7 => ?_)
      · refine lv_iconst (v := 1) hx hb dX0_turnsIn_31 (by decide) ?_
        refine lv_goto (tgt := 36) hx hb dX0_turnsIn_32 (by decide) ?_
        exact kJ_3 (true) (by rw [if_neg (ne_of_false c_1), if_neg c_6, if_neg c_7]) _ _ hX hS ls (lv_sub hl [0, 1] rfl)
      · refine lv_aload_n hx hb dX0_turnsIn_23 rfl (lv_at hl 0 rfl) ?_
        refine x_get (w := (wX G B tt)) (a := ρ + 1 + 1 + j) (v := .int (x (ρ + 1 + 1 + j) 10)) hx hb hts iX0_turnsIn_X0 hown hK hX (rg_ltm hρ hj) (shX_mi (G := G) (B := B) hρ hj) rfl 10 (by decide) (hts _ kX0_turnsIn_24) (fun _ h9 => h9) rfl dX0_turnsIn_24 ?_
        refine lv_iload_n hx hb dX0_turnsIn_27 rfl (lv_at hl 1 rfl) ?_
        refine lv_icmp_ne (tgt := 35) hx hb dX0_turnsIn_28 (by decide) (fun c_8 => ?_) (fun c_8 => ?_)
        · refine lv_iconst (v := 0) hx hb dX0_turnsIn_35 (by decide) ?_
          exact kJ_3 (false) (by rw [if_neg (ne_of_false c_1), if_neg c_6, if_pos c_7, if_neg c_8]) _ _ hX hS ls (lv_sub hl [0, 1] rfl)
        · refine lv_iconst (v := 1) hx hb dX0_turnsIn_31 (by decide) ?_
          refine lv_goto (tgt := 36) hx hb dX0_turnsIn_32 (by decide) ?_
          exact kJ_3 (true) (by rw [if_neg (ne_of_false c_1), if_neg c_6, if_pos c_7, if_pos c_8]) _ _ hX hS ls (lv_sub hl [0, 1] rfl)

theorem kX4_isMissing_15 : (.fieldLink RX4 15 "WindTaken$Row" "size" "I" : Cond) ∈ wsX4_isMissing := by decide +kernel
theorem iX4_isMissing_X4 : ∀ w ∈ wsX40, w ∈ wsX4_isMissing := by decide +kernel
abbrev rmX4_isMissing : Room := { frames := 0, cells := 0, slots := 0, locals := 0 }
set_option maxHeartbeats 4000000 in
set_option maxRecDepth 100000 in
theorem c_X4_isMissing (l : Launch) (G : GG) (B : Nat) (tt : Nat → Nat) (hW : WOK (wX G B tt)) (x : Mem) {ro : Nat} (hro : ro < 8) : Met l yX4_isMissing wsX4_isMissing rmX4_isMissing (XP G (wX G B tt) [.ref (B + (29 + 2 * ro))] x) (va_Qi (fun r u => r = bI (decide (x (29 + 2 * ro) 2 = -1)) ∧ u = x) (XB G (wX G B tt)) (blkA B (B + 117))) 0 0 (blkA B (B + 117)) := by
  refine Met.ofW (cc := cX4_isMissing) (maxL := 1) (ret := (some .boolean)) (by decide) rfl ?_
  intro pp ee ss mm aa bb mt cd s1 Bd hml hv
  obtain ⟨hae, hX, hK, hE⟩ := hv
  have hx := Bd.exec
  have hb := Bd.bytes
  have hr := Bd.returns
  have hts := atoms_spec (ws := wsX4_isMissing) Bd.pre
  have hown : ss.vm.findClass RX4 = some mm.cls := findClass_of_methodNamed Bd.named
  have hlocks := Bd.notSynchronized
  have hS : va_S (blkA B (B + 117)) ss.heap ss.heap [] := va_S.rf
  have hl := lv_entry ([.ref (B + (29 + 2 * ro))]) (n := 1) (Nat.le_of_ble_eq_true rfl)
  subst hae
  rw [lg_entry_eq]
  generalize (lg_sl ([.ref (B + (29 + 2 * ro))]) ++ List.replicate (1 - (lg_sl ([.ref (B + (29 + 2 * ro))])).length) Slot.unset).toArray = ls at hl ⊢
  have hl : lv_has ls 1 [(0, .ref (B + (29 + 2 * ro)))] := hl
  generalize ([.ref (B + (29 + 2 * ro))] : List Value).toArray = aa at hts ⊢
  show W pp l ee rmX4_isMissing ss mm aa bb mt cd ss.heap [] 0 0 _ (F0 mm 0 ls [])
  generalize hQ : MQ bb (va_Qi (fun r u => r = bI (decide (x (29 + 2 * ro) 2 = -1)) ∧ u = x) (XB G (wX G B tt)) (blkA B (B + 117))) aa ss 0 0 (blkA B (B + 117)) = Q
  refine lv_aload_n hx hb dX4_isMissing_0 rfl (lv_at hl 0 rfl) ?_
  refine x_get (w := (wX G B tt)) (a := 29 + 2 * ro) (v := .int (x (29 + 2 * ro) 2)) hx hb hts iX4_isMissing_X4 hown hK hX (rw_lt hro) (shX_rw (G := G) (B := B) hro) rfl 2 (by decide) (hts _ kX4_isMissing_15) (fun _ h9 => h9) rfl dX4_isMissing_1 ?_
  refine lv_iconst (v := (-1)) hx hb dX4_isMissing_4 (by decide) ?_
  have kJ_3 : ∀ (v_2 : Bool) (_ : v_2 = (if (x (29 + 2 * ro) 2) = ((-1)) then true else false)) (H_4 : Heap) (lo_5 : List Loc) (_ : MR G (wX G B tt) x H_4) (_ : va_S (blkA B (B + 117)) ss.heap H_4 lo_5) (ls : Array Slot) (_ : lv_has ls 1 [(0, .ref (B + (29 + 2 * ro)))]), W pp l ee rmX4_isMissing ss mm aa bb mt cd H_4 lo_5 0 0 Q (F0 mm 13 ls [.int (bI (v_2))]) := by
    intro v_2 ev_2 H_4 lo_5 hX hS ls hl
    rw [← hQ]
    refine x_zret (v := bI (v_2)) (ty := .boolean) hx hb hr (bI_nar _) hX hS hlocks dX4_isMissing_13 ?_
    refine ⟨?_, rfl⟩
    first | rfl | simp [bI, ev_2]
  refine lv_icmp_ne (tgt := 12) hx hb dX4_isMissing_5 (by decide) (fun c_1 => ?_) (fun c_1 => ?_)
  · refine lv_iconst (v := 0) hx hb dX4_isMissing_12 (by decide) ?_
    exact kJ_3 (false) (by rw [if_neg c_1]) _ _ hX hS ls (lv_sub hl [0] rfl)
  · refine lv_iconst (v := 1) hx hb dX4_isMissing_8 (by decide) ?_
    refine lv_goto (tgt := 13) hx hb dX4_isMissing_9 (by decide) ?_
    exact kJ_3 (true) (by rw [if_pos c_1]) _ _ hX hS ls (lv_sub hl [0] rfl)

theorem kX4_covers_15 : (.fieldLink RX4 15 "WindTaken$Row" "size" "I" : Cond) ∈ wsX4_covers := by decide +kernel
theorem iX4_covers_X4 : ∀ w ∈ wsX40, w ∈ wsX4_covers := by decide +kernel
abbrev rmX4_covers : Room := { frames := 0, cells := 0, slots := 0, locals := 0 }
set_option maxHeartbeats 4000000 in
set_option maxRecDepth 100000 in
theorem c_X4_covers (l : Launch) (G : GG) (B : Nat) (tt : Nat → Nat) (hW : WOK (wX G B tt)) (x : Mem) {ro : Nat} (hro : ro < 8) (i : Int32) (n : Int32) : Met l yX4_covers wsX4_covers rmX4_covers (XP G (wX G B tt) [.ref (B + (29 + 2 * ro)), .int (i), .int (n)] x) (va_Qi (fun r u => r = bI (decide (0 ≤ i) && (decide (0 ≤ n) && decide (n ≤ x (29 + 2 * ro) 2 - i))) ∧ u = x) (XB G (wX G B tt)) (blkA B (B + 117))) 0 0 (blkA B (B + 117)) := by
  refine Met.ofW (cc := cX4_covers) (maxL := 3) (ret := (some .boolean)) (by decide) rfl ?_
  intro pp ee ss mm aa bb mt cd s1 Bd hml hv
  obtain ⟨hae, hX, hK, hE⟩ := hv
  have hx := Bd.exec
  have hb := Bd.bytes
  have hr := Bd.returns
  have hts := atoms_spec (ws := wsX4_covers) Bd.pre
  have hown : ss.vm.findClass RX4 = some mm.cls := findClass_of_methodNamed Bd.named
  have hlocks := Bd.notSynchronized
  have hS : va_S (blkA B (B + 117)) ss.heap ss.heap [] := va_S.rf
  have hl := lv_entry ([.ref (B + (29 + 2 * ro)), .int (i), .int (n)]) (n := 3) (Nat.le_of_ble_eq_true rfl)
  subst hae
  rw [lg_entry_eq]
  generalize (lg_sl ([.ref (B + (29 + 2 * ro)), .int (i), .int (n)]) ++ List.replicate (3 - (lg_sl ([.ref (B + (29 + 2 * ro)), .int (i), .int (n)])).length) Slot.unset).toArray = ls at hl ⊢
  have hl : lv_has ls 3 [(0, .ref (B + (29 + 2 * ro))), (1, .int (i)), (2, .int (n))] := hl
  generalize ([.ref (B + (29 + 2 * ro)), .int (i), .int (n)] : List Value).toArray = aa at hts ⊢
  show W pp l ee rmX4_covers ss mm aa bb mt cd ss.heap [] 0 0 _ (F0 mm 0 ls [])
  generalize hQ : MQ bb (va_Qi (fun r u => r = bI (decide (0 ≤ i) && (decide (0 ≤ n) && decide (n ≤ x (29 + 2 * ro) 2 - i))) ∧ u = x) (XB G (wX G B tt)) (blkA B (B + 117))) aa ss 0 0 (blkA B (B + 117)) = Q
  refine lv_iload_n hx hb dX4_covers_0 rfl (lv_at hl 1 rfl) ?_
  have kJ_3 : ∀ (v_2 : Bool) (_ : v_2 = (if i < 0 then false else (if n < 0 then false else (if ((x (29 + 2 * ro) 2) - i) < n then false else true)))) (H_4 : Heap) (lo_5 : List Loc) (_ : MR G (wX G B tt) x H_4) (_ : va_S (blkA B (B + 117)) ss.heap H_4 lo_5) (ls : Array Slot) (_ : lv_has ls 3 [(0, .ref (B + (29 + 2 * ro))), (1, .int (i)), (2, .int (n))]), W pp l ee rmX4_covers ss mm aa bb mt cd H_4 lo_5 0 0 Q (F0 mm 23 ls [.int (bI (v_2))]) := by
    intro v_2 ev_2 H_4 lo_5 hX hS ls hl
    rw [← hQ]
    refine x_zret (v := bI (v_2)) (ty := .boolean) hx hb hr (bI_nar _) hX hS hlocks dX4_covers_23 ?_
    refine ⟨?_, rfl⟩
    first | rfl | simp [bI, ev_2]
  refine lv_if_lt (tgt := 22) hx hb dX4_covers_1 (by decide) (fun c_1 => ?_) (fun c_1 => ?_)
  · refine lv_iconst (v := 0) hx hb dX4_covers_22 (by decide) ?_
    exact kJ_3 (false) (by rw [if_pos c_1]) _ _ hX hS ls (lv_sub hl [0, 1, 2] rfl)
  · refine lv_iload_n hx hb dX4_covers_4 rfl (lv_at hl 2 rfl) ?_
    refine lv_if_lt (tgt := 22) hx hb dX4_covers_5 (by decide) (fun c_6 => ?_) (fun c_6 => ?_)
    · refine lv_iconst (v := 0) hx hb dX4_covers_22 (by decide) ?_
      exact kJ_3 (false) (by rw [if_neg c_1, if_pos c_6]) _ _ hX hS ls (lv_sub hl [0, 1, 2] rfl)
    · refine lv_iload_n hx hb dX4_covers_8 rfl (lv_at hl 2 rfl) ?_
      refine lv_aload_n hx hb dX4_covers_9 rfl (lv_at hl 0 rfl) ?_
      refine x_get (w := (wX G B tt)) (a := 29 + 2 * ro) (v := .int (x (29 + 2 * ro) 2)) hx hb hts iX4_covers_X4 hown hK hX (rw_lt hro) (shX_rw (G := G) (B := B) hro) rfl 2 (by decide) (hts _ kX4_covers_15) (fun _ h9 => h9) rfl dX4_covers_10 ?_
      refine lv_iload_n hx hb dX4_covers_13 rfl (lv_at hl 1 rfl) ?_
      refine lv_isub hx hb dX4_covers_14 ?_
      refine lv_icmp_gt (tgt := 22) hx hb dX4_covers_15 (by decide) (fun c_7 => ?_) (fun c_7 => ?_)
      · refine lv_iconst (v := 0) hx hb dX4_covers_22 (by decide) ?_
        exact kJ_3 (false) (by rw [if_neg c_1, if_neg c_6, if_pos c_7]) _ _ hX hS ls (lv_sub hl [0, 1, 2] rfl)
      · refine lv_iconst (v := 1) hx hb dX4_covers_18 (by decide) ?_
        refine lv_goto (tgt := 23) hx hb dX4_covers_19 (by decide) ?_
        exact kJ_3 (true) (by rw [if_neg c_1, if_neg c_6, if_neg c_7]) _ _ hX hS ls (lv_sub hl [0, 1, 2] rfl)
