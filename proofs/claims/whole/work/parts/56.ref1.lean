abbrev rmX8_in : Room := { frames := 0, cells := 0, slots := 0, locals := 0 }
set_option maxHeartbeats 4000000 in
set_option maxRecDepth 100000 in
theorem c_X8_in (l : Launch) (G : GG) (B : Nat) (hW : WOK (wM G B)) (x : Mem) (va : Int64) (vb : Int64) (vc : Int64) {v1 : Int32} {lo1 : Int32} {hi1 : Int32} (hv : va = v1.toInt64) (hlo : vb = lo1.toInt64) (hhi : vc = hi1.toInt64) : Met l yX8_in wsX8_in rmX8_in (XP G (wM G B) [.long (va), .long (vb), .long (vc)] x) (va_Qi (fun r u => r = bI (decide (lo1 ≤ v1) && decide (v1 ≤ hi1)) ∧ u = x) (XB G (wM G B)) (blkA B (B + 13))) 0 0 (blkA B (B + 13)) := by
  refine Met.ofW (cc := cX8_in) (maxL := 6) (ret := (some .boolean)) (by decide) rfl ?_
  intro pp ee ss mm aa bb mt cd s1 Bd hml hv
  obtain ⟨hae, hX, hK, hE⟩ := hv
  have hx := Bd.exec
  have hb := Bd.bytes
  have hr := Bd.returns
  have hts := atoms_spec (ws := wsX8_in) Bd.pre
  have hown : ss.vm.findClass RX8 = some mm.cls := findClass_of_methodNamed Bd.named
  have hlocks := Bd.notSynchronized
  have hS : va_S (blkA B (B + 13)) ss.heap ss.heap [] := va_S.rf
  have hl := lv_entry ([.long (va), .long (vb), .long (vc)]) (n := 6) (Nat.le_of_ble_eq_true rfl)
  subst hae
  rw [lg_entry_eq]
  generalize (lg_sl ([.long (va), .long (vb), .long (vc)]) ++ List.replicate (6 - (lg_sl ([.long (va), .long (vb), .long (vc)])).length) Slot.unset).toArray = ls at hl ⊢
  have hl : lv_has ls 6 [(0, .long (va)), (2, .long (vb)), (4, .long (vc))] := hl
  generalize ([.long (va), .long (vb), .long (vc)] : List Value).toArray = aa at hts ⊢
  show W pp l ee rmX8_in ss mm aa bb mt cd ss.heap [] 0 0 _ (F0 mm 0 ls [])
  generalize hQ : MQ bb (va_Qi (fun r u => r = bI (decide (lo1 ≤ v1) && decide (v1 ≤ hi1)) ∧ u = x) (XB G (wM G B)) (blkA B (B + 13))) aa ss 0 0 (blkA B (B + 13)) = Q
  refine lv_lload_n hx hb dX8_in_0 rfl (lv_at hl 0 rfl) ?_
  refine lv_lload_n hx hb dX8_in_1 rfl (lv_at hl 1 rfl) ?_
  refine W.lcmp hx hb dX8_in_2 ?_
  have kJ_3 : ∀ (v_2 : Bool) (_ : v_2 = (if va < vb then false else (if vc < va then false else true))) (H_4 : Heap) (lo_5 : List Loc) (_ : MR G (wM G B) x H_4) (_ : va_S (blkA B (B + 13)) ss.heap H_4 lo_5) (ls : Array Slot) (_ : lv_has ls 6 [(0, .long (va)), (2, .long (vb)), (4, .long (vc))]), W pp l ee rmX8_in ss mm aa bb mt cd H_4 lo_5 0 0 Q (F0 mm 18 ls [.int (bI (v_2))]) := by
    intro v_2 ev_2 H_4 lo_5 hX hS ls hl
    rw [← hQ]
    refine x_zret (v := bI (v_2)) (ty := .boolean) hx hb hr (bI_nar _) hX hS hlocks dX8_in_18 ?_
    refine ⟨?_, rfl⟩
    rw [ev_2, hv, hlo, hhi]
    exact in_eq
  refine x_lclt (tgt := 17) hx hb dX8_in_3 (by decide) (fun c_1 => ?_) (fun c_1 => ?_)
  · refine lv_iconst (v := 0) hx hb dX8_in_17 (by decide) ?_
    exact kJ_3 (false) (by rw [if_pos c_1]) _ _ hX hS ls (lv_sub hl [0, 1, 2] rfl)
  · refine lv_lload_n hx hb dX8_in_6 rfl (lv_at hl 0 rfl) ?_
    refine lv_lload hx hb dX8_in_7 (lv_at hl 2 rfl) ?_
    refine W.lcmp hx hb dX8_in_9 ?_
    refine x_lcgt (tgt := 17) hx hb dX8_in_10 (by decide) (fun c_6 => ?_) (fun c_6 => ?_)
    · refine lv_iconst (v := 0) hx hb dX8_in_17 (by decide) ?_
      exact kJ_3 (false) (by rw [if_neg c_1, if_pos c_6]) _ _ hX hS ls (lv_sub hl [0, 1, 2] rfl)
    · refine lv_iconst (v := 1) hx hb dX8_in_13 (by decide) ?_
      refine lv_goto (tgt := 18) hx hb dX8_in_14 (by decide) ?_
      exact kJ_3 (true) (by rw [if_neg c_1, if_neg c_6]) _ _ hX hS ls (lv_sub hl [0, 1, 2] rfl)

abbrev rmX8_has : Room := { frames := 0, cells := 0, slots := 0, locals := 0 }
set_option maxHeartbeats 4000000 in
set_option maxRecDepth 100000 in
theorem c_X8_has (l : Launch) (G : GG) (B : Nat) (hW : WOK (wM G B)) (x : Mem) {s : Nat} {ml : Nat} (hs : s < 256) (hml9 : ml < 8) : Met l yX8_has wsX8_has rmX8_has (XP G (wM G B) [.int (nI s), .int (nI ml)] x) (va_Qi (fun r u => r = bI (s.testBit ml) ∧ u = x) (XB G (wM G B)) (blkA B (B + 13))) 0 0 (blkA B (B + 13)) := by
  refine Met.ofW (cc := cX8_has) (maxL := 2) (ret := (some .boolean)) (by decide) rfl ?_
  intro pp ee ss mm aa bb mt cd s1 Bd hml hv
  obtain ⟨hae, hX, hK, hE⟩ := hv
  have hx := Bd.exec
  have hb := Bd.bytes
  have hr := Bd.returns
  have hts := atoms_spec (ws := wsX8_has) Bd.pre
  have hown : ss.vm.findClass RX8 = some mm.cls := findClass_of_methodNamed Bd.named
  have hlocks := Bd.notSynchronized
  have hS : va_S (blkA B (B + 13)) ss.heap ss.heap [] := va_S.rf
  have hl := lv_entry ([.int (nI s), .int (nI ml)]) (n := 2) (Nat.le_of_ble_eq_true rfl)
  subst hae
  rw [lg_entry_eq]
  generalize (lg_sl ([.int (nI s), .int (nI ml)]) ++ List.replicate (2 - (lg_sl ([.int (nI s), .int (nI ml)])).length) Slot.unset).toArray = ls at hl ⊢
  have hl : lv_has ls 2 [(0, .int (nI s)), (1, .int (nI ml))] := hl
  generalize ([.int (nI s), .int (nI ml)] : List Value).toArray = aa at hts ⊢
  show W pp l ee rmX8_has ss mm aa bb mt cd ss.heap [] 0 0 _ (F0 mm 0 ls [])
  generalize hQ : MQ bb (va_Qi (fun r u => r = bI (s.testBit ml) ∧ u = x) (XB G (wM G B)) (blkA B (B + 13))) aa ss 0 0 (blkA B (B + 13)) = Q
  refine lv_iload_n hx hb dX8_has_0 rfl (lv_at hl 0 rfl) ?_
  refine lv_iload_n hx hb dX8_has_1 rfl (lv_at hl 1 rfl) ?_
  refine lv_ishr hx hb dX8_has_2 ?_
  refine lv_iconst (v := 1) hx hb dX8_has_3 (by decide) ?_
  refine lv_iand hx hb dX8_has_4 ?_
  refine lv_iconst (v := 1) hx hb dX8_has_5 (by decide) ?_
  have kJ_3 : ∀ (v_2 : Bool) (_ : v_2 = (if ((nI s >>> (nI ml &&& 31)) &&& 1) = 1 then true else false)) (H_4 : Heap) (lo_5 : List Loc) (_ : MR G (wM G B) x H_4) (_ : va_S (blkA B (B + 13)) ss.heap H_4 lo_5) (ls : Array Slot) (_ : lv_has ls 2 [(0, .int (nI s)), (1, .int (nI ml))]), W pp l ee rmX8_has ss mm aa bb mt cd H_4 lo_5 0 0 Q (F0 mm 14 ls [.int (bI (v_2))]) := by
    intro v_2 ev_2 H_4 lo_5 hX hS ls hl
    rw [← hQ]
    refine x_zret (v := bI (v_2)) (ty := .boolean) hx hb hr (bI_nar _) hX hS hlocks dX8_has_14 ?_
    refine ⟨?_, rfl⟩
    rw [ev_2]
    exact has_eq s hs ml hml9
  refine lv_icmp_ne (tgt := 13) hx hb dX8_has_6 (by decide) (fun c_1 => ?_) (fun c_1 => ?_)
  · refine lv_iconst (v := 0) hx hb dX8_has_13 (by decide) ?_
    exact kJ_3 (false) (by rw [if_neg c_1]) _ _ hX hS ls (lv_sub hl [0, 1] rfl)
  · refine lv_iconst (v := 1) hx hb dX8_has_9 (by decide) ?_
    refine lv_goto (tgt := 14) hx hb dX8_has_10 (by decide) ?_
    exact kJ_3 (true) (by rw [if_pos c_1]) _ _ hX hS ls (lv_sub hl [0, 1] rfl)

theorem kX8_found_46 : (.fieldLink RX8 46 "WindTakenModel" "status" "I" : Cond) ∈ wsX8_found := by decide +kernel
theorem iX8_found_X8 : ∀ w ∈ wsX80, w ∈ wsX8_found := by decide +kernel
theorem kX8_found_50 : (.constant RX8 50 (-1000010) : Cond) ∈ wsX8_found := by decide +kernel
abbrev rmX8_found : Room := { frames := 0, cells := 0, slots := 0, locals := 0 }
set_option maxHeartbeats 4000000 in
set_option maxRecDepth 100000 in
theorem c_X8_found (l : Launch) (G : GG) (B : Nat) (hW : WOK (wM G B)) (x : Mem) (nu : Int32) (to : Int32) : Met l yX8_found wsX8_found rmX8_found (XP G (wM G B) [.ref (B + (0)), .int (nu), .int (to)] x) (va_Qi (fun r u => (nu = 0 → r = to) ∧ (nu ≠ 0 → r = -1000010 - nu) ∧ u = mst x 0 3 nu) (XB G (wM G B)) (blkA B (B + 13))) 0 0 (blkA B (B + 13)) := by
  refine Met.ofW (cc := cX8_found) (maxL := 3) (ret := (some .int)) (by decide) rfl ?_
  intro pp ee ss mm aa bb mt cd s1 Bd hml hv
  obtain ⟨hae, hX, hK, hE⟩ := hv
  have hx := Bd.exec
  have hb := Bd.bytes
  have hr := Bd.returns
  have hts := atoms_spec (ws := wsX8_found) Bd.pre
  have hown : ss.vm.findClass RX8 = some mm.cls := findClass_of_methodNamed Bd.named
  have hlocks := Bd.notSynchronized
  have hS : va_S (blkA B (B + 13)) ss.heap ss.heap [] := va_S.rf
  have hl := lv_entry ([.ref (B + (0)), .int (nu), .int (to)]) (n := 3) (Nat.le_of_ble_eq_true rfl)
  subst hae
  rw [lg_entry_eq]
  generalize (lg_sl ([.ref (B + (0)), .int (nu), .int (to)]) ++ List.replicate (3 - (lg_sl ([.ref (B + (0)), .int (nu), .int (to)])).length) Slot.unset).toArray = ls at hl ⊢
  have hl : lv_has ls 3 [(0, .ref (B + (0))), (1, .int (nu)), (2, .int (to))] := hl
  generalize ([.ref (B + (0)), .int (nu), .int (to)] : List Value).toArray = aa at hts ⊢
  show W pp l ee rmX8_found ss mm aa bb mt cd ss.heap [] 0 0 _ (F0 mm 0 ls [])
  generalize hQ : MQ bb (va_Qi (fun r u => (nu = 0 → r = to) ∧ (nu ≠ 0 → r = -1000010 - nu) ∧ u = mst x 0 3 nu) (XB G (wM G B)) (blkA B (B + 13))) aa ss 0 0 (blkA B (B + 13)) = Q
  refine lv_aload_n hx hb dX8_found_0 rfl (lv_at hl 0 rfl) ?_
  refine lv_iload_n hx hb dX8_found_1 rfl (lv_at hl 1 rfl) ?_
  refine x_put (w := (wM G B)) (a := 0) (v := nu) (ty := .int) hx hb hts iX8_found_X8 tyX8 tyX8_ok nmX8 hown hK hW hX hS (Nat.le_of_ble_eq_true rfl) (shM_0 (G := G) (B := B)) rfl 3 (by decide) (hts _ kX8_found_46) (fun _ h9 => h9) rfl (by decide +kernel) rfl rfl (Nat.le_of_ble_eq_true rfl) (shM_0 (G := G) (B := B)) dX8_found_2 (fun H_2 lo_3 hX hS => ?_)
  obtain ⟨x_1, ex_1⟩ : ∃ z, z = mst x (0) 3 (nu) := ⟨_, rfl⟩
  rw [← ex_1] at hX
  refine lv_iload_n hx hb dX8_found_5 rfl (lv_at hl 1 rfl) ?_
  have kJ_6 : ∀ (v_5 : Int32) (_ : v_5 = (if nu = 0 then to else (((-1000010)) - nu))) (H_7 : Heap) (lo_8 : List Loc) (_ : MR G (wM G B) x_1 H_7) (_ : va_S (blkA B (B + 13)) ss.heap H_7 lo_8) (ls : Array Slot) (_ : lv_has ls 3 [(0, .ref (B + (0))), (1, .int (nu)), (2, .int (to))]), W pp l ee rmX8_found ss mm aa bb mt cd H_7 lo_8 0 0 Q (F0 mm 17 ls [.int (v_5)]) := by
    intro v_5 ev_5 H_7 lo_8 hX hS ls hl
    rw [← hQ]
    refine x_iret (v := v_5) hx hb hr hX hS hlocks dX8_found_17 ?_
    exact ⟨fun z => by rw [ev_5, if_pos z], fun z => by rw [ev_5, if_neg z], ex_1⟩
  refine lv_if_ne (tgt := 13) hx hb dX8_found_6 (by decide) (fun c_4 => ?_) (fun c_4 => ?_)
  · refine lv_ldc (v := (-1000010)) hx hb hown (hts _ kX8_found_50) dX8_found_13 ?_
    refine lv_iload_n hx hb dX8_found_15 rfl (lv_at hl 1 rfl) ?_
    refine lv_isub hx hb dX8_found_16 ?_
    exact kJ_6 (((-1000010)) - nu) (by rw [if_neg c_4]) _ _ hX hS ls (lv_sub hl [0, 1, 2] rfl)
  · refine lv_iload_n hx hb dX8_found_9 rfl (lv_at hl 2 rfl) ?_
    refine lv_goto (tgt := 17) hx hb dX8_found_10 (by decide) ?_
    exact kJ_6 (to) (by rw [if_pos c_4]) _ _ hX hS ls (lv_sub hl [0, 1, 2] rfl)

theorem kX8_isRow_51 : (.constantLong RX8 51 (7) : Cond) ∈ wsX8_isRow := by decide +kernel
abbrev rmX8_isRow : Room := { frames := 1, cells := 0, slots := 0, locals := 25 }
set_option maxHeartbeats 4000000 in
set_option maxRecDepth 100000 in
theorem c_X8_isRow (l : Launch) (G : GG) (B : Nat) (hW : WOK (wM G B)) (x : Mem) (v : Int32) : Met l yX8_isRow wsX8_isRow rmX8_isRow (XP G (wM G B) [.int (v)] x) (va_Qi (fun r u => r = bI (decide (0 ≤ v) && decide (v ≤ 7)) ∧ u = x) (XB G (wM G B)) (blkA B (B + 13))) 0 0 (blkA B (B + 13)) := by
  refine Met.ofW (cc := cX8_isRow) (maxL := 1) (ret := (some .boolean)) (by decide) rfl ?_
  intro pp ee ss mm aa bb mt cd s1 Bd hml hv
  obtain ⟨hae, hX, hK, hE⟩ := hv
  have hx := Bd.exec
  have hb := Bd.bytes
  have hr := Bd.returns
  have hts := atoms_spec (ws := wsX8_isRow) Bd.pre
  have hown : ss.vm.findClass RX8 = some mm.cls := findClass_of_methodNamed Bd.named
  have hlocks := Bd.notSynchronized
  have hS : va_S (blkA B (B + 13)) ss.heap ss.heap [] := va_S.rf
  have hl := lv_entry ([.int (v)]) (n := 1) (Nat.le_of_ble_eq_true rfl)
  subst hae
  rw [lg_entry_eq]
  generalize (lg_sl ([.int (v)]) ++ List.replicate (1 - (lg_sl ([.int (v)])).length) Slot.unset).toArray = ls at hl ⊢
  have hl : lv_has ls 1 [(0, .int (v))] := hl
  generalize ([.int (v)] : List Value).toArray = aa at hts ⊢
  show W pp l ee rmX8_isRow ss mm aa bb mt cd ss.heap [] 0 0 _ (F0 mm 0 ls [])
  generalize hQ : MQ bb (va_Qi (fun r u => r = bI (decide (0 ≤ v) && decide (v ≤ 7)) ∧ u = x) (XB G (wM G B)) (blkA B (B + 13))) aa ss 0 0 (blkA B (B + 13)) = Q
  refine lv_iload_n hx hb dX8_isRow_0 rfl (lv_at hl 0 rfl) ?_
  refine lv_i2l (v := (v : Int32).toInt64) hx hb dX8_isRow_1 rfl ?_
  refine lv_lconst (v := 0) hx hb dX8_isRow_2 (by decide) ?_
  refine lv_ldc2 (v := 7) hx hb hown (hts _ kX8_isRow_51) dX8_isRow_3 ?_
  refine x_ip (w := (wM G B)) (x := x) (v := bI (decide (((0 : Int32)) ≤ ((v : Int32))) && decide (((v : Int32)) ≤ ((7 : Int32))))) (va_runS (As := [.long ((v : Int32).toInt64), .long (0), .long (7)]) (rest := []) ⟨hx, hb, hml, hown, hts⟩ (c_X8_in (l := l) (G := G) (B := B) (hW := hW) (x := x) (va := (v : Int32).toInt64) (vb := 0) (vc := 7) (v1 := (v : Int32)) (lo1 := (0 : Int32)) (hi1 := (7 : Int32)) (hv := (by first | rfl | decide)) (hlo := (by first | rfl | decide)) (hhi := (by first | rfl | decide))) (va_cwS 3 hts gX8_isRow_X8_in rfl rfl rfl (by decide +kernel) ⟨Nat.le_of_ble_eq_true rfl, Nat.le_of_ble_eq_true rfl⟩) (x_ps (w := (wM G B)) hW hX hK hE hS [.long ((v : Int32).toInt64), .long (0), .long (7)]) rfl rfl hl.1 rfl (lv_room (Nat.le_of_ble_eq_true rfl)) dX8_isRow_6 ⟨Nat.zero_le _, Nat.zero_le _⟩) hS (fun H_1 lo_2 hX hS => ?_)
  rw [← hQ]
  refine x_zret (v := bI (decide (((0 : Int32)) ≤ ((v : Int32))) && decide (((v : Int32)) ≤ ((7 : Int32))))) (ty := .boolean) hx hb hr (bI_nar _) hX hS hlocks dX8_isRow_9 ?_
  refine ⟨?_, rfl⟩
  first | rfl | simp [bI, ]

theorem kX8_isQuarter_180 : (.constantLong RX8 180 (3) : Cond) ∈ wsX8_isQuarter := by decide +kernel
abbrev rmX8_isQuarter : Room := { frames := 1, cells := 0, slots := 0, locals := 25 }
set_option maxHeartbeats 4000000 in
set_option maxRecDepth 100000 in
theorem c_X8_isQuarter (l : Launch) (G : GG) (B : Nat) (hW : WOK (wM G B)) (x : Mem) (v : Int32) : Met l yX8_isQuarter wsX8_isQuarter rmX8_isQuarter (XP G (wM G B) [.int (v)] x) (va_Qi (fun r u => r = bI (decide (0 ≤ v) && decide (v ≤ 3)) ∧ u = x) (XB G (wM G B)) (blkA B (B + 13))) 0 0 (blkA B (B + 13)) := by
  refine Met.ofW (cc := cX8_isQuarter) (maxL := 1) (ret := (some .boolean)) (by decide) rfl ?_
  intro pp ee ss mm aa bb mt cd s1 Bd hml hv
  obtain ⟨hae, hX, hK, hE⟩ := hv
  have hx := Bd.exec
  have hb := Bd.bytes
  have hr := Bd.returns
  have hts := atoms_spec (ws := wsX8_isQuarter) Bd.pre
  have hown : ss.vm.findClass RX8 = some mm.cls := findClass_of_methodNamed Bd.named
  have hlocks := Bd.notSynchronized
  have hS : va_S (blkA B (B + 13)) ss.heap ss.heap [] := va_S.rf
  have hl := lv_entry ([.int (v)]) (n := 1) (Nat.le_of_ble_eq_true rfl)
  subst hae
  rw [lg_entry_eq]
  generalize (lg_sl ([.int (v)]) ++ List.replicate (1 - (lg_sl ([.int (v)])).length) Slot.unset).toArray = ls at hl ⊢
  have hl : lv_has ls 1 [(0, .int (v))] := hl
  generalize ([.int (v)] : List Value).toArray = aa at hts ⊢
  show W pp l ee rmX8_isQuarter ss mm aa bb mt cd ss.heap [] 0 0 _ (F0 mm 0 ls [])
  generalize hQ : MQ bb (va_Qi (fun r u => r = bI (decide (0 ≤ v) && decide (v ≤ 3)) ∧ u = x) (XB G (wM G B)) (blkA B (B + 13))) aa ss 0 0 (blkA B (B + 13)) = Q
  refine lv_iload_n hx hb dX8_isQuarter_0 rfl (lv_at hl 0 rfl) ?_
  refine lv_i2l (v := (v : Int32).toInt64) hx hb dX8_isQuarter_1 rfl ?_
  refine lv_lconst (v := 0) hx hb dX8_isQuarter_2 (by decide) ?_
  refine lv_ldc2 (v := 3) hx hb hown (hts _ kX8_isQuarter_180) dX8_isQuarter_3 ?_
  refine x_ip (w := (wM G B)) (x := x) (v := bI (decide (((0 : Int32)) ≤ ((v : Int32))) && decide (((v : Int32)) ≤ ((3 : Int32))))) (va_runS (As := [.long ((v : Int32).toInt64), .long (0), .long (3)]) (rest := []) ⟨hx, hb, hml, hown, hts⟩ (c_X8_in (l := l) (G := G) (B := B) (hW := hW) (x := x) (va := (v : Int32).toInt64) (vb := 0) (vc := 3) (v1 := (v : Int32)) (lo1 := (0 : Int32)) (hi1 := (3 : Int32)) (hv := (by first | rfl | decide)) (hlo := (by first | rfl | decide)) (hhi := (by first | rfl | decide))) (va_cwS 3 hts gX8_isQuarter_X8_in rfl rfl rfl (by decide +kernel) ⟨Nat.le_of_ble_eq_true rfl, Nat.le_of_ble_eq_true rfl⟩) (x_ps (w := (wM G B)) hW hX hK hE hS [.long ((v : Int32).toInt64), .long (0), .long (3)]) rfl rfl hl.1 rfl (lv_room (Nat.le_of_ble_eq_true rfl)) dX8_isQuarter_6 ⟨Nat.zero_le _, Nat.zero_le _⟩) hS (fun H_1 lo_2 hX hS => ?_)
  rw [← hQ]
  refine x_zret (v := bI (decide (((0 : Int32)) ≤ ((v : Int32))) && decide (((v : Int32)) ≤ ((3 : Int32))))) (ty := .boolean) hx hb hr (bI_nar _) hX hS hlocks dX8_isQuarter_9 ?_
  refine ⟨?_, rfl⟩
  first | rfl | simp [bI, ]

theorem kX8_isWind_213 : (.constantLong RX8 213 (100) : Cond) ∈ wsX8_isWind := by decide +kernel
abbrev rmX8_isWind : Room := { frames := 2, cells := 0, slots := 0, locals := 45 }
set_option maxHeartbeats 4000000 in
set_option maxRecDepth 100000 in
theorem c_X8_isWind (l : Launch) (G : GG) (B : Nat) (hW : WOK (wM G B)) (x : Mem) (q : Int32) (v : Int32) : Met l yX8_isWind wsX8_isWind rmX8_isWind (XP G (wM G B) [.int (q), .int (v)] x) (va_Qi (fun r u => r = bI ((decide (0 ≤ q) && decide (q ≤ 3)) && (decide (0 ≤ v) && decide (v ≤ 100))) ∧ u = x) (XB G (wM G B)) (blkA B (B + 13))) 0 0 (blkA B (B + 13)) := by
  refine Met.ofW (cc := cX8_isWind) (maxL := 2) (ret := (some .boolean)) (by decide) rfl ?_
  intro pp ee ss mm aa bb mt cd s1 Bd hml hv
  obtain ⟨hae, hX, hK, hE⟩ := hv
  have hx := Bd.exec
  have hb := Bd.bytes
  have hr := Bd.returns
  have hts := atoms_spec (ws := wsX8_isWind) Bd.pre
  have hown : ss.vm.findClass RX8 = some mm.cls := findClass_of_methodNamed Bd.named
  have hlocks := Bd.notSynchronized
  have hS : va_S (blkA B (B + 13)) ss.heap ss.heap [] := va_S.rf
  have hl := lv_entry ([.int (q), .int (v)]) (n := 2) (Nat.le_of_ble_eq_true rfl)
  subst hae
  rw [lg_entry_eq]
  generalize (lg_sl ([.int (q), .int (v)]) ++ List.replicate (2 - (lg_sl ([.int (q), .int (v)])).length) Slot.unset).toArray = ls at hl ⊢
  have hl : lv_has ls 2 [(0, .int (q)), (1, .int (v))] := hl
  generalize ([.int (q), .int (v)] : List Value).toArray = aa at hts ⊢
  show W pp l ee rmX8_isWind ss mm aa bb mt cd ss.heap [] 0 0 _ (F0 mm 0 ls [])
  generalize hQ : MQ bb (va_Qi (fun r u => r = bI ((decide (0 ≤ q) && decide (q ≤ 3)) && (decide (0 ≤ v) && decide (v ≤ 100))) ∧ u = x) (XB G (wM G B)) (blkA B (B + 13))) aa ss 0 0 (blkA B (B + 13)) = Q
  refine lv_iload_n hx hb dX8_isWind_0 rfl (lv_at hl 0 rfl) ?_
  refine x_ip (w := (wM G B)) (x := x) (v := bI (decide (0 ≤ q) && decide (q ≤ 3))) (va_runS (As := [.int (q)]) (rest := []) ⟨hx, hb, hml, hown, hts⟩ (c_X8_isQuarter (l := l) (G := G) (B := B) (hW := hW) (x := x) (v := q)) (va_cwS 1 hts gX8_isWind_X8_isQuarter rfl rfl rfl (by decide +kernel) ⟨Nat.le_of_ble_eq_true rfl, Nat.le_of_ble_eq_true rfl⟩) (x_ps (w := (wM G B)) hW hX hK hE hS [.int (q)]) rfl rfl hl.1 rfl (lv_room (Nat.le_of_ble_eq_true rfl)) dX8_isWind_1 ⟨Nat.zero_le _, Nat.zero_le _⟩) hS (fun H_1 lo_2 hX hS => ?_)
  have kJ_5 : ∀ (v_4 : Bool) (_ : v_4 = (if (decide (0 ≤ q) && decide (q ≤ 3)) = false then false else (if (decide (((0 : Int32)) ≤ ((v : Int32))) && decide (((v : Int32)) ≤ ((100 : Int32)))) = false then false else true))) (H_6 : Heap) (lo_7 : List Loc) (_ : MR G (wM G B) x H_6) (_ : va_S (blkA B (B + 13)) ss.heap H_6 lo_7) (ls : Array Slot) (_ : lv_has ls 2 [(0, .int (q)), (1, .int (v))]), W pp l ee rmX8_isWind ss mm aa bb mt cd H_6 lo_7 0 0 Q (F0 mm 24 ls [.int (bI (v_4))]) := by
    intro v_4 ev_4 H_6 lo_7 hX hS ls hl
    rw [← hQ]
    refine x_zret (v := bI (v_4)) (ty := .boolean) hx hb hr (bI_nar _) hX hS hlocks dX8_isWind_24 ?_
    refine ⟨?_, rfl⟩
    rw [ev_4]
    exact and_ite _ _
  refine x_ifeq (tgt := 23) hx hb dX8_isWind_4 (by decide) (fun c_3 => ?_) (fun c_3 => ?_)
  · refine lv_iconst (v := 0) hx hb dX8_isWind_23 (by decide) ?_
    exact kJ_5 (false) (by rw [if_pos c_3]) _ _ hX hS ls (lv_sub hl [0, 1] rfl)
  · refine lv_iload_n hx hb dX8_isWind_7 rfl (lv_at hl 1 rfl) ?_
    refine lv_i2l (v := (v : Int32).toInt64) hx hb dX8_isWind_8 rfl ?_
    refine lv_lconst (v := 0) hx hb dX8_isWind_9 (by decide) ?_
    refine lv_ldc2 (v := 100) hx hb hown (hts _ kX8_isWind_213) dX8_isWind_10 ?_
    refine x_ip (w := (wM G B)) (x := x) (v := bI (decide (((0 : Int32)) ≤ ((v : Int32))) && decide (((v : Int32)) ≤ ((100 : Int32))))) (va_runS (As := [.long ((v : Int32).toInt64), .long (0), .long (100)]) (rest := []) ⟨hx, hb, hml, hown, hts⟩ (c_X8_in (l := l) (G := G) (B := B) (hW := hW) (x := x) (va := (v : Int32).toInt64) (vb := 0) (vc := 100) (v1 := (v : Int32)) (lo1 := (0 : Int32)) (hi1 := (100 : Int32)) (hv := (by first | rfl | decide)) (hlo := (by first | rfl | decide)) (hhi := (by first | rfl | decide))) (va_cwS 3 hts gX8_isWind_X8_in rfl rfl rfl (by decide +kernel) ⟨Nat.le_of_ble_eq_true rfl, Nat.le_of_ble_eq_true rfl⟩) (x_ps (w := (wM G B)) hW hX hK hE hS [.long ((v : Int32).toInt64), .long (0), .long (100)]) rfl rfl hl.1 rfl (lv_room (Nat.le_of_ble_eq_true rfl)) dX8_isWind_13 ⟨Nat.zero_le _, Nat.zero_le _⟩) hS (fun H_8 lo_9 hX hS => ?_)
    refine x_ifeq (tgt := 23) hx hb dX8_isWind_16 (by decide) (fun c_10 => ?_) (fun c_10 => ?_)
    · refine lv_iconst (v := 0) hx hb dX8_isWind_23 (by decide) ?_
      exact kJ_5 (false) (by rw [if_neg (ne_of_true c_3), if_pos c_10]) _ _ hX hS ls (lv_sub hl [0, 1] rfl)
    · refine lv_iconst (v := 1) hx hb dX8_isWind_19 (by decide) ?_
      refine lv_goto (tgt := 24) hx hb dX8_isWind_20 (by decide) ?_
      exact kJ_5 (true) (by rw [if_neg (ne_of_true c_3), if_neg (ne_of_true c_10)]) _ _ hX hS ls (lv_sub hl [0, 1] rfl)

theorem kX8_isMissing_7 : (.fieldLink RX8 7 "WindTakenModel" "lanes" "[I" : Cond) ∈ wsX8_isMissing := by decide +kernel
theorem iX8_isMissing_X8 : ∀ w ∈ wsX80, w ∈ wsX8_isMissing := by decide +kernel
abbrev rmX8_isMissing : Room := { frames := 0, cells := 0, slots := 0, locals := 0 }
set_option maxHeartbeats 4000000 in
set_option maxRecDepth 100000 in
theorem c_X8_isMissing (l : Launch) (G : GG) (B : Nat) (hW : WOK (wM G B)) (x : Mem) {i : Nat} (hi : i < 8) : Met l yX8_isMissing wsX8_isMissing rmX8_isMissing (XP G (wM G B) [.ref (B + (0)), .int (nI i)] x) (va_Qi (fun r u => r = bI (decide (x 1 i < 0)) ∧ u = x) (XB G (wM G B)) (blkA B (B + 13))) 0 0 (blkA B (B + 13)) := by
  refine Met.ofW (cc := cX8_isMissing) (maxL := 2) (ret := (some .boolean)) (by decide) rfl ?_
  intro pp ee ss mm aa bb mt cd s1 Bd hml hv
  obtain ⟨hae, hX, hK, hE⟩ := hv
  have hx := Bd.exec
  have hb := Bd.bytes
  have hr := Bd.returns
  have hts := atoms_spec (ws := wsX8_isMissing) Bd.pre
  have hown : ss.vm.findClass RX8 = some mm.cls := findClass_of_methodNamed Bd.named
  have hlocks := Bd.notSynchronized
  have hS : va_S (blkA B (B + 13)) ss.heap ss.heap [] := va_S.rf
  have hl := lv_entry ([.ref (B + (0)), .int (nI i)]) (n := 2) (Nat.le_of_ble_eq_true rfl)
  subst hae
  rw [lg_entry_eq]
  generalize (lg_sl ([.ref (B + (0)), .int (nI i)]) ++ List.replicate (2 - (lg_sl ([.ref (B + (0)), .int (nI i)])).length) Slot.unset).toArray = ls at hl ⊢
  have hl : lv_has ls 2 [(0, .ref (B + (0))), (1, .int (nI i))] := hl
  generalize ([.ref (B + (0)), .int (nI i)] : List Value).toArray = aa at hts ⊢
  show W pp l ee rmX8_isMissing ss mm aa bb mt cd ss.heap [] 0 0 _ (F0 mm 0 ls [])
  generalize hQ : MQ bb (va_Qi (fun r u => r = bI (decide (x 1 i < 0)) ∧ u = x) (XB G (wM G B)) (blkA B (B + 13))) aa ss 0 0 (blkA B (B + 13)) = Q
  refine lv_aload_n hx hb dX8_isMissing_0 rfl (lv_at hl 0 rfl) ?_
  refine x_get (w := (wM G B)) (a := 0) (v := .ref (B + (1))) hx hb hts iX8_isMissing_X8 hown hK hX (Nat.le_of_ble_eq_true rfl) (shM_0 (G := G) (B := B)) rfl 0 (by decide) (hts _ kX8_isMissing_7) (fun _ h9 => h9) rfl dX8_isMissing_1 ?_
  refine lv_iload_n hx hb dX8_isMissing_4 rfl (lv_at hl 1 rfl) ?_
  refine x_iald (w := (wM G B)) (a := 1) (n := 8) (j := i) hx hb hK hX (Nat.le_of_ble_eq_true rfl) (shM_a (G := G) (B := B) (a := 1) (f := x (1)) (by decide)) rfl (by omega) (by decide) dX8_isMissing_5 ?_
  have kJ_3 : ∀ (v_2 : Bool) (_ : v_2 = (if 0 ≤ (x (1) i) then false else true)) (H_4 : Heap) (lo_5 : List Loc) (_ : MR G (wM G B) x H_4) (_ : va_S (blkA B (B + 13)) ss.heap H_4 lo_5) (ls : Array Slot) (_ : lv_has ls 2 [(0, .ref (B + (0))), (1, .int (nI i))]), W pp l ee rmX8_isMissing ss mm aa bb mt cd H_4 lo_5 0 0 Q (F0 mm 14 ls [.int (bI (v_2))]) := by
    intro v_2 ev_2 H_4 lo_5 hX hS ls hl
    rw [← hQ]
    refine x_zret (v := bI (v_2)) (ty := .boolean) hx hb hr (bI_nar _) hX hS hlocks dX8_isMissing_14 ?_
    refine ⟨?_, rfl⟩
    rw [ev_2]
    exact lt0_eq _
  refine lv_if_ge (tgt := 13) hx hb dX8_isMissing_6 (by decide) (fun c_1 => ?_) (fun c_1 => ?_)
  · refine lv_iconst (v := 0) hx hb dX8_isMissing_13 (by decide) ?_
    exact kJ_3 (false) (by rw [if_pos c_1]) _ _ hX hS ls (lv_sub hl [0, 1] rfl)
  · refine lv_iconst (v := 1) hx hb dX8_isMissing_9 (by decide) ?_
    refine lv_goto (tgt := 14) hx hb dX8_isMissing_10 (by decide) ?_
    exact kJ_3 (true) (by rw [if_neg c_1]) _ _ hX hS ls (lv_sub hl [0, 1] rfl)

theorem kX8_narrow_68 : (.constant RX8 68 (65535) : Cond) ∈ wsX8_narrow := by decide +kernel
theorem kX8_narrow_69 : (.constant RX8 69 (32768) : Cond) ∈ wsX8_narrow := by decide +kernel
abbrev rmX8_narrow : Room := { frames := 0, cells := 0, slots := 0, locals := 0 }
set_option maxHeartbeats 4000000 in
set_option maxRecDepth 100000 in
theorem c_X8_narrow (l : Launch) (G : GG) (B : Nat) (hW : WOK (wM G B)) (x : Mem) (la : Int32) (v : Int32) : Met l yX8_narrow wsX8_narrow rmX8_narrow (XP G (wM G B) [.int (la), .int (v)] x) (va_Qi (fun r u => r = (narI la v) ∧ u = x) (XB G (wM G B)) (blkA B (B + 13))) 0 0 (blkA B (B + 13)) := by
  refine Met.ofW (cc := cX8_narrow) (maxL := 2) (ret := (some .int)) (by decide) rfl ?_
  intro pp ee ss mm aa bb mt cd s1 Bd hml hv
  obtain ⟨hae, hX, hK, hE⟩ := hv
  have hx := Bd.exec
  have hb := Bd.bytes
  have hr := Bd.returns
  have hts := atoms_spec (ws := wsX8_narrow) Bd.pre
  have hown : ss.vm.findClass RX8 = some mm.cls := findClass_of_methodNamed Bd.named
  have hlocks := Bd.notSynchronized
  have hS : va_S (blkA B (B + 13)) ss.heap ss.heap [] := va_S.rf
  have hl := lv_entry ([.int (la), .int (v)]) (n := 2) (Nat.le_of_ble_eq_true rfl)
  subst hae
  rw [lg_entry_eq]
  generalize (lg_sl ([.int (la), .int (v)]) ++ List.replicate (2 - (lg_sl ([.int (la), .int (v)])).length) Slot.unset).toArray = ls at hl ⊢
  have hl : lv_has ls 2 [(0, .int (la)), (1, .int (v))] := hl
  generalize ([.int (la), .int (v)] : List Value).toArray = aa at hts ⊢
  show W pp l ee rmX8_narrow ss mm aa bb mt cd ss.heap [] 0 0 _ (F0 mm 0 ls [])
  generalize hQ : MQ bb (va_Qi (fun r u => r = (narI la v) ∧ u = x) (XB G (wM G B)) (blkA B (B + 13))) aa ss 0 0 (blkA B (B + 13)) = Q
  refine lv_iload_n hx hb dX8_narrow_0 rfl (lv_at hl 0 rfl) ?_
  have kJ_3 : ∀ (v_2 : Int32) (_ : v_2 = (if la = 0 then (((v &&& 255) ^^^ 128) - 128) else (if la = 1 then (((v &&& 65535) ^^^ 32768) - 32768) else v))) (H_4 : Heap) (lo_5 : List Loc) (_ : MR G (wM G B) x H_4) (_ : va_S (blkA B (B + 13)) ss.heap H_4 lo_5) (ls : Array Slot) (_ : lv_has ls 2 [(0, .int (la)), (1, .int (v))]), W pp l ee rmX8_narrow ss mm aa bb mt cd H_4 lo_5 0 0 Q (F0 mm 39 ls [.int (v_2)]) := by
    intro v_2 ev_2 H_4 lo_5 hX hS ls hl
    rw [← hQ]
    refine x_iret (v := v_2) hx hb hr hX hS hlocks dX8_narrow_39 ?_
    refine ⟨?_, rfl⟩
    rw [ev_2]
    exact nar_eq la v
  refine lv_if_ne (tgt := 20) hx hb dX8_narrow_1 (by decide) (fun c_1 => ?_) (fun c_1 => ?_)
  · refine lv_iload_n hx hb dX8_narrow_20 rfl (lv_at hl 0 rfl) ?_
    refine lv_iconst (v := 1) hx hb dX8_narrow_21 (by decide) ?_
    refine lv_icmp_ne (tgt := 38) hx hb dX8_narrow_22 (by decide) (fun c_6 => ?_) (fun c_6 => ?_)
    · refine lv_iload_n hx hb dX8_narrow_38 rfl (lv_at hl 1 rfl) ?_
      exact kJ_3 (v) (by rw [if_neg c_1, if_neg c_6]) _ _ hX hS ls (lv_sub hl [0, 1] rfl)
    · refine lv_iload_n hx hb dX8_narrow_25 rfl (lv_at hl 1 rfl) ?_
      refine lv_ldc (v := 65535) hx hb hown (hts _ kX8_narrow_68) dX8_narrow_26 ?_
      refine lv_iand hx hb dX8_narrow_28 ?_
      refine lv_ldc (v := 32768) hx hb hown (hts _ kX8_narrow_69) dX8_narrow_29 ?_
      refine lv_ixor hx hb dX8_narrow_31 ?_
      refine lv_ldc (v := 32768) hx hb hown (hts _ kX8_narrow_69) dX8_narrow_32 ?_
      refine lv_isub hx hb dX8_narrow_34 ?_
      refine lv_goto (tgt := 39) hx hb dX8_narrow_35 (by decide) ?_
      exact kJ_3 (((v &&& 65535) ^^^ 32768) - 32768) (by rw [if_neg c_1, if_pos c_6]) _ _ hX hS ls (lv_sub hl [0, 1] rfl)
  · refine lv_iload_n hx hb dX8_narrow_4 rfl (lv_at hl 1 rfl) ?_
    refine lv_sipush (v := 255) hx hb dX8_narrow_5 (by decide) ?_
    refine lv_iand hx hb dX8_narrow_8 ?_
    refine lv_sipush (v := 128) hx hb dX8_narrow_9 (by decide) ?_
    refine lv_ixor hx hb dX8_narrow_12 ?_
    refine lv_sipush (v := 128) hx hb dX8_narrow_13 (by decide) ?_
    refine lv_isub hx hb dX8_narrow_16 ?_
    refine lv_goto (tgt := 39) hx hb dX8_narrow_17 (by decide) ?_
    exact kJ_3 (((v &&& 255) ^^^ 128) - 128) (by rw [if_pos c_1]) _ _ hX hS ls (lv_sub hl [0, 1] rfl)

abbrev rmX8_isWithin : Room := { frames := 0, cells := 0, slots := 0, locals := 0 }
set_option maxHeartbeats 4000000 in
set_option maxRecDepth 100000 in
theorem c_X8_isWithin (l : Launch) (G : GG) (B : Nat) (hW : WOK (wM G B)) (x : Mem) (i : Int32) (k : Int32) (z1 : Int32) {sz : Nat} (hsz : z1 = nI sz) (hsz40 : sz ≤ 40) : Met l yX8_isWithin wsX8_isWithin rmX8_isWithin (XP G (wM G B) [.int (i), .int (k), .int (z1)] x) (va_Qi (fun r u => r = bI (decide (0 ≤ i) && (decide (0 ≤ k) && decide (k ≤ z1 - i))) ∧ u = x) (XB G (wM G B)) (blkA B (B + 13))) 0 0 (blkA B (B + 13)) := by
  refine Met.ofW (cc := cX8_isWithin) (maxL := 3) (ret := (some .boolean)) (by decide) rfl ?_
  intro pp ee ss mm aa bb mt cd s1 Bd hml hv
  obtain ⟨hae, hX, hK, hE⟩ := hv
  have hx := Bd.exec
  have hb := Bd.bytes
  have hr := Bd.returns
  have hts := atoms_spec (ws := wsX8_isWithin) Bd.pre
  have hown : ss.vm.findClass RX8 = some mm.cls := findClass_of_methodNamed Bd.named
  have hlocks := Bd.notSynchronized
  have hS : va_S (blkA B (B + 13)) ss.heap ss.heap [] := va_S.rf
  have hl := lv_entry ([.int (i), .int (k), .int (z1)]) (n := 3) (Nat.le_of_ble_eq_true rfl)
  subst hae
  rw [lg_entry_eq]
  generalize (lg_sl ([.int (i), .int (k), .int (z1)]) ++ List.replicate (3 - (lg_sl ([.int (i), .int (k), .int (z1)])).length) Slot.unset).toArray = ls at hl ⊢
  have hl : lv_has ls 3 [(0, .int (i)), (1, .int (k)), (2, .int (z1))] := hl
  generalize ([.int (i), .int (k), .int (z1)] : List Value).toArray = aa at hts ⊢
  show W pp l ee rmX8_isWithin ss mm aa bb mt cd ss.heap [] 0 0 _ (F0 mm 0 ls [])
  generalize hQ : MQ bb (va_Qi (fun r u => r = bI (decide (0 ≤ i) && (decide (0 ≤ k) && decide (k ≤ z1 - i))) ∧ u = x) (XB G (wM G B)) (blkA B (B + 13))) aa ss 0 0 (blkA B (B + 13)) = Q
  refine lv_iload_n hx hb dX8_isWithin_0 rfl (lv_at hl 0 rfl) ?_
  have kJ_3 : ∀ (v_2 : Bool) (_ : v_2 = (if i < 0 then false else (if k < 0 then false else (if ((z1 : Int32).toInt64) < (((i : Int32).toInt64) + ((k : Int32).toInt64)) then false else true)))) (H_4 : Heap) (lo_5 : List Loc) (_ : MR G (wM G B) x H_4) (_ : va_S (blkA B (B + 13)) ss.heap H_4 lo_5) (ls : Array Slot) (_ : lv_has ls 3 [(0, .int (i)), (1, .int (k)), (2, .int (z1))]), W pp l ee rmX8_isWithin ss mm aa bb mt cd H_4 lo_5 0 0 Q (F0 mm 24 ls [.int (bI (v_2))]) := by
    intro v_2 ev_2 H_4 lo_5 hX hS ls hl
    rw [← hQ]
    refine x_zret (v := bI (v_2)) (ty := .boolean) hx hb hr (bI_nar _) hX hS hlocks dX8_isWithin_24 ?_
    refine ⟨?_, rfl⟩
    rw [ev_2, hsz]
    exact wi_eq hsz40
  refine lv_if_lt (tgt := 23) hx hb dX8_isWithin_1 (by decide) (fun c_1 => ?_) (fun c_1 => ?_)
  · refine lv_iconst (v := 0) hx hb dX8_isWithin_23 (by decide) ?_
    exact kJ_3 (false) (by rw [if_pos c_1]) _ _ hX hS ls (lv_sub hl [0, 1, 2] rfl)
  · refine lv_iload_n hx hb dX8_isWithin_4 rfl (lv_at hl 1 rfl) ?_
    refine lv_if_lt (tgt := 23) hx hb dX8_isWithin_5 (by decide) (fun c_6 => ?_) (fun c_6 => ?_)
    · refine lv_iconst (v := 0) hx hb dX8_isWithin_23 (by decide) ?_
      exact kJ_3 (false) (by rw [if_neg c_1, if_pos c_6]) _ _ hX hS ls (lv_sub hl [0, 1, 2] rfl)
    · refine lv_iload_n hx hb dX8_isWithin_8 rfl (lv_at hl 0 rfl) ?_
      refine lv_i2l (v := (i : Int32).toInt64) hx hb dX8_isWithin_9 rfl ?_
      refine lv_iload_n hx hb dX8_isWithin_10 rfl (lv_at hl 1 rfl) ?_
      refine lv_i2l (v := (k : Int32).toInt64) hx hb dX8_isWithin_11 rfl ?_
      refine lv_ladd hx hb dX8_isWithin_12 ?_
      refine lv_iload_n hx hb dX8_isWithin_13 rfl (lv_at hl 2 rfl) ?_
      refine lv_i2l (v := (z1 : Int32).toInt64) hx hb dX8_isWithin_14 rfl ?_
      refine W.lcmp hx hb dX8_isWithin_15 ?_
      refine x_lcgt (tgt := 23) hx hb dX8_isWithin_16 (by decide) (fun c_7 => ?_) (fun c_7 => ?_)
      · refine lv_iconst (v := 0) hx hb dX8_isWithin_23 (by decide) ?_
        exact kJ_3 (false) (by rw [if_neg c_1, if_neg c_6, if_pos c_7]) _ _ hX hS ls (lv_sub hl [0, 1, 2] rfl)
      · refine lv_iconst (v := 1) hx hb dX8_isWithin_19 (by decide) ?_
        refine lv_goto (tgt := 24) hx hb dX8_isWithin_20 (by decide) ?_
        exact kJ_3 (true) (by rw [if_neg c_1, if_neg c_6, if_neg c_7]) _ _ hX hS ls (lv_sub hl [0, 1, 2] rfl)

theorem kX8_isMill_22 : (.fieldLink RX8 22 "WindTakenModel" "now" "[I" : Cond) ∈ wsX8_isMill := by decide +kernel
theorem iX8_isMill_X8 : ∀ w ∈ wsX80, w ∈ wsX8_isMill := by decide +kernel
abbrev rmX8_isMill : Room := { frames := 1, cells := 0, slots := 0, locals := 25 }
set_option maxHeartbeats 4000000 in
set_option maxRecDepth 100000 in
theorem c_X8_isMill (l : Launch) (G : GG) (B : Nat) (hW : WOK (wM G B)) (x : Mem) (v : Int32) {n : Nat} (hN : x 5 0 = nI n) (hn8 : n ≤ 8) : Met l yX8_isMill wsX8_isMill rmX8_isMill (XP G (wM G B) [.ref (B + (0)), .int (v)] x) (va_Qi (fun r u => r = bI (decide (0 ≤ v) && decide (v < nI n)) ∧ u = x) (XB G (wM G B)) (blkA B (B + 13))) 0 0 (blkA B (B + 13)) := by
  refine Met.ofW (cc := cX8_isMill) (maxL := 2) (ret := (some .boolean)) (by decide) rfl ?_
  intro pp ee ss mm aa bb mt cd s1 Bd hml hv
  obtain ⟨hae, hX, hK, hE⟩ := hv
  have hx := Bd.exec
  have hb := Bd.bytes
  have hr := Bd.returns
  have hts := atoms_spec (ws := wsX8_isMill) Bd.pre
  have hown : ss.vm.findClass RX8 = some mm.cls := findClass_of_methodNamed Bd.named
  have hlocks := Bd.notSynchronized
  have hS : va_S (blkA B (B + 13)) ss.heap ss.heap [] := va_S.rf
  have hl := lv_entry ([.ref (B + (0)), .int (v)]) (n := 2) (Nat.le_of_ble_eq_true rfl)
  subst hae
  rw [lg_entry_eq]
  generalize (lg_sl ([.ref (B + (0)), .int (v)]) ++ List.replicate (2 - (lg_sl ([.ref (B + (0)), .int (v)])).length) Slot.unset).toArray = ls at hl ⊢
  have hl : lv_has ls 2 [(0, .ref (B + (0))), (1, .int (v))] := hl
  generalize ([.ref (B + (0)), .int (v)] : List Value).toArray = aa at hts ⊢
  show W pp l ee rmX8_isMill ss mm aa bb mt cd ss.heap [] 0 0 _ (F0 mm 0 ls [])
  generalize hQ : MQ bb (va_Qi (fun r u => r = bI (decide (0 ≤ v) && decide (v < nI n)) ∧ u = x) (XB G (wM G B)) (blkA B (B + 13))) aa ss 0 0 (blkA B (B + 13)) = Q
  refine lv_iload_n hx hb dX8_isMill_0 rfl (lv_at hl 1 rfl) ?_
  refine lv_i2l (v := (v : Int32).toInt64) hx hb dX8_isMill_1 rfl ?_
  refine lv_lconst (v := 0) hx hb dX8_isMill_2 (by decide) ?_
  refine lv_aload_n hx hb dX8_isMill_3 rfl (lv_at hl 0 rfl) ?_
  refine x_get (w := (wM G B)) (a := 0) (v := .ref (B + (5))) hx hb hts iX8_isMill_X8 hown hK hX (Nat.le_of_ble_eq_true rfl) (shM_0 (G := G) (B := B)) rfl 7 (by decide) (hts _ kX8_isMill_22) (fun _ h9 => h9) rfl dX8_isMill_4 ?_
  refine lv_iconst (v := 0) hx hb dX8_isMill_7 (by decide) ?_
  refine x_iald (w := (wM G B)) (a := 5) (n := 93) (j := 0) hx hb hK hX (Nat.le_of_ble_eq_true rfl) (shM_a (G := G) (B := B) (a := 5) (f := x (5)) (by decide)) rfl (by decide) (by decide) dX8_isMill_8 ?_
  refine lv_iconst (v := 1) hx hb dX8_isMill_9 (by decide) ?_
  refine lv_isub hx hb dX8_isMill_10 ?_
  refine lv_i2l (v := ((x (5) 0) - 1 : Int32).toInt64) hx hb dX8_isMill_11 rfl ?_
  refine x_ip (w := (wM G B)) (x := x) (v := bI (decide (((0 : Int32)) ≤ ((v : Int32))) && decide (((v : Int32)) ≤ (((x (5) 0) - 1 : Int32))))) (va_runS (As := [.long ((v : Int32).toInt64), .long (0), .long (((x (5) 0) - 1 : Int32).toInt64)]) (rest := []) ⟨hx, hb, hml, hown, hts⟩ (c_X8_in (l := l) (G := G) (B := B) (hW := hW) (x := x) (va := (v : Int32).toInt64) (vb := 0) (vc := ((x (5) 0) - 1 : Int32).toInt64) (v1 := (v : Int32)) (lo1 := (0 : Int32)) (hi1 := ((x (5) 0) - 1 : Int32)) (hv := (by first | rfl | decide)) (hlo := (by first | rfl | decide)) (hhi := (by first | rfl | decide))) (va_cwS 3 hts gX8_isMill_X8_in rfl rfl rfl (by decide +kernel) ⟨Nat.le_of_ble_eq_true rfl, Nat.le_of_ble_eq_true rfl⟩) (x_ps (w := (wM G B)) hW hX hK hE hS [.long ((v : Int32).toInt64), .long (0), .long (((x (5) 0) - 1 : Int32).toInt64)]) rfl rfl hl.1 rfl (lv_room (Nat.le_of_ble_eq_true rfl)) dX8_isMill_12 ⟨Nat.zero_le _, Nat.zero_le _⟩) hS (fun H_1 lo_2 hX hS => ?_)
  rw [← hQ]
  refine x_zret (v := bI (decide (((0 : Int32)) ≤ ((v : Int32))) && decide (((v : Int32)) ≤ (((x (5) 0) - 1 : Int32))))) (ty := .boolean) hx hb hr (bI_nar _) hX hS hlocks dX8_isMill_15 ?_
  refine ⟨?_, rfl⟩
  rw [hN, le_m1 (by omega)]

theorem kX8_isNoRidge_22 : (.fieldLink RX8 22 "WindTakenModel" "now" "[I" : Cond) ∈ wsX8_isNoRidge := by decide +kernel
theorem iX8_isNoRidge_X8 : ∀ w ∈ wsX80, w ∈ wsX8_isNoRidge := by decide +kernel
abbrev rmX8_isNoRidge : Room := { frames := 0, cells := 0, slots := 0, locals := 0 }
set_option maxHeartbeats 4000000 in
set_option maxRecDepth 100000 in
theorem c_X8_isNoRidge (l : Launch) (G : GG) (B : Nat) (hW : WOK (wM G B)) (x : Mem)  : Met l yX8_isNoRidge wsX8_isNoRidge rmX8_isNoRidge (XP G (wM G B) [.ref (B + (0))] x) (va_Qi (fun r u => r = bI (decide (x 5 0 = 0)) ∧ u = x) (XB G (wM G B)) (blkA B (B + 13))) 0 0 (blkA B (B + 13)) := by
  refine Met.ofW (cc := cX8_isNoRidge) (maxL := 1) (ret := (some .boolean)) (by decide) rfl ?_
  intro pp ee ss mm aa bb mt cd s1 Bd hml hv
  obtain ⟨hae, hX, hK, hE⟩ := hv
  have hx := Bd.exec
  have hb := Bd.bytes
  have hr := Bd.returns
  have hts := atoms_spec (ws := wsX8_isNoRidge) Bd.pre
  have hown : ss.vm.findClass RX8 = some mm.cls := findClass_of_methodNamed Bd.named
  have hlocks := Bd.notSynchronized
  have hS : va_S (blkA B (B + 13)) ss.heap ss.heap [] := va_S.rf
  have hl := lv_entry ([.ref (B + (0))]) (n := 1) (Nat.le_of_ble_eq_true rfl)
  subst hae
  rw [lg_entry_eq]
  generalize (lg_sl ([.ref (B + (0))]) ++ List.replicate (1 - (lg_sl ([.ref (B + (0))])).length) Slot.unset).toArray = ls at hl ⊢
  have hl : lv_has ls 1 [(0, .ref (B + (0)))] := hl
  generalize ([.ref (B + (0))] : List Value).toArray = aa at hts ⊢
  show W pp l ee rmX8_isNoRidge ss mm aa bb mt cd ss.heap [] 0 0 _ (F0 mm 0 ls [])
  generalize hQ : MQ bb (va_Qi (fun r u => r = bI (decide (x 5 0 = 0)) ∧ u = x) (XB G (wM G B)) (blkA B (B + 13))) aa ss 0 0 (blkA B (B + 13)) = Q
  refine lv_aload_n hx hb dX8_isNoRidge_0 rfl (lv_at hl 0 rfl) ?_
  refine x_get (w := (wM G B)) (a := 0) (v := .ref (B + (5))) hx hb hts iX8_isNoRidge_X8 hown hK hX (Nat.le_of_ble_eq_true rfl) (shM_0 (G := G) (B := B)) rfl 7 (by decide) (hts _ kX8_isNoRidge_22) (fun _ h9 => h9) rfl dX8_isNoRidge_1 ?_
  refine lv_iconst (v := 0) hx hb dX8_isNoRidge_4 (by decide) ?_
  refine x_iald (w := (wM G B)) (a := 5) (n := 93) (j := 0) hx hb hK hX (Nat.le_of_ble_eq_true rfl) (shM_a (G := G) (B := B) (a := 5) (f := x (5)) (by decide)) rfl (by decide) (by decide) dX8_isNoRidge_5 ?_
  have kJ_3 : ∀ (v_2 : Bool) (_ : v_2 = (if (x (5) 0) = 0 then true else false)) (H_4 : Heap) (lo_5 : List Loc) (_ : MR G (wM G B) x H_4) (_ : va_S (blkA B (B + 13)) ss.heap H_4 lo_5) (ls : Array Slot) (_ : lv_has ls 1 [(0, .ref (B + (0)))]), W pp l ee rmX8_isNoRidge ss mm aa bb mt cd H_4 lo_5 0 0 Q (F0 mm 14 ls [.int (bI (v_2))]) := by
    intro v_2 ev_2 H_4 lo_5 hX hS ls hl
    rw [← hQ]
    refine x_zret (v := bI (v_2)) (ty := .boolean) hx hb hr (bI_nar _) hX hS hlocks dX8_isNoRidge_14 ?_
    refine ⟨?_, rfl⟩
    rw [ev_2, ite_dec]
  refine lv_if_ne (tgt := 13) hx hb dX8_isNoRidge_6 (by decide) (fun c_1 => ?_) (fun c_1 => ?_)
  · refine lv_iconst (v := 0) hx hb dX8_isNoRidge_13 (by decide) ?_
    exact kJ_3 (false) (by rw [if_neg c_1]) _ _ hX hS ls (lv_sub hl [0] rfl)
  · refine lv_iconst (v := 1) hx hb dX8_isNoRidge_9 (by decide) ?_
    refine lv_goto (tgt := 14) hx hb dX8_isNoRidge_10 (by decide) ?_
    exact kJ_3 (true) (by rw [if_pos c_1]) _ _ hX hS ls (lv_sub hl [0] rfl)

theorem kX8_of_22 : (.fieldLink RX8 22 "WindTakenModel" "now" "[I" : Cond) ∈ wsX8_of := by decide +kernel
theorem iX8_of_X8 : ∀ w ∈ wsX80, w ∈ wsX8_of := by decide +kernel
abbrev rmX8_of : Room := { frames := 0, cells := 0, slots := 0, locals := 0 }
set_option maxHeartbeats 4000000 in
set_option maxRecDepth 100000 in
theorem c_X8_of (l : Launch) (G : GG) (B : Nat) (hW : WOK (wM G B)) (x : Mem) {ml : Nat} {k : Nat} (hml9 : ml < 8) (hk10 : k < 10) : Met l yX8_of wsX8_of rmX8_of (XP G (wM G B) [.ref (B + (0)), .int (nI ml), .int (nI k)] x) (va_Qi (fun r u => r = (sF (x 5) ml k) ∧ u = x) (XB G (wM G B)) (blkA B (B + 13))) 0 0 (blkA B (B + 13)) := by
  refine Met.ofW (cc := cX8_of) (maxL := 3) (ret := (some .int)) (by decide) rfl ?_
  intro pp ee ss mm aa bb mt cd s1 Bd hml hv
  obtain ⟨hae, hX, hK, hE⟩ := hv
  have hx := Bd.exec
  have hb := Bd.bytes
  have hr := Bd.returns
  have hts := atoms_spec (ws := wsX8_of) Bd.pre
  have hown : ss.vm.findClass RX8 = some mm.cls := findClass_of_methodNamed Bd.named
  have hlocks := Bd.notSynchronized
  have hS : va_S (blkA B (B + 13)) ss.heap ss.heap [] := va_S.rf
  have hl := lv_entry ([.ref (B + (0)), .int (nI ml), .int (nI k)]) (n := 3) (Nat.le_of_ble_eq_true rfl)
  subst hae
  rw [lg_entry_eq]
  generalize (lg_sl ([.ref (B + (0)), .int (nI ml), .int (nI k)]) ++ List.replicate (3 - (lg_sl ([.ref (B + (0)), .int (nI ml), .int (nI k)])).length) Slot.unset).toArray = ls at hl ⊢
  have hl : lv_has ls 3 [(0, .ref (B + (0))), (1, .int (nI ml)), (2, .int (nI k))] := hl
  generalize ([.ref (B + (0)), .int (nI ml), .int (nI k)] : List Value).toArray = aa at hts ⊢
  show W pp l ee rmX8_of ss mm aa bb mt cd ss.heap [] 0 0 _ (F0 mm 0 ls [])
  generalize hQ : MQ bb (va_Qi (fun r u => r = (sF (x 5) ml k) ∧ u = x) (XB G (wM G B)) (blkA B (B + 13))) aa ss 0 0 (blkA B (B + 13)) = Q
  refine lv_aload_n hx hb dX8_of_0 rfl (lv_at hl 0 rfl) ?_
  refine x_get (w := (wM G B)) (a := 0) (v := .ref (B + (5))) hx hb hts iX8_of_X8 hown hK hX (Nat.le_of_ble_eq_true rfl) (shM_0 (G := G) (B := B)) rfl 7 (by decide) (hts _ kX8_of_22) (fun _ h9 => h9) rfl dX8_of_1 ?_
  refine lv_iconst (v := 5) hx hb dX8_of_4 (by decide) ?_
  refine lv_bipush (v := 10) hx hb dX8_of_5 (by decide) ?_
  refine lv_iload_n hx hb dX8_of_7 rfl (lv_at hl 1 rfl) ?_
  refine lv_imul hx hb dX8_of_8 ?_
  refine lv_iadd hx hb dX8_of_9 ?_
  refine lv_iload_n hx hb dX8_of_10 rfl (lv_at hl 2 rfl) ?_
  refine lv_iadd hx hb dX8_of_11 ?_
  refine x_iald (w := (wM G B)) (a := 5) (n := 93) (j := 5 + (10 * ml) + k) hx hb hK hX (Nat.le_of_ble_eq_true rfl) (shM_a (G := G) (B := B) (a := 5) (f := x (5)) (by decide)) (n_add (n_add rfl (n_mul rfl rfl)) rfl) (by omega) (by decide) dX8_of_12 ?_
  rw [← hQ]
  refine x_iret (v := x (5) (5 + (10 * ml) + k)) hx hb hr hX hS hlocks dX8_of_13 ?_
  refine ⟨?_, rfl⟩
  first | rfl | simp []

theorem kX8_status_46 : (.fieldLink RX8 46 "WindTakenModel" "status" "I" : Cond) ∈ wsX8_status := by decide +kernel
theorem iX8_status_X8 : ∀ w ∈ wsX80, w ∈ wsX8_status := by decide +kernel
abbrev rmX8_status : Room := { frames := 0, cells := 0, slots := 0, locals := 0 }
set_option maxHeartbeats 4000000 in
set_option maxRecDepth 100000 in
theorem c_X8_status (l : Launch) (G : GG) (B : Nat) (hW : WOK (wM G B)) (x : Mem)  : Met l yX8_status wsX8_status rmX8_status (XP G (wM G B) [.ref (B + (0))] x) (va_Qi (fun r u => r = (x 0 3) ∧ u = x) (XB G (wM G B)) (blkA B (B + 13))) 0 0 (blkA B (B + 13)) := by
  refine Met.ofW (cc := cX8_status) (maxL := 1) (ret := (some .int)) (by decide) rfl ?_
  intro pp ee ss mm aa bb mt cd s1 Bd hml hv
  obtain ⟨hae, hX, hK, hE⟩ := hv
  have hx := Bd.exec
  have hb := Bd.bytes
  have hr := Bd.returns
  have hts := atoms_spec (ws := wsX8_status) Bd.pre
  have hown : ss.vm.findClass RX8 = some mm.cls := findClass_of_methodNamed Bd.named
  have hlocks := Bd.notSynchronized
  have hS : va_S (blkA B (B + 13)) ss.heap ss.heap [] := va_S.rf
  have hl := lv_entry ([.ref (B + (0))]) (n := 1) (Nat.le_of_ble_eq_true rfl)
  subst hae
  rw [lg_entry_eq]
  generalize (lg_sl ([.ref (B + (0))]) ++ List.replicate (1 - (lg_sl ([.ref (B + (0))])).length) Slot.unset).toArray = ls at hl ⊢
  have hl : lv_has ls 1 [(0, .ref (B + (0)))] := hl
  generalize ([.ref (B + (0))] : List Value).toArray = aa at hts ⊢
  show W pp l ee rmX8_status ss mm aa bb mt cd ss.heap [] 0 0 _ (F0 mm 0 ls [])
  generalize hQ : MQ bb (va_Qi (fun r u => r = (x 0 3) ∧ u = x) (XB G (wM G B)) (blkA B (B + 13))) aa ss 0 0 (blkA B (B + 13)) = Q
  refine lv_aload_n hx hb dX8_status_0 rfl (lv_at hl 0 rfl) ?_
  refine x_get (w := (wM G B)) (a := 0) (v := .int (x (0) 3)) hx hb hts iX8_status_X8 hown hK hX (Nat.le_of_ble_eq_true rfl) (shM_0 (G := G) (B := B)) rfl 3 (by decide) (hts _ kX8_status_46) (fun _ h9 => h9) rfl dX8_status_1 ?_
  rw [← hQ]
  refine x_iret (v := x (0) 3) hx hb hr hX hS hlocks dX8_status_4 ?_
  refine ⟨?_, rfl⟩
  first | rfl | simp []

theorem kX8_fault_166 : (.fieldLink RX8 166 "WindTakenModel" "fault" "I" : Cond) ∈ wsX8_fault := by decide +kernel
theorem iX8_fault_X8 : ∀ w ∈ wsX80, w ∈ wsX8_fault := by decide +kernel
abbrev rmX8_fault : Room := { frames := 0, cells := 0, slots := 0, locals := 0 }
set_option maxHeartbeats 4000000 in
set_option maxRecDepth 100000 in
theorem c_X8_fault (l : Launch) (G : GG) (B : Nat) (hW : WOK (wM G B)) (x : Mem)  : Met l yX8_fault wsX8_fault rmX8_fault (XP G (wM G B) [.ref (B + (0))] x) (va_Qi (fun r u => r = (x 0 6) ∧ u = x) (XB G (wM G B)) (blkA B (B + 13))) 0 0 (blkA B (B + 13)) := by
  refine Met.ofW (cc := cX8_fault) (maxL := 1) (ret := (some .int)) (by decide) rfl ?_
  intro pp ee ss mm aa bb mt cd s1 Bd hml hv
  obtain ⟨hae, hX, hK, hE⟩ := hv
  have hx := Bd.exec
  have hb := Bd.bytes
  have hr := Bd.returns
  have hts := atoms_spec (ws := wsX8_fault) Bd.pre
  have hown : ss.vm.findClass RX8 = some mm.cls := findClass_of_methodNamed Bd.named
  have hlocks := Bd.notSynchronized
  have hS : va_S (blkA B (B + 13)) ss.heap ss.heap [] := va_S.rf
  have hl := lv_entry ([.ref (B + (0))]) (n := 1) (Nat.le_of_ble_eq_true rfl)
  subst hae
  rw [lg_entry_eq]
  generalize (lg_sl ([.ref (B + (0))]) ++ List.replicate (1 - (lg_sl ([.ref (B + (0))])).length) Slot.unset).toArray = ls at hl ⊢
  have hl : lv_has ls 1 [(0, .ref (B + (0)))] := hl
  generalize ([.ref (B + (0))] : List Value).toArray = aa at hts ⊢
  show W pp l ee rmX8_fault ss mm aa bb mt cd ss.heap [] 0 0 _ (F0 mm 0 ls [])
  generalize hQ : MQ bb (va_Qi (fun r u => r = (x 0 6) ∧ u = x) (XB G (wM G B)) (blkA B (B + 13))) aa ss 0 0 (blkA B (B + 13)) = Q
  refine lv_aload_n hx hb dX8_fault_0 rfl (lv_at hl 0 rfl) ?_
  refine x_get (w := (wM G B)) (a := 0) (v := .int (x (0) 6)) hx hb hts iX8_fault_X8 hown hK hX (Nat.le_of_ble_eq_true rfl) (shM_0 (G := G) (B := B)) rfl 6 (by decide) (hts _ kX8_fault_166) (fun _ h9 => h9) rfl dX8_fault_1 ?_
  rw [← hQ]
  refine x_iret (v := x (0) 6) hx hb hr hX hS hlocks dX8_fault_4 ?_
  refine ⟨?_, rfl⟩
  first | rfl | simp []

theorem kX8_leave_268 : (.fieldLink RX8 268 "WindTakenModel" "traced" "I" : Cond) ∈ wsX8_leave := by decide +kernel
theorem iX8_leave_X8 : ∀ w ∈ wsX80, w ∈ wsX8_leave := by decide +kernel
theorem kX8_leave_34 : (.fieldLink RX8 34 "WindTakenModel" "trace" "[I" : Cond) ∈ wsX8_leave := by decide +kernel
abbrev rmX8_leave : Room := { frames := 0, cells := 0, slots := 0, locals := 0 }
set_option maxHeartbeats 4000000 in
set_option maxRecDepth 100000 in
theorem c_X8_leave (l : Launch) (G : GG) (B : Nat) (hW : WOK (wM G B)) (x : Mem) (b : Int32) {k : Nat} (hk : x 0 12 = nI k) (hk16 : k ≤ 16) : Met l yX8_leave wsX8_leave rmX8_leave (XP G (wM G B) [.ref (B + (0)), .int (b)] x) (va_Qv (fun u => u = (if k < 16 then mst (mst x 9 k b) 0 12 (nI (k + 1)) else x)) (XB G (wM G B)) (blkA B (B + 13))) 0 0 (blkA B (B + 13)) := by
  refine Met.ofW (cc := cX8_leave) (maxL := 2) (ret := none) (by decide) rfl ?_
  intro pp ee ss mm aa bb mt cd s1 Bd hml hv
  obtain ⟨hae, hX, hK, hE⟩ := hv
  have hx := Bd.exec
  have hb := Bd.bytes
  have hr := Bd.returns
  have hts := atoms_spec (ws := wsX8_leave) Bd.pre
  have hown : ss.vm.findClass RX8 = some mm.cls := findClass_of_methodNamed Bd.named
  have hlocks := Bd.notSynchronized
  have hS : va_S (blkA B (B + 13)) ss.heap ss.heap [] := va_S.rf
  have hl := lv_entry ([.ref (B + (0)), .int (b)]) (n := 2) (Nat.le_of_ble_eq_true rfl)
  subst hae
  rw [lg_entry_eq]
  generalize (lg_sl ([.ref (B + (0)), .int (b)]) ++ List.replicate (2 - (lg_sl ([.ref (B + (0)), .int (b)])).length) Slot.unset).toArray = ls at hl ⊢
  have hl : lv_has ls 2 [(0, .ref (B + (0))), (1, .int (b))] := hl
  generalize ([.ref (B + (0)), .int (b)] : List Value).toArray = aa at hts ⊢
  show W pp l ee rmX8_leave ss mm aa bb mt cd ss.heap [] 0 0 _ (F0 mm 0 ls [])
  generalize hQ : MQ bb (va_Qv (fun u => u = (if k < 16 then mst (mst x 9 k b) 0 12 (nI (k + 1)) else x)) (XB G (wM G B)) (blkA B (B + 13))) aa ss 0 0 (blkA B (B + 13)) = Q
  refine lv_aload_n hx hb dX8_leave_0 rfl (lv_at hl 0 rfl) ?_
  refine x_get (w := (wM G B)) (a := 0) (v := .int (x (0) 12)) hx hb hts iX8_leave_X8 hown hK hX (Nat.le_of_ble_eq_true rfl) (shM_0 (G := G) (B := B)) rfl 12 (by decide) (hts _ kX8_leave_268) (fun _ h9 => h9) rfl dX8_leave_1 ?_
  refine lv_bipush (v := 16) hx hb dX8_leave_4 (by decide) ?_
  refine lv_icmp_ge (tgt := 29) hx hb dX8_leave_6 (by decide) (fun c_1 => ?_) (fun c_1 => ?_)
  · have nc_1 := (n_le (a := 16) (b := k) rfl hk (by omega) (by omega)).mp c_1
    rw [← hQ]
    refine x_vret hx hb hr hX hS hlocks dX8_leave_29 ?_
    first | (rw [if_neg (by omega)]; done) | (rw [if_pos (by omega), rfl, n_add (y := 1) (b := 1) hk1 rfl, rfl])
  · have nc_1 := Nat.not_le.mp (fun q => c_1 ((n_le (a := 16) (b := k) rfl hk (by omega) (by omega)).mpr q))
    refine lv_aload_n hx hb dX8_leave_9 rfl (lv_at hl 0 rfl) ?_
    refine x_get (w := (wM G B)) (a := 0) (v := .ref (B + (9))) hx hb hts iX8_leave_X8 hown hK hX (Nat.le_of_ble_eq_true rfl) (shM_0 (G := G) (B := B)) rfl 11 (by decide) (hts _ kX8_leave_34) (fun _ h9 => h9) rfl dX8_leave_10 ?_
    refine lv_aload_n hx hb dX8_leave_13 rfl (lv_at hl 0 rfl) ?_
    refine x_get (w := (wM G B)) (a := 0) (v := .int (x (0) 12)) hx hb hts iX8_leave_X8 hown hK hX (Nat.le_of_ble_eq_true rfl) (shM_0 (G := G) (B := B)) rfl 12 (by decide) (hts _ kX8_leave_268) (fun _ h9 => h9) rfl dX8_leave_14 ?_
    refine lv_iload_n hx hb dX8_leave_17 rfl (lv_at hl 1 rfl) ?_
    refine x_iast (w := (wM G B)) (a := 9) (n := 16) (j := k) hx hb hK hW hX hS (Nat.le_of_ble_eq_true rfl) (fun f => (shM_a (G := G) (B := B) (a := 9) (f := f) (by decide))) hk (by omega) (by decide) dX8_leave_18 (fun H_3 lo_4 hX hS => ?_)
    obtain ⟨x_2, ex_2⟩ : ∃ z, z = mst x (9) k (b) := ⟨_, rfl⟩
    rw [← ex_2] at hX
    have z_5 : x_2 (0) 12 = nI (k) := by rw [ex_2, mst_ne (by first | decide | omega)]; exact hk
    have hk1 : x_2 (0) 12 = nI k := by rw [ex_2, mst_ne (by decide)]; exact hk
    refine lv_aload_n hx hb dX8_leave_19 rfl (lv_at hl 0 rfl) ?_
    refine lv_dup hx hb dX8_leave_20 rfl ?_
    refine x_get (w := (wM G B)) (a := 0) (v := .int (x_2 (0) 12)) hx hb hts iX8_leave_X8 hown hK hX (Nat.le_of_ble_eq_true rfl) (shM_0 (G := G) (B := B)) rfl 12 (by decide) (hts _ kX8_leave_268) (fun _ h9 => h9) rfl dX8_leave_21 ?_
    refine lv_iconst (v := 1) hx hb dX8_leave_24 (by decide) ?_
    refine lv_iadd hx hb dX8_leave_25 ?_
    refine x_put (w := (wM G B)) (a := 0) (v := (x_2 (0) 12) + 1) (ty := .int) hx hb hts iX8_leave_X8 tyX8 tyX8_ok nmX8 hown hK hW hX hS (Nat.le_of_ble_eq_true rfl) (shM_0 (G := G) (B := B)) rfl 12 (by decide) (hts _ kX8_leave_268) (fun _ h9 => h9) rfl (by decide +kernel) rfl rfl (Nat.le_of_ble_eq_true rfl) (shM_0 (G := G) (B := B)) dX8_leave_26 (fun H_7 lo_8 hX hS => ?_)
    obtain ⟨x_6, ex_6⟩ : ∃ z, z = mst x_2 (0) 12 ((x_2 (0) 12) + 1) := ⟨_, rfl⟩
    rw [← ex_6] at hX
    have z_10 : x_6 (0) 12 = nI (k + 1) := by rw [ex_6, mst_self]; first | done | exact (n_add hk1 rfl)
    rw [← hQ]
    refine x_vret hx hb hr hX hS hlocks dX8_leave_29 ?_
    first | (rw [if_neg (by omega)]; done) | (rw [if_pos (by omega), ex_6, n_add (y := 1) (b := 1) hk1 rfl, ex_2])
