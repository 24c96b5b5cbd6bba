def PT_X8_row (x : Mem) (a : Int32) (la : Int32) (k : Int32) (r : Int32) (u : Mem) : Prop := (if (decide (0 ≤ a) && decide (a ≤ 7)) = false then (r = (-1000001) ∧ u = x) else (if (decide (((0 : Int32)) ≤ ((la : Int32))) && decide (((la : Int32)) ≤ ((2 : Int32)))) = false then (r = (-1000001) ∧ u = x) else (if k ≤ 40 then (if 0 ≤ k then (r = k ∧ ∃ y, ((∀ c, c ≠ 1 → c ≠ 2 → c ≠ 3 → y c = x c) ∧ y 1 = upd (x 1) (tn a) la ∧ y 2 = upd (x 2) (tn a) k ∧ ∀ i, y 3 i = if 40 * tn a ≤ i ∧ i < 40 * tn a + 40 then 0 else x 3 i) ∧ u = mst y 0 3 0) else (r = -1000010 - 4 ∧ u = mst x 0 3 4)) else (r = (-1000001) ∧ u = x))))
theorem kX8_row_63 : (.constant RX8 63 (-1000001) : Cond) ∈ wsX8_row := by decide +kernel
theorem kX8_row_61 : (.constantLong RX8 61 (2) : Cond) ∈ wsX8_row := by decide +kernel
theorem kX8_row_7 : (.fieldLink RX8 7 "WindTakenModel" "lanes" "[I" : Cond) ∈ wsX8_row := by decide +kernel
theorem iX8_row_X8 : ∀ w ∈ wsX80, w ∈ wsX8_row := by decide +kernel
theorem kX8_row_13 : (.fieldLink RX8 13 "WindTakenModel" "sizes" "[I" : Cond) ∈ wsX8_row := by decide +kernel
theorem kX8_row_16 : (.fieldLink RX8 16 "WindTakenModel" "items" "[I" : Cond) ∈ wsX8_row := by decide +kernel
abbrev rmX8_row : Room := { frames := 2, cells := 0, slots := 0, locals := 45 }
set_option maxHeartbeats 4000000 in
set_option maxRecDepth 100000 in
theorem c_X8_row (l : Launch) (G : GG) (B : Nat) (hW : WOK (wM G B)) (x : Mem) (a : Int32) (la : Int32) (k : Int32) : Met l yX8_row wsX8_row rmX8_row (XP G (wM G B) [.ref (B + (0)), .int (a), .int (la), .int (k)] x) (va_Qi (fun r u => PT_X8_row x a la k r u) (XB G (wM G B)) (blkA B (B + 13))) 0 0 (blkA B (B + 13)) := by
  refine Met.ofW (cc := cX8_row) (maxL := 5) (ret := (some .int)) (by decide) rfl ?_
  intro pp ee ss mm aa bb mt cd s1 Bd hml hv
  obtain ⟨hae, hX, hK, hE⟩ := hv
  have hx := Bd.exec
  have hb := Bd.bytes
  have hr := Bd.returns
  have hts := atoms_spec (ws := wsX8_row) Bd.pre
  have hown : ss.vm.findClass RX8 = some mm.cls := findClass_of_methodNamed Bd.named
  have hlocks := Bd.notSynchronized
  have hS : va_S (blkA B (B + 13)) ss.heap ss.heap [] := va_S.rf
  have hl := lv_entry ([.ref (B + (0)), .int (a), .int (la), .int (k)]) (n := 5) (Nat.le_of_ble_eq_true rfl)
  subst hae
  rw [lg_entry_eq]
  generalize (lg_sl ([.ref (B + (0)), .int (a), .int (la), .int (k)]) ++ List.replicate (5 - (lg_sl ([.ref (B + (0)), .int (a), .int (la), .int (k)])).length) Slot.unset).toArray = ls at hl ⊢
  have hl : lv_has ls 5 [(0, .ref (B + (0))), (1, .int (a)), (2, .int (la)), (3, .int (k))] := hl
  generalize ([.ref (B + (0)), .int (a), .int (la), .int (k)] : List Value).toArray = aa at hts ⊢
  show W pp l ee rmX8_row ss mm aa bb mt cd ss.heap [] 0 0 _ (F0 mm 0 ls [])
  generalize hQ : MQ bb (va_Qi (fun r u => PT_X8_row x a la k r u) (XB G (wM G B)) (blkA B (B + 13))) aa ss 0 0 (blkA B (B + 13)) = Q
  refine lv_iload_n hx hb dX8_row_0 rfl (lv_at hl 1 rfl) ?_
  refine x_ip (w := (wM G B)) (x := x) (v := bI (decide (0 ≤ a) && decide (a ≤ 7))) (va_runS (As := [.int (a)]) (rest := []) ⟨hx, hb, hml, hown, hts⟩ (c_X8_isRow (l := l) (G := G) (B := B) (hW := hW) (x := x) (v := a)) (va_cwS 1 hts gX8_row_X8_isRow rfl rfl rfl (by decide +kernel) ⟨Nat.le_of_ble_eq_true rfl, Nat.le_of_ble_eq_true rfl⟩) (x_ps (w := (wM G B)) hW hX hK hE hS [.int (a)]) rfl rfl hl.1 rfl (lv_room (Nat.le_of_ble_eq_true rfl)) dX8_row_1 ⟨Nat.zero_le _, Nat.zero_le _⟩) hS (fun H_1 lo_2 hX hS => ?_)
  refine x_ifeq (tgt := 25) hx hb dX8_row_4 (by decide) (fun c_3 => ?_) (fun c_3 => ?_)
  · refine lv_ldc (v := (-1000001)) hx hb hown (hts _ kX8_row_63) dX8_row_25 ?_
    rw [← hQ]
    refine x_iret (v := (-1000001)) hx hb hr hX hS hlocks dX8_row_27 ?_
    show PT_X8_row _ _ _ _ _ _
    unfold PT_X8_row
    rw [if_pos c_3]
    exact ⟨rfl, rfl⟩
  · obtain ⟨hae, ha8⟩ := rowN c_3
    refine lv_iload_n hx hb dX8_row_7 rfl (lv_at hl 2 rfl) ?_
    refine lv_i2l (v := (la : Int32).toInt64) hx hb dX8_row_8 rfl ?_
    refine lv_lconst (v := 0) hx hb dX8_row_9 (by decide) ?_
    refine lv_ldc2 (v := 2) hx hb hown (hts _ kX8_row_61) dX8_row_10 ?_
    refine x_ip (w := (wM G B)) (x := x) (v := bI (decide (((0 : Int32)) ≤ ((la : Int32))) && decide (((la : Int32)) ≤ ((2 : Int32))))) (va_runS (As := [.long ((la : Int32).toInt64), .long (0), .long (2)]) (rest := []) ⟨hx, hb, hml, hown, hts⟩ (c_X8_in (l := l) (G := G) (B := B) (hW := hW) (x := x) (va := (la : Int32).toInt64) (vb := 0) (vc := 2) (v1 := (la : Int32)) (lo1 := (0 : Int32)) (hi1 := (2 : Int32)) (hv := (by first | rfl | decide)) (hlo := (by first | rfl | decide)) (hhi := (by first | rfl | decide))) (va_cwS 3 hts gX8_row_X8_in rfl rfl rfl (by decide +kernel) ⟨Nat.le_of_ble_eq_true rfl, Nat.le_of_ble_eq_true rfl⟩) (x_ps (w := (wM G B)) hW hX hK hE hS [.long ((la : Int32).toInt64), .long (0), .long (2)]) rfl rfl hl.1 rfl (lv_room (Nat.le_of_ble_eq_true rfl)) dX8_row_13 ⟨Nat.zero_le _, Nat.zero_le _⟩) hS (fun H_4 lo_5 hX hS => ?_)
    refine x_ifeq (tgt := 25) hx hb dX8_row_16 (by decide) (fun c_6 => ?_) (fun c_6 => ?_)
    · refine lv_ldc (v := (-1000001)) hx hb hown (hts _ kX8_row_63) dX8_row_25 ?_
      rw [← hQ]
      refine x_iret (v := (-1000001)) hx hb hr hX hS hlocks dX8_row_27 ?_
      show PT_X8_row _ _ _ _ _ _
      unfold PT_X8_row
      rw [if_neg (ne_of_true c_3), if_pos c_6]
      exact ⟨rfl, rfl⟩
    · refine lv_iload_n hx hb dX8_row_19 rfl (lv_at hl 3 rfl) ?_
      refine lv_bipush (v := 40) hx hb dX8_row_20 (by decide) ?_
      refine lv_icmp_le (tgt := 28) hx hb dX8_row_22 (by decide) (fun c_7 => ?_) (fun c_7 => ?_)
      · refine lv_iload_n hx hb dX8_row_28 rfl (lv_at hl 3 rfl) ?_
        refine lv_if_ge (tgt := 39) hx hb dX8_row_29 (by decide) (fun c_8 => ?_) (fun c_8 => ?_)
        · refine lv_aload_n hx hb dX8_row_39 rfl (lv_at hl 0 rfl) ?_
          refine x_get (w := (wM G B)) (a := 0) (v := .ref (B + (1))) hx hb hts iX8_row_X8 hown hK hX (Nat.le_of_ble_eq_true rfl) (shM_0 (G := G) (B := B)) rfl 0 (by decide) (hts _ kX8_row_7) (fun _ h9 => h9) rfl dX8_row_40 ?_
          refine lv_iload_n hx hb dX8_row_43 rfl (lv_at hl 1 rfl) ?_
          refine lv_iload_n hx hb dX8_row_44 rfl (lv_at hl 2 rfl) ?_
          refine x_iast (w := (wM G B)) (a := 1) (n := 8) (j := tn a) hx hb hK hW hX hS (Nat.le_of_ble_eq_true rfl) (fun f => (shM_a (G := G) (B := B) (a := 1) (f := f) (by decide))) hae (by omega) (by decide) dX8_row_45 (fun H_10 lo_11 hX hS => ?_)
          obtain ⟨x_9, ex_9⟩ : ∃ z, z = mst x (1) (tn a) (la) := ⟨_, rfl⟩
          rw [← ex_9] at hX
          refine lv_aload_n hx hb dX8_row_46 rfl (lv_at hl 0 rfl) ?_
          refine x_get (w := (wM G B)) (a := 0) (v := .ref (B + (2))) hx hb hts iX8_row_X8 hown hK hX (Nat.le_of_ble_eq_true rfl) (shM_0 (G := G) (B := B)) rfl 1 (by decide) (hts _ kX8_row_13) (fun _ h9 => h9) rfl dX8_row_47 ?_
          refine lv_iload_n hx hb dX8_row_50 rfl (lv_at hl 1 rfl) ?_
          refine lv_iload_n hx hb dX8_row_51 rfl (lv_at hl 3 rfl) ?_
          refine x_iast (w := (wM G B)) (a := 2) (n := 8) (j := tn a) hx hb hK hW hX hS (Nat.le_of_ble_eq_true rfl) (fun f => (shM_a (G := G) (B := B) (a := 2) (f := f) (by decide))) hae (by omega) (by decide) dX8_row_52 (fun H_13 lo_14 hX hS => ?_)
          obtain ⟨x_12, ex_12⟩ : ∃ z, z = mst x_9 (2) (tn a) (k) := ⟨_, rfl⟩
          rw [← ex_12] at hX
          refine lv_iconst (v := 0) hx hb dX8_row_53 (by decide) ?_
          refine lv_istore (lv' := [(4, .int (0)), (0, .ref (B + (0))), (1, .int (a)), (2, .int (la)), (3, .int (k))]) hx hb dX8_row_54 hl (by decide) rfl (fun ls hl => ?_)
          have L_15 : ∀ (n9 : Nat) (j : Nat)  (u1 : Mem) (_ : n9 = 40 - j) (_ : j ≤ 40 ∧ (∀ c, c ≠ 1 → c ≠ 2 → c ≠ 3 → u1 c = x c) ∧ u1 1 = upd (x 1) (tn a) la ∧ u1 2 = upd (x 2) (tn a) k ∧ ∀ i, u1 3 i = if 40 * tn a ≤ i ∧ i < 40 * tn a + j then 0 else x 3 i) (H_16 : Heap) (lo_17 : List Loc) (_ : MR G (wM G B) u1 H_16) (_ : va_S (blkA B (B + 13)) ss.heap H_16 lo_17) (ls : Array Slot) (_ : lv_has ls 5 [(4, .int (nI j)), (0, .ref (B + (0))), (1, .int (a)), (2, .int (la)), (3, .int (k))]), W pp l ee rmX8_row ss mm aa bb mt cd H_16 lo_17 0 0 Q (F0 mm 56 ls []) := by
            intro n9
            induction n9 using Nat.strongRecOn with
            | _ n9 ih => 
              have ih_56 := ih
              intro j u1 hn9 hI H_16 lo_17 hX hS ls hl
              obtain ⟨hj, ho, h1, h2, h3⟩ := hI
              refine lv_iload hx hb dX8_row_56 (lv_at hl 0 rfl) ?_
              refine lv_bipush (v := 40) hx hb dX8_row_58 (by decide) ?_
              refine lv_icmp_ge (tgt := 82) hx hb dX8_row_60 (by decide) (fun c_18 => ?_) (fun c_18 => ?_)
              · have nc_18 := (n_le (a := 40) (b := j) rfl rfl (by omega) (by omega)).mp c_18
                refine lv_aload_n hx hb dX8_row_82 rfl (lv_at hl 1 rfl) ?_
                refine lv_iconst (v := 0) hx hb dX8_row_83 (by decide) ?_
                refine lv_iload_n hx hb dX8_row_84 rfl (lv_at hl 4 rfl) ?_
                refine x_if (w := (wM G B)) (va_runV (As := [.int (0), .int (k)]) (rest := []) ⟨hx, hb, hml, hown, hts⟩ (c_X8_found (l := l) (G := G) (B := B) (hW := hW) (x := u1) (nu := 0) (to := k)) (cwV 2 hts gX8_row_X8_found rfl rfl rfl (by decide +kernel) ⟨Nat.le_of_ble_eq_true rfl, Nat.le_of_ble_eq_true rfl⟩) (x_pv (w := (wM G B)) (a := 0) hW hX hK hE hS [.int (0), .int (k)] (Nat.le_of_ble_eq_true rfl) (shM_0 (G := G) (B := B)) rfl) rfl rfl hl.1 rfl (lv_room (Nat.le_of_ble_eq_true rfl)) dX8_row_85 ⟨Nat.zero_le _, Nat.zero_le _⟩) hS (fun r_21 x_22 H_19 lo_20 h_85 hX hS => ?_)
                try dsimp only at h_85
                rw [← hQ]
                refine x_iret (v := r_21) hx hb hr hX hS hlocks dX8_row_88 ?_
                show PT_X8_row _ _ _ _ _ _
                unfold PT_X8_row
                rw [if_neg (ne_of_true c_3), if_neg (ne_of_true c_6), if_pos c_7, if_pos c_8]
                have e9 : j = 40 := by omega
                subst e9
                exact ⟨h_85.1 rfl, _, ⟨ho, h1, h2, h3⟩, h_85.2.2⟩
              · have nc_18 := Nat.not_le.mp (fun q => c_18 ((n_le (a := 40) (b := j) rfl rfl (by omega) (by omega)).mpr q))
                refine lv_aload_n hx hb dX8_row_63 rfl (lv_at hl 1 rfl) ?_
                refine x_get (w := (wM G B)) (a := 0) (v := .ref (B + (3))) hx hb hts iX8_row_X8 hown hK hX (Nat.le_of_ble_eq_true rfl) (shM_0 (G := G) (B := B)) rfl 2 (by decide) (hts _ kX8_row_16) (fun _ h9 => h9) rfl dX8_row_64 ?_
                refine lv_bipush (v := 40) hx hb dX8_row_67 (by decide) ?_
                refine lv_iload_n hx hb dX8_row_69 rfl (lv_at hl 2 rfl) ?_
                refine lv_imul hx hb dX8_row_70 ?_
                refine lv_iload hx hb dX8_row_71 (lv_at hl 0 rfl) ?_
                refine lv_iadd hx hb dX8_row_73 ?_
                refine lv_iconst (v := 0) hx hb dX8_row_74 (by decide) ?_
                refine x_iast (w := (wM G B)) (a := 3) (n := 320) (j := 40 * (tn a) + j) hx hb hK hW hX hS (Nat.le_of_ble_eq_true rfl) (fun f => (shM_a (G := G) (B := B) (a := 3) (f := f) (by decide))) (n_add (n_mul rfl hae) rfl) (by omega) (by decide) dX8_row_75 (fun H_24 lo_25 hX hS => ?_)
                obtain ⟨x_23, ex_23⟩ : ∃ z, z = mst u1 (3) (40 * (tn a) + j) (0) := ⟨_, rfl⟩
                rw [← ex_23] at hX
                have z_26 : x_23 (3) (40 * (tn a) + j) = nI (0) := by rw [ex_23, mst_self]; first | done | exact rfl
                refine lv_iinc (v := nI (j + 1)) (lv' := [(4, .int (nI (j + 1))), (0, .ref (B + (0))), (1, .int (a)), (2, .int (la)), (3, .int (k))]) hx hb dX8_row_76 hl (k := 0) rfl (inc_nI _) (by decide) rfl (fun ls hl => ?_)
                refine lv_goto (tgt := 56) hx hb dX8_row_79 (by decide) ?_
                exact ih_56 _ (by omega) (j + 1) (x_23) rfl ⟨by omega, fun c c1 c2 c3 => by rw [ex_23, mst_ne c3]; exact ho c c1 c2 c3, by rw [ex_23, mst_ne (by decide)]; exact h1, by rw [ex_23, mst_ne (by decide)]; exact h2, fun i => by
          rw [ex_23, mst_eq]
          by_cases hi : i = 40 * tn a + j
          · rw [hi, upd_eq, if_pos (by omega)]
          · rw [upd_ne hi, h3 i]
            by_cases hi2 : 40 * tn a ≤ i ∧ i < 40 * tn a + j
            · rw [if_pos hi2, if_pos (by omega)]
            · rw [if_neg hi2, if_neg (by omega)]⟩ _ _ hX hS ls (lv_sub hl [0, 1, 2, 3, 4] rfl)
          exact L_15 _ (0) (x_12) rfl ⟨Nat.zero_le _, fun c c1 c2 c3 => by rw [ex_12, mst_ne c2, ex_9, mst_ne c1], by rw [ex_12, mst_ne (by decide), ex_9, mst_eq], by rw [ex_12, mst_eq, ex_9, mst_ne (by decide)], fun i => by rw [if_neg (by omega), ex_12, mst_ne (by decide), ex_9, mst_ne (by decide)]⟩ _ _ hX hS ls (lv_sub hl [0, 1, 2, 3, 4] rfl)
        · refine lv_aload_n hx hb dX8_row_32 rfl (lv_at hl 0 rfl) ?_
          refine lv_iconst (v := 4) hx hb dX8_row_33 (by decide) ?_
          refine lv_iconst (v := 0) hx hb dX8_row_34 (by decide) ?_
          refine x_if (w := (wM G B)) (va_runV (As := [.int (4), .int (0)]) (rest := []) ⟨hx, hb, hml, hown, hts⟩ (c_X8_found (l := l) (G := G) (B := B) (hW := hW) (x := x) (nu := 4) (to := 0)) (cwV 2 hts gX8_row_X8_found rfl rfl rfl (by decide +kernel) ⟨Nat.le_of_ble_eq_true rfl, Nat.le_of_ble_eq_true rfl⟩) (x_pv (w := (wM G B)) (a := 0) hW hX hK hE hS [.int (4), .int (0)] (Nat.le_of_ble_eq_true rfl) (shM_0 (G := G) (B := B)) rfl) rfl rfl hl.1 rfl (lv_room (Nat.le_of_ble_eq_true rfl)) dX8_row_35 ⟨Nat.zero_le _, Nat.zero_le _⟩) hS (fun r_29 x_30 H_27 lo_28 h_35 hX hS => ?_)
          try dsimp only at h_35
          rw [← hQ]
          refine x_iret (v := r_29) hx hb hr hX hS hlocks dX8_row_38 ?_
          show PT_X8_row _ _ _ _ _ _
          unfold PT_X8_row
          rw [if_neg (ne_of_true c_3), if_neg (ne_of_true c_6), if_pos c_7, if_neg c_8]
          exact ⟨h_35.2.1 (by decide), h_35.2.2⟩
      · refine lv_ldc (v := (-1000001)) hx hb hown (hts _ kX8_row_63) dX8_row_25 ?_
        rw [← hQ]
        refine x_iret (v := (-1000001)) hx hb hr hX hS hlocks dX8_row_27 ?_
        show PT_X8_row _ _ _ _ _ _
        unfold PT_X8_row
        rw [if_neg (ne_of_true c_3), if_neg (ne_of_true c_6), if_neg c_7]
        exact ⟨rfl, rfl⟩

def PT_X8_set (x : Mem) (a : Int32) (i : Int32) (v : Int32) (r : Int32) (u : Mem) : Prop := (if (decide (0 ≤ a) && decide (a ≤ 7)) = true then (if (decide (x 1 (tn a) < 0)) = false then (if (decide (0 ≤ i) && decide (i < x 2 (tn a))) = true then (r = narI (x 1 (tn a)) v ∧ u = mst (mst x 3 (40 * tn a + tn i) (narI (x 1 (tn a)) v)) 0 3 0) else (r = -1000010 - 2 ∧ u = mst x 0 3 2)) else (r = -1000010 - 1 ∧ u = mst x 0 3 1)) else (r = (-1000001) ∧ u = x))
theorem kX8_set_13 : (.fieldLink RX8 13 "WindTakenModel" "sizes" "[I" : Cond) ∈ wsX8_set := by decide +kernel
theorem iX8_set_X8 : ∀ w ∈ wsX80, w ∈ wsX8_set := by decide +kernel
theorem kX8_set_16 : (.fieldLink RX8 16 "WindTakenModel" "items" "[I" : Cond) ∈ wsX8_set := by decide +kernel
theorem kX8_set_7 : (.fieldLink RX8 7 "WindTakenModel" "lanes" "[I" : Cond) ∈ wsX8_set := by decide +kernel
theorem kX8_set_63 : (.constant RX8 63 (-1000001) : Cond) ∈ wsX8_set := by decide +kernel
abbrev rmX8_set : Room := { frames := 2, cells := 0, slots := 0, locals := 45 }
set_option maxHeartbeats 4000000 in
set_option maxRecDepth 100000 in
theorem c_X8_set (l : Launch) (G : GG) (B : Nat) (hW : WOK (wM G B)) (x : Mem) (a : Int32) (i : Int32) (v : Int32) (hY : YOK x) : Met l yX8_set wsX8_set rmX8_set (XP G (wM G B) [.ref (B + (0)), .int (a), .int (i), .int (v)] x) (va_Qi (fun r u => PT_X8_set x a i v r u) (XB G (wM G B)) (blkA B (B + 13))) 0 0 (blkA B (B + 13)) := by
  refine Met.ofW (cc := cX8_set) (maxL := 4) (ret := (some .int)) (by decide) rfl ?_
  intro pp ee ss mm aa bb mt cd s1 Bd hml hv
  obtain ⟨hae, hX, hK, hE⟩ := hv
  have hx := Bd.exec
  have hb := Bd.bytes
  have hr := Bd.returns
  have hts := atoms_spec (ws := wsX8_set) Bd.pre
  have hown : ss.vm.findClass RX8 = some mm.cls := findClass_of_methodNamed Bd.named
  have hlocks := Bd.notSynchronized
  have hS : va_S (blkA B (B + 13)) ss.heap ss.heap [] := va_S.rf
  have hl := lv_entry ([.ref (B + (0)), .int (a), .int (i), .int (v)]) (n := 4) (Nat.le_of_ble_eq_true rfl)
  subst hae
  rw [lg_entry_eq]
  generalize (lg_sl ([.ref (B + (0)), .int (a), .int (i), .int (v)]) ++ List.replicate (4 - (lg_sl ([.ref (B + (0)), .int (a), .int (i), .int (v)])).length) Slot.unset).toArray = ls at hl ⊢
  have hl : lv_has ls 4 [(0, .ref (B + (0))), (1, .int (a)), (2, .int (i)), (3, .int (v))] := hl
  generalize ([.ref (B + (0)), .int (a), .int (i), .int (v)] : List Value).toArray = aa at hts ⊢
  show W pp l ee rmX8_set ss mm aa bb mt cd ss.heap [] 0 0 _ (F0 mm 0 ls [])
  generalize hQ : MQ bb (va_Qi (fun r u => PT_X8_set x a i v r u) (XB G (wM G B)) (blkA B (B + 13))) aa ss 0 0 (blkA B (B + 13)) = Q
  refine lv_iload_n hx hb dX8_set_0 rfl (lv_at hl 1 rfl) ?_
  refine x_ip (w := (wM G B)) (x := x) (v := bI (decide (0 ≤ a) && decide (a ≤ 7))) (va_runS (As := [.int (a)]) (rest := []) ⟨hx, hb, hml, hown, hts⟩ (c_X8_isRow (l := l) (G := G) (B := B) (hW := hW) (x := x) (v := a)) (va_cwS 1 hts gX8_set_X8_isRow rfl rfl rfl (by decide +kernel) ⟨Nat.le_of_ble_eq_true rfl, Nat.le_of_ble_eq_true rfl⟩) (x_ps (w := (wM G B)) hW hX hK hE hS [.int (a)]) rfl rfl hl.1 rfl (lv_room (Nat.le_of_ble_eq_true rfl)) dX8_set_1 ⟨Nat.zero_le _, Nat.zero_le _⟩) hS (fun H_1 lo_2 hX hS => ?_)
  refine x_ifne (tgt := 10) hx hb dX8_set_4 (by decide) (fun c_3 => ?_) (fun c_3 => ?_)
  · obtain ⟨hae, ha8⟩ := rowN c_3
    refine lv_aload_n hx hb dX8_set_10 rfl (lv_at hl 0 rfl) ?_
    refine lv_iload_n hx hb dX8_set_11 rfl (lv_at hl 1 rfl) ?_
    refine W.eq (g2 := F0 mm 12 ls [.int (nI (tn a)), .ref (B + (0))]) (congrArg (fun z9 : Int32 => F0 mm 12 ls [.int (z9), .ref (B + (0))]) hae) ?_
    refine x_ip (w := (wM G B)) (x := x) (v := bI (decide (x 1 (tn a) < 0))) (va_runV (As := [.int (nI (tn a))]) (rest := []) ⟨hx, hb, hml, hown, hts⟩ (c_X8_isMissing (l := l) (G := G) (B := B) (hW := hW) (x := x) (i := tn a) (hi := (by omega))) (cwV 1 hts gX8_set_X8_isMissing rfl rfl rfl (by decide +kernel) ⟨Nat.le_of_ble_eq_true rfl, Nat.le_of_ble_eq_true rfl⟩) (x_pv (w := (wM G B)) (a := 0) hW hX hK hE hS [.int (nI (tn a))] (Nat.le_of_ble_eq_true rfl) (shM_0 (G := G) (B := B)) rfl) rfl rfl hl.1 rfl (lv_room (Nat.le_of_ble_eq_true rfl)) dX8_set_12 ⟨Nat.zero_le _, Nat.zero_le _⟩) hS (fun H_4 lo_5 hX hS => ?_)
    refine x_ifeq (tgt := 25) hx hb dX8_set_15 (by decide) (fun c_6 => ?_) (fun c_6 => ?_)
    · obtain ⟨sz, hsz40, hsz⟩ := hY.get ha8 c_6
      refine lv_iload_n hx hb dX8_set_25 rfl (lv_at hl 2 rfl) ?_
      refine lv_i2l (v := (i : Int32).toInt64) hx hb dX8_set_26 rfl ?_
      refine lv_lconst (v := 0) hx hb dX8_set_27 (by decide) ?_
      refine lv_aload_n hx hb dX8_set_28 rfl (lv_at hl 0 rfl) ?_
      refine x_get (w := (wM G B)) (a := 0) (v := .ref (B + (2))) hx hb hts iX8_set_X8 hown hK hX (Nat.le_of_ble_eq_true rfl) (shM_0 (G := G) (B := B)) rfl 1 (by decide) (hts _ kX8_set_13) (fun _ h9 => h9) rfl dX8_set_29 ?_
      refine lv_iload_n hx hb dX8_set_32 rfl (lv_at hl 1 rfl) ?_
      refine x_iald (w := (wM G B)) (a := 2) (n := 8) (j := tn a) hx hb hK hX (Nat.le_of_ble_eq_true rfl) (shM_a (G := G) (B := B) (a := 2) (f := x (2)) (by decide)) hae (by omega) (by decide) dX8_set_33 ?_
      refine lv_iconst (v := 1) hx hb dX8_set_34 (by decide) ?_
      refine lv_isub hx hb dX8_set_35 ?_
      refine lv_i2l (v := ((x (2) (tn a)) - 1 : Int32).toInt64) hx hb dX8_set_36 rfl ?_
      refine x_ip (w := (wM G B)) (x := x) (v := bI (decide (((0 : Int32)) ≤ ((i : Int32))) && decide (((i : Int32)) ≤ (((x (2) (tn a)) - 1 : Int32))))) (va_runS (As := [.long ((i : Int32).toInt64), .long (0), .long (((x (2) (tn a)) - 1 : Int32).toInt64)]) (rest := []) ⟨hx, hb, hml, hown, hts⟩ (c_X8_in (l := l) (G := G) (B := B) (hW := hW) (x := x) (va := (i : Int32).toInt64) (vb := 0) (vc := ((x (2) (tn a)) - 1 : Int32).toInt64) (v1 := (i : Int32)) (lo1 := (0 : Int32)) (hi1 := ((x (2) (tn a)) - 1 : Int32)) (hv := (by first | rfl | decide)) (hlo := (by first | rfl | decide)) (hhi := (by first | rfl | decide))) (va_cwS 3 hts gX8_set_X8_in rfl rfl rfl (by decide +kernel) ⟨Nat.le_of_ble_eq_true rfl, Nat.le_of_ble_eq_true rfl⟩) (x_ps (w := (wM G B)) hW hX hK hE hS [.long ((i : Int32).toInt64), .long (0), .long (((x (2) (tn a)) - 1 : Int32).toInt64)]) rfl rfl hl.1 rfl (lv_room (Nat.le_of_ble_eq_true rfl)) dX8_set_37 ⟨Nat.zero_le _, Nat.zero_le _⟩) hS (fun H_7 lo_8 hX hS => ?_)
      refine W.eq (g2 := F0 mm 40 ls [.int (bI (decide (0 ≤ i) && decide (i < x 2 (tn a))))]) (congrArg (fun z9 : Bool => F0 mm 40 ls [.int (bI (z9))]) (show (decide ((0 : Int32) ≤ i) && decide (i ≤ x (2) (tn a) - 1)) = (decide (0 ≤ i) && decide (i < x 2 (tn a))) by rw [hsz, le_m1 (by omega)])) ?_
      refine x_ifne (tgt := 50) hx hb dX8_set_40 (by decide) (fun c_9 => ?_) (fun c_9 => ?_)
      · obtain ⟨hie, hiz⟩ := hasM9 hsz40 c_9
        refine lv_aload_n hx hb dX8_set_50 rfl (lv_at hl 0 rfl) ?_
        refine x_get (w := (wM G B)) (a := 0) (v := .ref (B + (3))) hx hb hts iX8_set_X8 hown hK hX (Nat.le_of_ble_eq_true rfl) (shM_0 (G := G) (B := B)) rfl 2 (by decide) (hts _ kX8_set_16) (fun _ h9 => h9) rfl dX8_set_51 ?_
        refine lv_bipush (v := 40) hx hb dX8_set_54 (by decide) ?_
        refine lv_iload_n hx hb dX8_set_56 rfl (lv_at hl 1 rfl) ?_
        refine lv_imul hx hb dX8_set_57 ?_
        refine lv_iload_n hx hb dX8_set_58 rfl (lv_at hl 2 rfl) ?_
        refine lv_iadd hx hb dX8_set_59 ?_
        refine lv_aload_n hx hb dX8_set_60 rfl (lv_at hl 0 rfl) ?_
        refine x_get (w := (wM G B)) (a := 0) (v := .ref (B + (1))) hx hb hts iX8_set_X8 hown hK hX (Nat.le_of_ble_eq_true rfl) (shM_0 (G := G) (B := B)) rfl 0 (by decide) (hts _ kX8_set_7) (fun _ h9 => h9) rfl dX8_set_61 ?_
        refine lv_iload_n hx hb dX8_set_64 rfl (lv_at hl 1 rfl) ?_
        refine x_iald (w := (wM G B)) (a := 1) (n := 8) (j := tn a) hx hb hK hX (Nat.le_of_ble_eq_true rfl) (shM_a (G := G) (B := B) (a := 1) (f := x (1)) (by decide)) hae (by omega) (by decide) dX8_set_65 ?_
        refine lv_iload_n hx hb dX8_set_66 rfl (lv_at hl 3 rfl) ?_
        refine x_ip (w := (wM G B)) (x := x) (v := narI (x (1) (tn a)) v) (va_runS (As := [.int (x (1) (tn a)), .int (v)]) (rest := [.int ((40 * a) + i), .ref (B + (3))]) ⟨hx, hb, hml, hown, hts⟩ (c_X8_narrow (l := l) (G := G) (B := B) (hW := hW) (x := x) (la := x (1) (tn a)) (v := v)) (va_cwS 2 hts gX8_set_X8_narrow rfl rfl rfl (by decide +kernel) ⟨Nat.le_of_ble_eq_true rfl, Nat.le_of_ble_eq_true rfl⟩) (x_ps (w := (wM G B)) hW hX hK hE hS [.int (x (1) (tn a)), .int (v)]) rfl rfl hl.1 rfl (lv_room (Nat.le_of_ble_eq_true rfl)) dX8_set_67 ⟨Nat.zero_le _, Nat.zero_le _⟩) hS (fun H_10 lo_11 hX hS => ?_)
        refine x_iast (w := (wM G B)) (a := 3) (n := 320) (j := 40 * (tn a) + (tn i)) hx hb hK hW hX hS (Nat.le_of_ble_eq_true rfl) (fun f => (shM_a (G := G) (B := B) (a := 3) (f := f) (by decide))) (n_add (n_mul rfl hae) hie) (by omega) (by decide) dX8_set_70 (fun H_13 lo_14 hX hS => ?_)
        obtain ⟨x_12, ex_12⟩ : ∃ z, z = mst x (3) (40 * (tn a) + (tn i)) (narI (x (1) (tn a)) v) := ⟨_, rfl⟩
        rw [← ex_12] at hX
        refine lv_aload_n hx hb dX8_set_71 rfl (lv_at hl 0 rfl) ?_
        refine lv_iconst (v := 0) hx hb dX8_set_72 (by decide) ?_
        refine lv_aload_n hx hb dX8_set_73 rfl (lv_at hl 0 rfl) ?_
        refine x_get (w := (wM G B)) (a := 0) (v := .ref (B + (3))) hx hb hts iX8_set_X8 hown hK hX (Nat.le_of_ble_eq_true rfl) (shM_0 (G := G) (B := B)) rfl 2 (by decide) (hts _ kX8_set_16) (fun _ h9 => h9) rfl dX8_set_74 ?_
        refine lv_bipush (v := 40) hx hb dX8_set_77 (by decide) ?_
        refine lv_iload_n hx hb dX8_set_79 rfl (lv_at hl 1 rfl) ?_
        refine lv_imul hx hb dX8_set_80 ?_
        refine lv_iload_n hx hb dX8_set_81 rfl (lv_at hl 2 rfl) ?_
        refine lv_iadd hx hb dX8_set_82 ?_
        refine x_iald (w := (wM G B)) (a := 3) (n := 320) (j := 40 * (tn a) + (tn i)) hx hb hK hX (Nat.le_of_ble_eq_true rfl) (shM_a (G := G) (B := B) (a := 3) (f := x_12 (3)) (by decide)) (n_add (n_mul rfl hae) hie) (by omega) (by decide) dX8_set_83 ?_
        refine x_if (w := (wM G B)) (va_runV (As := [.int (0), .int (x_12 (3) (40 * (tn a) + (tn i)))]) (rest := []) ⟨hx, hb, hml, hown, hts⟩ (c_X8_found (l := l) (G := G) (B := B) (hW := hW) (x := x_12) (nu := 0) (to := x_12 (3) (40 * (tn a) + (tn i)))) (cwV 2 hts gX8_set_X8_found rfl rfl rfl (by decide +kernel) ⟨Nat.le_of_ble_eq_true rfl, Nat.le_of_ble_eq_true rfl⟩) (x_pv (w := (wM G B)) (a := 0) hW hX hK hE hS [.int (0), .int (x_12 (3) (40 * (tn a) + (tn i)))] (Nat.le_of_ble_eq_true rfl) (shM_0 (G := G) (B := B)) rfl) rfl rfl hl.1 rfl (lv_room (Nat.le_of_ble_eq_true rfl)) dX8_set_84 ⟨Nat.zero_le _, Nat.zero_le _⟩) hS (fun r_17 x_18 H_15 lo_16 h_84 hX hS => ?_)
        try dsimp only at h_84
        rw [← hQ]
        refine x_iret (v := r_17) hx hb hr hX hS hlocks dX8_set_87 ?_
        show PT_X8_set _ _ _ _ _ _
        unfold PT_X8_set
        rw [if_pos c_3, if_pos c_6, if_pos c_9]
        have h9 : x_12 3 (40 * tn a + tn i) = narI (x 1 (tn a)) v := by rw [ex_12, mst_self]
        exact ⟨(h_84.1 rfl).trans h9, by rw [h_84.2.2, ex_12]⟩
      · refine lv_aload_n hx hb dX8_set_43 rfl (lv_at hl 0 rfl) ?_
        refine lv_iconst (v := 2) hx hb dX8_set_44 (by decide) ?_
        refine lv_iconst (v := 0) hx hb dX8_set_45 (by decide) ?_
        refine x_if (w := (wM G B)) (va_runV (As := [.int (2), .int (0)]) (rest := []) ⟨hx, hb, hml, hown, hts⟩ (c_X8_found (l := l) (G := G) (B := B) (hW := hW) (x := x) (nu := 2) (to := 0)) (cwV 2 hts gX8_set_X8_found rfl rfl rfl (by decide +kernel) ⟨Nat.le_of_ble_eq_true rfl, Nat.le_of_ble_eq_true rfl⟩) (x_pv (w := (wM G B)) (a := 0) hW hX hK hE hS [.int (2), .int (0)] (Nat.le_of_ble_eq_true rfl) (shM_0 (G := G) (B := B)) rfl) rfl rfl hl.1 rfl (lv_room (Nat.le_of_ble_eq_true rfl)) dX8_set_46 ⟨Nat.zero_le _, Nat.zero_le _⟩) hS (fun r_21 x_22 H_19 lo_20 h_46 hX hS => ?_)
        try dsimp only at h_46
        rw [← hQ]
        refine x_iret (v := r_21) hx hb hr hX hS hlocks dX8_set_49 ?_
        show PT_X8_set _ _ _ _ _ _
        unfold PT_X8_set
        rw [if_pos c_3, if_pos c_6, if_neg (ne_of_false c_9)]
        exact ⟨h_46.2.1 (by decide), h_46.2.2⟩
    · refine lv_aload_n hx hb dX8_set_18 rfl (lv_at hl 0 rfl) ?_
      refine lv_iconst (v := 1) hx hb dX8_set_19 (by decide) ?_
      refine lv_iconst (v := 0) hx hb dX8_set_20 (by decide) ?_
      refine x_if (w := (wM G B)) (va_runV (As := [.int (1), .int (0)]) (rest := []) ⟨hx, hb, hml, hown, hts⟩ (c_X8_found (l := l) (G := G) (B := B) (hW := hW) (x := x) (nu := 1) (to := 0)) (cwV 2 hts gX8_set_X8_found rfl rfl rfl (by decide +kernel) ⟨Nat.le_of_ble_eq_true rfl, Nat.le_of_ble_eq_true rfl⟩) (x_pv (w := (wM G B)) (a := 0) hW hX hK hE hS [.int (1), .int (0)] (Nat.le_of_ble_eq_true rfl) (shM_0 (G := G) (B := B)) rfl) rfl rfl hl.1 rfl (lv_room (Nat.le_of_ble_eq_true rfl)) dX8_set_21 ⟨Nat.zero_le _, Nat.zero_le _⟩) hS (fun r_25 x_26 H_23 lo_24 h_21 hX hS => ?_)
      try dsimp only at h_21
      rw [← hQ]
      refine x_iret (v := r_25) hx hb hr hX hS hlocks dX8_set_24 ?_
      show PT_X8_set _ _ _ _ _ _
      unfold PT_X8_set
      rw [if_pos c_3, if_neg (ne_of_true c_6)]
      exact ⟨h_21.2.1 (by decide), h_21.2.2⟩
  · refine lv_ldc (v := (-1000001)) hx hb hown (hts _ kX8_set_63) dX8_set_7 ?_
    rw [← hQ]
    refine x_iret (v := (-1000001)) hx hb hr hX hS hlocks dX8_set_9 ?_
    show PT_X8_set _ _ _ _ _ _
    unfold PT_X8_set
    rw [if_neg (ne_of_false c_3)]
    exact ⟨rfl, rfl⟩

def PT_X8_drop (x : Mem) (a : Int32) (r : Int32) (u : Mem) : Prop := (if (decide (0 ≤ a) && decide (a ≤ 7)) = true then (if (decide (x 1 (tn a) < 0)) = false then (r = x 2 (tn a) ∧ u = mst (mst x 1 (tn a) (-1)) 0 3 0) else (r = -1000010 - 1 ∧ u = mst x 0 3 1)) else (r = (-1000001) ∧ u = x))
theorem kX8_drop_7 : (.fieldLink RX8 7 "WindTakenModel" "lanes" "[I" : Cond) ∈ wsX8_drop := by decide +kernel
theorem iX8_drop_X8 : ∀ w ∈ wsX80, w ∈ wsX8_drop := by decide +kernel
theorem kX8_drop_13 : (.fieldLink RX8 13 "WindTakenModel" "sizes" "[I" : Cond) ∈ wsX8_drop := by decide +kernel
theorem kX8_drop_63 : (.constant RX8 63 (-1000001) : Cond) ∈ wsX8_drop := by decide +kernel
abbrev rmX8_drop : Room := { frames := 2, cells := 0, slots := 0, locals := 45 }
set_option maxHeartbeats 4000000 in
set_option maxRecDepth 100000 in
theorem c_X8_drop (l : Launch) (G : GG) (B : Nat) (hW : WOK (wM G B)) (x : Mem) (a : Int32) : Met l yX8_drop wsX8_drop rmX8_drop (XP G (wM G B) [.ref (B + (0)), .int (a)] x) (va_Qi (fun r u => PT_X8_drop x a r u) (XB G (wM G B)) (blkA B (B + 13))) 0 0 (blkA B (B + 13)) := by
  refine Met.ofW (cc := cX8_drop) (maxL := 2) (ret := (some .int)) (by decide) rfl ?_
  intro pp ee ss mm aa bb mt cd s1 Bd hml hv
  obtain ⟨hae, hX, hK, hE⟩ := hv
  have hx := Bd.exec
  have hb := Bd.bytes
  have hr := Bd.returns
  have hts := atoms_spec (ws := wsX8_drop) Bd.pre
  have hown : ss.vm.findClass RX8 = some mm.cls := findClass_of_methodNamed Bd.named
  have hlocks := Bd.notSynchronized
  have hS : va_S (blkA B (B + 13)) ss.heap ss.heap [] := va_S.rf
  have hl := lv_entry ([.ref (B + (0)), .int (a)]) (n := 2) (Nat.le_of_ble_eq_true rfl)
  subst hae
  rw [lg_entry_eq]
  generalize (lg_sl ([.ref (B + (0)), .int (a)]) ++ List.replicate (2 - (lg_sl ([.ref (B + (0)), .int (a)])).length) Slot.unset).toArray = ls at hl ⊢
  have hl : lv_has ls 2 [(0, .ref (B + (0))), (1, .int (a))] := hl
  generalize ([.ref (B + (0)), .int (a)] : List Value).toArray = aa at hts ⊢
  show W pp l ee rmX8_drop ss mm aa bb mt cd ss.heap [] 0 0 _ (F0 mm 0 ls [])
  generalize hQ : MQ bb (va_Qi (fun r u => PT_X8_drop x a r u) (XB G (wM G B)) (blkA B (B + 13))) aa ss 0 0 (blkA B (B + 13)) = Q
  refine lv_iload_n hx hb dX8_drop_0 rfl (lv_at hl 1 rfl) ?_
  refine x_ip (w := (wM G B)) (x := x) (v := bI (decide (0 ≤ a) && decide (a ≤ 7))) (va_runS (As := [.int (a)]) (rest := []) ⟨hx, hb, hml, hown, hts⟩ (c_X8_isRow (l := l) (G := G) (B := B) (hW := hW) (x := x) (v := a)) (va_cwS 1 hts gX8_drop_X8_isRow rfl rfl rfl (by decide +kernel) ⟨Nat.le_of_ble_eq_true rfl, Nat.le_of_ble_eq_true rfl⟩) (x_ps (w := (wM G B)) hW hX hK hE hS [.int (a)]) rfl rfl hl.1 rfl (lv_room (Nat.le_of_ble_eq_true rfl)) dX8_drop_1 ⟨Nat.zero_le _, Nat.zero_le _⟩) hS (fun H_1 lo_2 hX hS => ?_)
  refine x_ifne (tgt := 10) hx hb dX8_drop_4 (by decide) (fun c_3 => ?_) (fun c_3 => ?_)
  · obtain ⟨hae, ha8⟩ := rowN c_3
    refine lv_aload_n hx hb dX8_drop_10 rfl (lv_at hl 0 rfl) ?_
    refine lv_iload_n hx hb dX8_drop_11 rfl (lv_at hl 1 rfl) ?_
    refine W.eq (g2 := F0 mm 12 ls [.int (nI (tn a)), .ref (B + (0))]) (congrArg (fun z9 : Int32 => F0 mm 12 ls [.int (z9), .ref (B + (0))]) hae) ?_
    refine x_ip (w := (wM G B)) (x := x) (v := bI (decide (x 1 (tn a) < 0))) (va_runV (As := [.int (nI (tn a))]) (rest := []) ⟨hx, hb, hml, hown, hts⟩ (c_X8_isMissing (l := l) (G := G) (B := B) (hW := hW) (x := x) (i := tn a) (hi := (by omega))) (cwV 1 hts gX8_drop_X8_isMissing rfl rfl rfl (by decide +kernel) ⟨Nat.le_of_ble_eq_true rfl, Nat.le_of_ble_eq_true rfl⟩) (x_pv (w := (wM G B)) (a := 0) hW hX hK hE hS [.int (nI (tn a))] (Nat.le_of_ble_eq_true rfl) (shM_0 (G := G) (B := B)) rfl) rfl rfl hl.1 rfl (lv_room (Nat.le_of_ble_eq_true rfl)) dX8_drop_12 ⟨Nat.zero_le _, Nat.zero_le _⟩) hS (fun H_4 lo_5 hX hS => ?_)
    refine x_ifeq (tgt := 25) hx hb dX8_drop_15 (by decide) (fun c_6 => ?_) (fun c_6 => ?_)
    · refine lv_aload_n hx hb dX8_drop_25 rfl (lv_at hl 0 rfl) ?_
      refine x_get (w := (wM G B)) (a := 0) (v := .ref (B + (1))) hx hb hts iX8_drop_X8 hown hK hX (Nat.le_of_ble_eq_true rfl) (shM_0 (G := G) (B := B)) rfl 0 (by decide) (hts _ kX8_drop_7) (fun _ h9 => h9) rfl dX8_drop_26 ?_
      refine lv_iload_n hx hb dX8_drop_29 rfl (lv_at hl 1 rfl) ?_
      refine lv_iconst (v := (-1)) hx hb dX8_drop_30 (by decide) ?_
      refine x_iast (w := (wM G B)) (a := 1) (n := 8) (j := tn a) hx hb hK hW hX hS (Nat.le_of_ble_eq_true rfl) (fun f => (shM_a (G := G) (B := B) (a := 1) (f := f) (by decide))) hae (by omega) (by decide) dX8_drop_31 (fun H_8 lo_9 hX hS => ?_)
      obtain ⟨x_7, ex_7⟩ : ∃ z, z = mst x (1) (tn a) ((-1)) := ⟨_, rfl⟩
      rw [← ex_7] at hX
      refine lv_aload_n hx hb dX8_drop_32 rfl (lv_at hl 0 rfl) ?_
      refine lv_iconst (v := 0) hx hb dX8_drop_33 (by decide) ?_
      refine lv_aload_n hx hb dX8_drop_34 rfl (lv_at hl 0 rfl) ?_
      refine x_get (w := (wM G B)) (a := 0) (v := .ref (B + (2))) hx hb hts iX8_drop_X8 hown hK hX (Nat.le_of_ble_eq_true rfl) (shM_0 (G := G) (B := B)) rfl 1 (by decide) (hts _ kX8_drop_13) (fun _ h9 => h9) rfl dX8_drop_35 ?_
      refine lv_iload_n hx hb dX8_drop_38 rfl (lv_at hl 1 rfl) ?_
      refine x_iald (w := (wM G B)) (a := 2) (n := 8) (j := tn a) hx hb hK hX (Nat.le_of_ble_eq_true rfl) (shM_a (G := G) (B := B) (a := 2) (f := x_7 (2)) (by decide)) hae (by omega) (by decide) dX8_drop_39 ?_
      refine x_if (w := (wM G B)) (va_runV (As := [.int (0), .int (x_7 (2) (tn a))]) (rest := []) ⟨hx, hb, hml, hown, hts⟩ (c_X8_found (l := l) (G := G) (B := B) (hW := hW) (x := x_7) (nu := 0) (to := x_7 (2) (tn a))) (cwV 2 hts gX8_drop_X8_found rfl rfl rfl (by decide +kernel) ⟨Nat.le_of_ble_eq_true rfl, Nat.le_of_ble_eq_true rfl⟩) (x_pv (w := (wM G B)) (a := 0) hW hX hK hE hS [.int (0), .int (x_7 (2) (tn a))] (Nat.le_of_ble_eq_true rfl) (shM_0 (G := G) (B := B)) rfl) rfl rfl hl.1 rfl (lv_room (Nat.le_of_ble_eq_true rfl)) dX8_drop_40 ⟨Nat.zero_le _, Nat.zero_le _⟩) hS (fun r_12 x_13 H_10 lo_11 h_40 hX hS => ?_)
      try dsimp only at h_40
      rw [← hQ]
      refine x_iret (v := r_12) hx hb hr hX hS hlocks dX8_drop_43 ?_
      show PT_X8_drop _ _ _ _
      unfold PT_X8_drop
      rw [if_pos c_3, if_pos c_6]
      exact ⟨(h_40.1 rfl).trans (by rw [ex_7, mst_ne (by decide)]), by rw [h_40.2.2, ex_7]⟩
    · refine lv_aload_n hx hb dX8_drop_18 rfl (lv_at hl 0 rfl) ?_
      refine lv_iconst (v := 1) hx hb dX8_drop_19 (by decide) ?_
      refine lv_iconst (v := 0) hx hb dX8_drop_20 (by decide) ?_
      refine x_if (w := (wM G B)) (va_runV (As := [.int (1), .int (0)]) (rest := []) ⟨hx, hb, hml, hown, hts⟩ (c_X8_found (l := l) (G := G) (B := B) (hW := hW) (x := x) (nu := 1) (to := 0)) (cwV 2 hts gX8_drop_X8_found rfl rfl rfl (by decide +kernel) ⟨Nat.le_of_ble_eq_true rfl, Nat.le_of_ble_eq_true rfl⟩) (x_pv (w := (wM G B)) (a := 0) hW hX hK hE hS [.int (1), .int (0)] (Nat.le_of_ble_eq_true rfl) (shM_0 (G := G) (B := B)) rfl) rfl rfl hl.1 rfl (lv_room (Nat.le_of_ble_eq_true rfl)) dX8_drop_21 ⟨Nat.zero_le _, Nat.zero_le _⟩) hS (fun r_16 x_17 H_14 lo_15 h_21 hX hS => ?_)
      try dsimp only at h_21
      rw [← hQ]
      refine x_iret (v := r_16) hx hb hr hX hS hlocks dX8_drop_24 ?_
      show PT_X8_drop _ _ _ _
      unfold PT_X8_drop
      rw [if_pos c_3, if_neg (ne_of_true c_6)]
      exact ⟨h_21.2.1 (by decide), h_21.2.2⟩
  · refine lv_ldc (v := (-1000001)) hx hb hown (hts _ kX8_drop_63) dX8_drop_7 ?_
    rw [← hQ]
    refine x_iret (v := (-1000001)) hx hb hr hX hS hlocks dX8_drop_9 ?_
    show PT_X8_drop _ _ _ _
    unfold PT_X8_drop
    rw [if_neg (ne_of_false c_3)]
    exact ⟨rfl, rfl⟩

def PT_X8_copy (x : Mem) (a : Int32) (i : Int32) (b9 : Int32) (j : Int32) (k : Int32) (r : Int32) (u : Mem) : Prop := (if (decide (0 ≤ a) && decide (a ≤ 7)) = false then (r = (-1000001) ∧ u = x) else (if (decide (0 ≤ b9) && decide (b9 ≤ 7)) = true then (if (decide (x 1 (tn a) < 0)) = true then (r = -1000010 - 1 ∧ u = mst x 0 3 1) else (if (decide (x 1 (tn b9) < 0)) = false then (if (x (1) (tn a)) = (x (1) (tn b9)) then (if (decide (0 ≤ i) && (decide (0 ≤ k) && decide (k ≤ (x (2) (tn a)) - i))) = false then (r = -1000010 - 2 ∧ u = mst x 0 3 2) else (if (decide (0 ≤ j) && (decide (0 ≤ k) && decide (k ≤ (x (2) (tn b9)) - j))) = true then (r = k ∧ ∃ y, ((∀ c, c ≠ 3 → c ≠ 10 → y c = x c) ∧ ∀ c, y 3 c = if 40 * tn b9 + tn j ≤ c ∧ c < 40 * tn b9 + tn j + tn k then x 3 (40 * tn a + tn i + (c - (40 * tn b9 + tn j))) else x 3 c) ∧ u = mst y 0 3 0) else (r = -1000010 - 2 ∧ u = mst x 0 3 2))) else (r = -1000010 - 5 ∧ u = mst x 0 3 5)) else (r = -1000010 - 1 ∧ u = mst x 0 3 1))) else (r = (-1000001) ∧ u = x)))
theorem kX8_copy_63 : (.constant RX8 63 (-1000001) : Cond) ∈ wsX8_copy := by decide +kernel
theorem kX8_copy_7 : (.fieldLink RX8 7 "WindTakenModel" "lanes" "[I" : Cond) ∈ wsX8_copy := by decide +kernel
theorem iX8_copy_X8 : ∀ w ∈ wsX80, w ∈ wsX8_copy := by decide +kernel
theorem kX8_copy_13 : (.fieldLink RX8 13 "WindTakenModel" "sizes" "[I" : Cond) ∈ wsX8_copy := by decide +kernel
theorem kX8_copy_16 : (.fieldLink RX8 16 "WindTakenModel" "items" "[I" : Cond) ∈ wsX8_copy := by decide +kernel
theorem kX8_copy_37 : (.fieldLink RX8 37 "WindTakenModel" "lent" "[I" : Cond) ∈ wsX8_copy := by decide +kernel
abbrev rmX8_copy : Room := { frames := 2, cells := 0, slots := 0, locals := 45 }
set_option maxHeartbeats 4000000 in
set_option maxRecDepth 100000 in
theorem c_X8_copy (l : Launch) (G : GG) (B : Nat) (hW : WOK (wM G B)) (x : Mem) (a : Int32) (i : Int32) (b9 : Int32) (j : Int32) (k : Int32) (hY : YOK x) : Met l yX8_copy wsX8_copy rmX8_copy (XP G (wM G B) [.ref (B + (0)), .int (a), .int (i), .int (b9), .int (j), .int (k)] x) (va_Qi (fun r u => PT_X8_copy x a i b9 j k r u) (XB G (wM G B)) (blkA B (B + 13))) 0 0 (blkA B (B + 13)) := by
  refine Met.ofW (cc := cX8_copy) (maxL := 7) (ret := (some .int)) (by decide) rfl ?_
  intro pp ee ss mm aa bb mt cd s1 Bd hml hv
  obtain ⟨hae, hX, hK, hE⟩ := hv
  have hx := Bd.exec
  have hb := Bd.bytes
  have hr := Bd.returns
  have hts := atoms_spec (ws := wsX8_copy) Bd.pre
  have hown : ss.vm.findClass RX8 = some mm.cls := findClass_of_methodNamed Bd.named
  have hlocks := Bd.notSynchronized
  have hS : va_S (blkA B (B + 13)) ss.heap ss.heap [] := va_S.rf
  have hl := lv_entry ([.ref (B + (0)), .int (a), .int (i), .int (b9), .int (j), .int (k)]) (n := 7) (Nat.le_of_ble_eq_true rfl)
  subst hae
  rw [lg_entry_eq]
  generalize (lg_sl ([.ref (B + (0)), .int (a), .int (i), .int (b9), .int (j), .int (k)]) ++ List.replicate (7 - (lg_sl ([.ref (B + (0)), .int (a), .int (i), .int (b9), .int (j), .int (k)])).length) Slot.unset).toArray = ls at hl ⊢
  have hl : lv_has ls 7 [(0, .ref (B + (0))), (1, .int (a)), (2, .int (i)), (3, .int (b9)), (4, .int (j)), (5, .int (k))] := hl
  generalize ([.ref (B + (0)), .int (a), .int (i), .int (b9), .int (j), .int (k)] : List Value).toArray = aa at hts ⊢
  show W pp l ee rmX8_copy ss mm aa bb mt cd ss.heap [] 0 0 _ (F0 mm 0 ls [])
  generalize hQ : MQ bb (va_Qi (fun r u => PT_X8_copy x a i b9 j k r u) (XB G (wM G B)) (blkA B (B + 13))) aa ss 0 0 (blkA B (B + 13)) = Q
  refine lv_iload_n hx hb dX8_copy_0 rfl (lv_at hl 1 rfl) ?_
  refine x_ip (w := (wM G B)) (x := x) (v := bI (decide (0 ≤ a) && decide (a ≤ 7))) (va_runS (As := [.int (a)]) (rest := []) ⟨hx, hb, hml, hown, hts⟩ (c_X8_isRow (l := l) (G := G) (B := B) (hW := hW) (x := x) (v := a)) (va_cwS 1 hts gX8_copy_X8_isRow rfl rfl rfl (by decide +kernel) ⟨Nat.le_of_ble_eq_true rfl, Nat.le_of_ble_eq_true rfl⟩) (x_ps (w := (wM G B)) hW hX hK hE hS [.int (a)]) rfl rfl hl.1 rfl (lv_room (Nat.le_of_ble_eq_true rfl)) dX8_copy_1 ⟨Nat.zero_le _, Nat.zero_le _⟩) hS (fun H_1 lo_2 hX hS => ?_)
  refine x_ifeq (tgt := 14) hx hb dX8_copy_4 (by decide) (fun c_3 => ?_) (fun c_3 => ?_)
  · refine lv_ldc (v := (-1000001)) hx hb hown (hts _ kX8_copy_63) dX8_copy_14 ?_
    rw [← hQ]
    refine x_iret (v := (-1000001)) hx hb hr hX hS hlocks dX8_copy_16 ?_
    show PT_X8_copy _ _ _ _ _ _ _ _
    unfold PT_X8_copy
    rw [if_pos c_3]
    exact ⟨rfl, rfl⟩
  · obtain ⟨hae, ha8⟩ := rowN c_3
    refine lv_iload_n hx hb dX8_copy_7 rfl (lv_at hl 3 rfl) ?_
    refine x_ip (w := (wM G B)) (x := x) (v := bI (decide (0 ≤ b9) && decide (b9 ≤ 7))) (va_runS (As := [.int (b9)]) (rest := []) ⟨hx, hb, hml, hown, hts⟩ (c_X8_isRow (l := l) (G := G) (B := B) (hW := hW) (x := x) (v := b9)) (va_cwS 1 hts gX8_copy_X8_isRow rfl rfl rfl (by decide +kernel) ⟨Nat.le_of_ble_eq_true rfl, Nat.le_of_ble_eq_true rfl⟩) (x_ps (w := (wM G B)) hW hX hK hE hS [.int (b9)]) rfl rfl hl.1 rfl (lv_room (Nat.le_of_ble_eq_true rfl)) dX8_copy_8 ⟨Nat.zero_le _, Nat.zero_le _⟩) hS (fun H_4 lo_5 hX hS => ?_)
    refine x_ifne (tgt := 17) hx hb dX8_copy_11 (by decide) (fun c_6 => ?_) (fun c_6 => ?_)
    · obtain ⟨hb9e, hb98⟩ := rowN c_6
      refine lv_aload_n hx hb dX8_copy_17 rfl (lv_at hl 0 rfl) ?_
      refine lv_iload_n hx hb dX8_copy_18 rfl (lv_at hl 1 rfl) ?_
      refine W.eq (g2 := F0 mm 19 ls [.int (nI (tn a)), .ref (B + (0))]) (congrArg (fun z9 : Int32 => F0 mm 19 ls [.int (z9), .ref (B + (0))]) hae) ?_
      refine x_ip (w := (wM G B)) (x := x) (v := bI (decide (x 1 (tn a) < 0))) (va_runV (As := [.int (nI (tn a))]) (rest := []) ⟨hx, hb, hml, hown, hts⟩ (c_X8_isMissing (l := l) (G := G) (B := B) (hW := hW) (x := x) (i := tn a) (hi := (by omega))) (cwV 1 hts gX8_copy_X8_isMissing rfl rfl rfl (by decide +kernel) ⟨Nat.le_of_ble_eq_true rfl, Nat.le_of_ble_eq_true rfl⟩) (x_pv (w := (wM G B)) (a := 0) hW hX hK hE hS [.int (nI (tn a))] (Nat.le_of_ble_eq_true rfl) (shM_0 (G := G) (B := B)) rfl) rfl rfl hl.1 rfl (lv_room (Nat.le_of_ble_eq_true rfl)) dX8_copy_19 ⟨Nat.zero_le _, Nat.zero_le _⟩) hS (fun H_7 lo_8 hX hS => ?_)
      refine x_ifne (tgt := 33) hx hb dX8_copy_22 (by decide) (fun c_9 => ?_) (fun c_9 => ?_)
      · refine lv_aload_n hx hb dX8_copy_33 rfl (lv_at hl 0 rfl) ?_
        refine lv_iconst (v := 1) hx hb dX8_copy_34 (by decide) ?_
        refine lv_iconst (v := 0) hx hb dX8_copy_35 (by decide) ?_
        refine x_if (w := (wM G B)) (va_runV (As := [.int (1), .int (0)]) (rest := []) ⟨hx, hb, hml, hown, hts⟩ (c_X8_found (l := l) (G := G) (B := B) (hW := hW) (x := x) (nu := 1) (to := 0)) (cwV 2 hts gX8_copy_X8_found rfl rfl rfl (by decide +kernel) ⟨Nat.le_of_ble_eq_true rfl, Nat.le_of_ble_eq_true rfl⟩) (x_pv (w := (wM G B)) (a := 0) hW hX hK hE hS [.int (1), .int (0)] (Nat.le_of_ble_eq_true rfl) (shM_0 (G := G) (B := B)) rfl) rfl rfl hl.1 rfl (lv_room (Nat.le_of_ble_eq_true rfl)) dX8_copy_36 ⟨Nat.zero_le _, Nat.zero_le _⟩) hS (fun r_12 x_13 H_10 lo_11 h_36 hX hS => ?_)
        try dsimp only at h_36
        rw [← hQ]
        refine x_iret (v := r_12) hx hb hr hX hS hlocks dX8_copy_39 ?_
        show PT_X8_copy _ _ _ _ _ _ _ _
        unfold PT_X8_copy
        rw [if_neg (ne_of_true c_3), if_pos c_6, if_pos c_9]
        exact ⟨h_36.2.1 (by decide), h_36.2.2⟩
      · obtain ⟨sa, hsa40, hsa⟩ := hY.get ha8 c_9
        refine lv_aload_n hx hb dX8_copy_25 rfl (lv_at hl 0 rfl) ?_
        refine lv_iload_n hx hb dX8_copy_26 rfl (lv_at hl 3 rfl) ?_
        refine W.eq (g2 := F0 mm 27 ls [.int (nI (tn b9)), .ref (B + (0))]) (congrArg (fun z9 : Int32 => F0 mm 27 ls [.int (z9), .ref (B + (0))]) hb9e) ?_
        refine x_ip (w := (wM G B)) (x := x) (v := bI (decide (x 1 (tn b9) < 0))) (va_runV (As := [.int (nI (tn b9))]) (rest := []) ⟨hx, hb, hml, hown, hts⟩ (c_X8_isMissing (l := l) (G := G) (B := B) (hW := hW) (x := x) (i := tn b9) (hi := (by omega))) (cwV 1 hts gX8_copy_X8_isMissing rfl rfl rfl (by decide +kernel) ⟨Nat.le_of_ble_eq_true rfl, Nat.le_of_ble_eq_true rfl⟩) (x_pv (w := (wM G B)) (a := 0) hW hX hK hE hS [.int (nI (tn b9))] (Nat.le_of_ble_eq_true rfl) (shM_0 (G := G) (B := B)) rfl) rfl rfl hl.1 rfl (lv_room (Nat.le_of_ble_eq_true rfl)) dX8_copy_27 ⟨Nat.zero_le _, Nat.zero_le _⟩) hS (fun H_14 lo_15 hX hS => ?_)
        refine x_ifeq (tgt := 40) hx hb dX8_copy_30 (by decide) (fun c_16 => ?_) (fun c_16 => ?_)
        · obtain ⟨sb, hsb40, hsb⟩ := hY.get hb98 c_16
          refine lv_aload_n hx hb dX8_copy_40 rfl (lv_at hl 0 rfl) ?_
          refine x_get (w := (wM G B)) (a := 0) (v := .ref (B + (1))) hx hb hts iX8_copy_X8 hown hK hX (Nat.le_of_ble_eq_true rfl) (shM_0 (G := G) (B := B)) rfl 0 (by decide) (hts _ kX8_copy_7) (fun _ h9 => h9) rfl dX8_copy_41 ?_
          refine lv_iload_n hx hb dX8_copy_44 rfl (lv_at hl 1 rfl) ?_
          refine x_iald (w := (wM G B)) (a := 1) (n := 8) (j := tn a) hx hb hK hX (Nat.le_of_ble_eq_true rfl) (shM_a (G := G) (B := B) (a := 1) (f := x (1)) (by decide)) hae (by omega) (by decide) dX8_copy_45 ?_
          refine lv_aload_n hx hb dX8_copy_46 rfl (lv_at hl 0 rfl) ?_
          refine x_get (w := (wM G B)) (a := 0) (v := .ref (B + (1))) hx hb hts iX8_copy_X8 hown hK hX (Nat.le_of_ble_eq_true rfl) (shM_0 (G := G) (B := B)) rfl 0 (by decide) (hts _ kX8_copy_7) (fun _ h9 => h9) rfl dX8_copy_47 ?_
          refine lv_iload_n hx hb dX8_copy_50 rfl (lv_at hl 3 rfl) ?_
          refine x_iald (w := (wM G B)) (a := 1) (n := 8) (j := tn b9) hx hb hK hX (Nat.le_of_ble_eq_true rfl) (shM_a (G := G) (B := B) (a := 1) (f := x (1)) (by decide)) hb9e (by omega) (by decide) dX8_copy_51 ?_
          refine lv_icmp_eq (tgt := 62) hx hb dX8_copy_52 (by decide) (fun c_17 => ?_) (fun c_17 => ?_)
          · refine lv_iload_n hx hb dX8_copy_62 rfl (lv_at hl 2 rfl) ?_
            refine lv_iload hx hb dX8_copy_63 (lv_at hl 5 rfl) ?_
            refine lv_aload_n hx hb dX8_copy_65 rfl (lv_at hl 0 rfl) ?_
            refine x_get (w := (wM G B)) (a := 0) (v := .ref (B + (2))) hx hb hts iX8_copy_X8 hown hK hX (Nat.le_of_ble_eq_true rfl) (shM_0 (G := G) (B := B)) rfl 1 (by decide) (hts _ kX8_copy_13) (fun _ h9 => h9) rfl dX8_copy_66 ?_
            refine lv_iload_n hx hb dX8_copy_69 rfl (lv_at hl 1 rfl) ?_
            refine x_iald (w := (wM G B)) (a := 2) (n := 8) (j := tn a) hx hb hK hX (Nat.le_of_ble_eq_true rfl) (shM_a (G := G) (B := B) (a := 2) (f := x (2)) (by decide)) hae (by omega) (by decide) dX8_copy_70 ?_
            refine x_ip (w := (wM G B)) (x := x) (v := bI (decide (0 ≤ i) && (decide (0 ≤ k) && decide (k ≤ (x (2) (tn a)) - i)))) (va_runS (As := [.int (i), .int (k), .int (x (2) (tn a))]) (rest := []) ⟨hx, hb, hml, hown, hts⟩ (c_X8_isWithin (l := l) (G := G) (B := B) (hW := hW) (x := x) (i := i) (k := k) (z1 := x (2) (tn a)) (sz := sa) (hsz := hsa) (hsz40 := hsa40)) (va_cwS 3 hts gX8_copy_X8_isWithin rfl rfl rfl (by decide +kernel) ⟨Nat.le_of_ble_eq_true rfl, Nat.le_of_ble_eq_true rfl⟩) (x_ps (w := (wM G B)) hW hX hK hE hS [.int (i), .int (k), .int (x (2) (tn a))]) rfl rfl hl.1 rfl (lv_room (Nat.le_of_ble_eq_true rfl)) dX8_copy_71 ⟨Nat.zero_le _, Nat.zero_le _⟩) hS (fun H_18 lo_19 hX hS => ?_)
            refine x_ifeq (tgt := 93) hx hb dX8_copy_74 (by decide) (fun c_20 => ?_) (fun c_20 => ?_)
            · refine lv_aload_n hx hb dX8_copy_93 rfl (lv_at hl 0 rfl) ?_
              refine lv_iconst (v := 2) hx hb dX8_copy_94 (by decide) ?_
              refine lv_iconst (v := 0) hx hb dX8_copy_95 (by decide) ?_
              refine x_if (w := (wM G B)) (va_runV (As := [.int (2), .int (0)]) (rest := []) ⟨hx, hb, hml, hown, hts⟩ (c_X8_found (l := l) (G := G) (B := B) (hW := hW) (x := x) (nu := 2) (to := 0)) (cwV 2 hts gX8_copy_X8_found rfl rfl rfl (by decide +kernel) ⟨Nat.le_of_ble_eq_true rfl, Nat.le_of_ble_eq_true rfl⟩) (x_pv (w := (wM G B)) (a := 0) hW hX hK hE hS [.int (2), .int (0)] (Nat.le_of_ble_eq_true rfl) (shM_0 (G := G) (B := B)) rfl) rfl rfl hl.1 rfl (lv_room (Nat.le_of_ble_eq_true rfl)) dX8_copy_96 ⟨Nat.zero_le _, Nat.zero_le _⟩) hS (fun r_23 x_24 H_21 lo_22 h_96 hX hS => ?_)
              try dsimp only at h_96
              rw [← hQ]
              refine x_iret (v := r_23) hx hb hr hX hS hlocks dX8_copy_99 ?_
              show PT_X8_copy _ _ _ _ _ _ _ _
              unfold PT_X8_copy
              rw [if_neg (ne_of_true c_3), if_pos c_6, if_neg (ne_of_false c_9), if_pos c_16, if_pos c_17, if_pos c_20]
              exact ⟨h_96.2.1 (by decide), h_96.2.2⟩
            · obtain ⟨hie, hke, hik⟩ := wiN hsa hsa40 c_20
              refine lv_iload hx hb dX8_copy_77 (lv_at hl 4 rfl) ?_
              refine lv_iload hx hb dX8_copy_79 (lv_at hl 5 rfl) ?_
              refine lv_aload_n hx hb dX8_copy_81 rfl (lv_at hl 0 rfl) ?_
              refine x_get (w := (wM G B)) (a := 0) (v := .ref (B + (2))) hx hb hts iX8_copy_X8 hown hK hX (Nat.le_of_ble_eq_true rfl) (shM_0 (G := G) (B := B)) rfl 1 (by decide) (hts _ kX8_copy_13) (fun _ h9 => h9) rfl dX8_copy_82 ?_
              refine lv_iload_n hx hb dX8_copy_85 rfl (lv_at hl 3 rfl) ?_
              refine x_iald (w := (wM G B)) (a := 2) (n := 8) (j := tn b9) hx hb hK hX (Nat.le_of_ble_eq_true rfl) (shM_a (G := G) (B := B) (a := 2) (f := x (2)) (by decide)) hb9e (by omega) (by decide) dX8_copy_86 ?_
              refine x_ip (w := (wM G B)) (x := x) (v := bI (decide (0 ≤ j) && (decide (0 ≤ k) && decide (k ≤ (x (2) (tn b9)) - j)))) (va_runS (As := [.int (j), .int (k), .int (x (2) (tn b9))]) (rest := []) ⟨hx, hb, hml, hown, hts⟩ (c_X8_isWithin (l := l) (G := G) (B := B) (hW := hW) (x := x) (i := j) (k := k) (z1 := x (2) (tn b9)) (sz := sb) (hsz := hsb) (hsz40 := hsb40)) (va_cwS 3 hts gX8_copy_X8_isWithin rfl rfl rfl (by decide +kernel) ⟨Nat.le_of_ble_eq_true rfl, Nat.le_of_ble_eq_true rfl⟩) (x_ps (w := (wM G B)) hW hX hK hE hS [.int (j), .int (k), .int (x (2) (tn b9))]) rfl rfl hl.1 rfl (lv_room (Nat.le_of_ble_eq_true rfl)) dX8_copy_87 ⟨Nat.zero_le _, Nat.zero_le _⟩) hS (fun H_25 lo_26 hX hS => ?_)
              refine x_ifne (tgt := 100) hx hb dX8_copy_90 (by decide) (fun c_27 => ?_) (fun c_27 => ?_)
              · obtain ⟨hje, hke2, hjk⟩ := wiN hsb hsb40 c_27
                refine lv_iconst (v := 0) hx hb dX8_copy_100 (by decide) ?_
                refine lv_istore (lv' := [(6, .int (0)), (0, .ref (B + (0))), (1, .int (a)), (2, .int (i)), (3, .int (b9)), (4, .int (j)), (5, .int (k))]) hx hb dX8_copy_101 hl (by decide) rfl (fun ls hl => ?_)
                have L_28 : ∀ (n9 : Nat) (h : Nat)  (u1 : Mem) (_ : n9 = tn k - h) (_ : h ≤ tn k ∧ (∀ c, c ≠ 10 → u1 c = x c) ∧ ∀ c, c < h → u1 10 c = x 3 (40 * tn a + tn i + c)) (H_29 : Heap) (lo_30 : List Loc) (_ : MR G (wM G B) u1 H_29) (_ : va_S (blkA B (B + 13)) ss.heap H_29 lo_30) (ls : Array Slot) (_ : lv_has ls 7 [(6, .int (nI h)), (0, .ref (B + (0))), (1, .int (a)), (2, .int (i)), (3, .int (b9)), (4, .int (j)), (5, .int (k))]), W pp l ee rmX8_copy ss mm aa bb mt cd H_29 lo_30 0 0 Q (F0 mm 103 ls []) := by
                  intro n9
                  induction n9 using Nat.strongRecOn with
                  | _ n9 ih => 
                    have ih_103 := ih
                    intro h u1 hn9 hI H_29 lo_30 hX hS ls hl
                    obtain ⟨hh, ho, hl9⟩ := hI
                    refine lv_iload hx hb dX8_copy_103 (lv_at hl 0 rfl) ?_
                    refine lv_iload hx hb dX8_copy_105 (lv_at hl 6 rfl) ?_
                    refine lv_icmp_ge (tgt := 137) hx hb dX8_copy_107 (by decide) (fun c_31 => ?_) (fun c_31 => ?_)
                    · have nc_31 := (n_le (a := tn k) (b := h) hke rfl (by omega) (by omega)).mp c_31
                      refine lv_iconst (v := 0) hx hb dX8_copy_137 (by decide) ?_
                      refine lv_istore (lv' := [(6, .int (0)), (0, .ref (B + (0))), (1, .int (a)), (2, .int (i)), (3, .int (b9)), (4, .int (j)), (5, .int (k))]) hx hb dX8_copy_138 hl (by decide) rfl (fun ls hl => ?_)
                      have L_32 : ∀ (n9 : Nat) (g : Nat)  (u2 : Mem) (_ : n9 = tn k - g) (_ : g ≤ tn k ∧ (∀ c, c ≠ 3 → u2 c = u1 c) ∧ ∀ c, u2 3 c = if 40 * tn b9 + tn j ≤ c ∧ c < 40 * tn b9 + tn j + g then x 3 (40 * tn a + tn i + (c - (40 * tn b9 + tn j))) else x 3 c) (H_33 : Heap) (lo_34 : List Loc) (_ : MR G (wM G B) u2 H_33) (_ : va_S (blkA B (B + 13)) ss.heap H_33 lo_34) (ls : Array Slot) (_ : lv_has ls 7 [(6, .int (nI g)), (0, .ref (B + (0))), (1, .int (a)), (2, .int (i)), (3, .int (b9)), (4, .int (j)), (5, .int (k))]), W pp l ee rmX8_copy ss mm aa bb mt cd H_33 lo_34 0 0 Q (F0 mm 140 ls []) := by
                        intro n9
                        induction n9 using Nat.strongRecOn with
                        | _ n9 ih => 
                          have ih_140 := ih
                          intro g u2 hn9 hI H_33 lo_34 hX hS ls hl
                          obtain ⟨hg, ho2, h3⟩ := hI
                          refine lv_iload hx hb dX8_copy_140 (lv_at hl 0 rfl) ?_
                          refine lv_iload hx hb dX8_copy_142 (lv_at hl 6 rfl) ?_
                          refine lv_icmp_ge (tgt := 175) hx hb dX8_copy_144 (by decide) (fun c_35 => ?_) (fun c_35 => ?_)
                          · have nc_35 := (n_le (a := tn k) (b := g) hke rfl (by omega) (by omega)).mp c_35
                            refine lv_aload_n hx hb dX8_copy_175 rfl (lv_at hl 1 rfl) ?_
                            refine lv_iconst (v := 0) hx hb dX8_copy_176 (by decide) ?_
                            refine lv_iload hx hb dX8_copy_177 (lv_at hl 6 rfl) ?_
                            refine x_if (w := (wM G B)) (va_runV (As := [.int (0), .int (k)]) (rest := []) ⟨hx, hb, hml, hown, hts⟩ (c_X8_found (l := l) (G := G) (B := B) (hW := hW) (x := u2) (nu := 0) (to := k)) (cwV 2 hts gX8_copy_X8_found rfl rfl rfl (by decide +kernel) ⟨Nat.le_of_ble_eq_true rfl, Nat.le_of_ble_eq_true rfl⟩) (x_pv (w := (wM G B)) (a := 0) hW hX hK hE hS [.int (0), .int (k)] (Nat.le_of_ble_eq_true rfl) (shM_0 (G := G) (B := B)) rfl) rfl rfl hl.1 rfl (lv_room (Nat.le_of_ble_eq_true rfl)) dX8_copy_179 ⟨Nat.zero_le _, Nat.zero_le _⟩) hS (fun r_38 x_39 H_36 lo_37 h_179 hX hS => ?_)
                            try dsimp only at h_179
                            rw [← hQ]
                            refine x_iret (v := r_38) hx hb hr hX hS hlocks dX8_copy_182 ?_
                            show PT_X8_copy _ _ _ _ _ _ _ _
                            unfold PT_X8_copy
                            rw [if_neg (ne_of_true c_3), if_pos c_6, if_neg (ne_of_false c_9), if_pos c_16, if_pos c_17, if_neg (ne_of_true c_20), if_pos c_27]
                            have e9 : g = tn k := by omega
                            rw [e9] at h3
                            exact ⟨h_179.1 rfl, _, ⟨fun c c1 c2 => (ho2 c c1).trans (ho c c2), h3⟩, h_179.2.2⟩
                          · have nc_35 := Nat.not_le.mp (fun q => c_35 ((n_le (a := tn k) (b := g) hke rfl (by omega) (by omega)).mpr q))
                            refine lv_aload_n hx hb dX8_copy_147 rfl (lv_at hl 1 rfl) ?_
                            refine x_get (w := (wM G B)) (a := 0) (v := .ref (B + (3))) hx hb hts iX8_copy_X8 hown hK hX (Nat.le_of_ble_eq_true rfl) (shM_0 (G := G) (B := B)) rfl 2 (by decide) (hts _ kX8_copy_16) (fun _ h9 => h9) rfl dX8_copy_148 ?_
                            refine lv_bipush (v := 40) hx hb dX8_copy_151 (by decide) ?_
                            refine lv_iload_n hx hb dX8_copy_153 rfl (lv_at hl 4 rfl) ?_
                            refine lv_imul hx hb dX8_copy_154 ?_
                            refine lv_iload hx hb dX8_copy_155 (lv_at hl 5 rfl) ?_
                            refine lv_iadd hx hb dX8_copy_157 ?_
                            refine lv_iload hx hb dX8_copy_158 (lv_at hl 0 rfl) ?_
                            refine lv_iadd hx hb dX8_copy_160 ?_
                            refine lv_aload_n hx hb dX8_copy_161 rfl (lv_at hl 1 rfl) ?_
                            refine x_get (w := (wM G B)) (a := 0) (v := .ref (B + (10))) hx hb hts iX8_copy_X8 hown hK hX (Nat.le_of_ble_eq_true rfl) (shM_0 (G := G) (B := B)) rfl 13 (by decide) (hts _ kX8_copy_37) (fun _ h9 => h9) rfl dX8_copy_162 ?_
                            refine lv_iload hx hb dX8_copy_165 (lv_at hl 0 rfl) ?_
                            refine x_iald (w := (wM G B)) (a := 10) (n := 40) (j := g) hx hb hK hX (Nat.le_of_ble_eq_true rfl) (shM_a (G := G) (B := B) (a := 10) (f := u2 (10)) (by decide)) rfl (by omega) (by decide) dX8_copy_167 ?_
                            refine x_iast (w := (wM G B)) (a := 3) (n := 320) (j := 40 * (tn b9) + (tn j) + g) hx hb hK hW hX hS (Nat.le_of_ble_eq_true rfl) (fun f => (shM_a (G := G) (B := B) (a := 3) (f := f) (by decide))) (n_add (n_add (n_mul rfl hb9e) hje) rfl) (by omega) (by decide) dX8_copy_168 (fun H_41 lo_42 hX hS => ?_)
                            obtain ⟨x_40, ex_40⟩ : ∃ z, z = mst u2 (3) (40 * (tn b9) + (tn j) + g) (u2 (10) g) := ⟨_, rfl⟩
                            rw [← ex_40] at hX
                            refine lv_iinc (v := nI (g + 1)) (lv' := [(6, .int (nI (g + 1))), (0, .ref (B + (0))), (1, .int (a)), (2, .int (i)), (3, .int (b9)), (4, .int (j)), (5, .int (k))]) hx hb dX8_copy_169 hl (k := 0) rfl (inc_nI _) (by decide) rfl (fun ls hl => ?_)
                            refine lv_goto (tgt := 140) hx hb dX8_copy_172 (by decide) ?_
                            exact ih_140 _ (by omega) (g + 1) (x_40) rfl ⟨by omega, fun c c1 => by rw [ex_40, mst_ne c1]; exact ho2 c c1, fun c => by
          rw [ex_40, mst_eq]
          by_cases hi : c = 40 * tn b9 + tn j + g
          · rw [hi, upd_eq, if_pos (by omega), ho2 10 (by decide), hl9 g (by omega), Nat.add_sub_cancel_left]
          · rw [upd_ne hi, h3 c]
            by_cases hi2 : 40 * tn b9 + tn j ≤ c ∧ c < 40 * tn b9 + tn j + g
            · rw [if_pos hi2, if_pos (by omega)]
            · rw [if_neg hi2, if_neg (by omega)]⟩ _ _ hX hS ls (lv_sub hl [0, 1, 2, 3, 4, 5, 6] rfl)
                      exact L_32 _ (0) (u1) rfl ⟨Nat.zero_le _, fun c _ => rfl, fun c => by rw [if_neg (by omega), ho 3 (by decide)]⟩ _ _ hX hS ls (lv_sub hl [0, 1, 2, 3, 4, 5, 6] rfl)
                    · have nc_31 := Nat.not_le.mp (fun q => c_31 ((n_le (a := tn k) (b := h) hke rfl (by omega) (by omega)).mpr q))
                      refine lv_aload_n hx hb dX8_copy_110 rfl (lv_at hl 1 rfl) ?_
                      refine x_get (w := (wM G B)) (a := 0) (v := .ref (B + (10))) hx hb hts iX8_copy_X8 hown hK hX (Nat.le_of_ble_eq_true rfl) (shM_0 (G := G) (B := B)) rfl 13 (by decide) (hts _ kX8_copy_37) (fun _ h9 => h9) rfl dX8_copy_111 ?_
                      refine lv_iload hx hb dX8_copy_114 (lv_at hl 0 rfl) ?_
                      refine lv_aload_n hx hb dX8_copy_116 rfl (lv_at hl 1 rfl) ?_
                      refine x_get (w := (wM G B)) (a := 0) (v := .ref (B + (3))) hx hb hts iX8_copy_X8 hown hK hX (Nat.le_of_ble_eq_true rfl) (shM_0 (G := G) (B := B)) rfl 2 (by decide) (hts _ kX8_copy_16) (fun _ h9 => h9) rfl dX8_copy_117 ?_
                      refine lv_bipush (v := 40) hx hb dX8_copy_120 (by decide) ?_
                      refine lv_iload_n hx hb dX8_copy_122 rfl (lv_at hl 2 rfl) ?_
                      refine lv_imul hx hb dX8_copy_123 ?_
                      refine lv_iload_n hx hb dX8_copy_124 rfl (lv_at hl 3 rfl) ?_
                      refine lv_iadd hx hb dX8_copy_125 ?_
                      refine lv_iload hx hb dX8_copy_126 (lv_at hl 0 rfl) ?_
                      refine lv_iadd hx hb dX8_copy_128 ?_
                      refine x_iald (w := (wM G B)) (a := 3) (n := 320) (j := 40 * (tn a) + (tn i) + h) hx hb hK hX (Nat.le_of_ble_eq_true rfl) (shM_a (G := G) (B := B) (a := 3) (f := u1 (3)) (by decide)) (n_add (n_add (n_mul rfl hae) hie) rfl) (by omega) (by decide) dX8_copy_129 ?_
                      refine x_iast (w := (wM G B)) (a := 10) (n := 40) (j := h) hx hb hK hW hX hS (Nat.le_of_ble_eq_true rfl) (fun f => (shM_a (G := G) (B := B) (a := 10) (f := f) (by decide))) rfl (by omega) (by decide) dX8_copy_130 (fun H_44 lo_45 hX hS => ?_)
                      obtain ⟨x_43, ex_43⟩ : ∃ z, z = mst u1 (10) h (u1 (3) (40 * (tn a) + (tn i) + h)) := ⟨_, rfl⟩
                      rw [← ex_43] at hX
                      refine lv_iinc (v := nI (h + 1)) (lv' := [(6, .int (nI (h + 1))), (0, .ref (B + (0))), (1, .int (a)), (2, .int (i)), (3, .int (b9)), (4, .int (j)), (5, .int (k))]) hx hb dX8_copy_131 hl (k := 0) rfl (inc_nI _) (by decide) rfl (fun ls hl => ?_)
                      refine lv_goto (tgt := 103) hx hb dX8_copy_134 (by decide) ?_
                      exact ih_103 _ (by omega) (h + 1) (x_43) rfl ⟨by omega, fun c c1 => by rw [ex_43, mst_ne c1]; exact ho c c1, fun c hc => by
          rw [ex_43, mst_eq]
          by_cases hi : c = h
          · rw [hi, upd_eq, ho 3 (by decide)]
          · rw [upd_ne hi]; exact hl9 c (by omega)⟩ _ _ hX hS ls (lv_sub hl [0, 1, 2, 3, 4, 5, 6] rfl)
                exact L_28 _ (0) (x) rfl ⟨Nat.zero_le _, fun c _ => rfl, fun c hc => absurd hc (Nat.not_lt_zero c)⟩ _ _ hX hS ls (lv_sub hl [0, 1, 2, 3, 4, 5, 6] rfl)
              · refine lv_aload_n hx hb dX8_copy_93 rfl (lv_at hl 0 rfl) ?_
                refine lv_iconst (v := 2) hx hb dX8_copy_94 (by decide) ?_
                refine lv_iconst (v := 0) hx hb dX8_copy_95 (by decide) ?_
                refine x_if (w := (wM G B)) (va_runV (As := [.int (2), .int (0)]) (rest := []) ⟨hx, hb, hml, hown, hts⟩ (c_X8_found (l := l) (G := G) (B := B) (hW := hW) (x := x) (nu := 2) (to := 0)) (cwV 2 hts gX8_copy_X8_found rfl rfl rfl (by decide +kernel) ⟨Nat.le_of_ble_eq_true rfl, Nat.le_of_ble_eq_true rfl⟩) (x_pv (w := (wM G B)) (a := 0) hW hX hK hE hS [.int (2), .int (0)] (Nat.le_of_ble_eq_true rfl) (shM_0 (G := G) (B := B)) rfl) rfl rfl hl.1 rfl (lv_room (Nat.le_of_ble_eq_true rfl)) dX8_copy_96 ⟨Nat.zero_le _, Nat.zero_le _⟩) hS (fun r_48 x_49 H_46 lo_47 h_96 hX hS => ?_)
                try dsimp only at h_96
                rw [← hQ]
                refine x_iret (v := r_48) hx hb hr hX hS hlocks dX8_copy_99 ?_
                show PT_X8_copy _ _ _ _ _ _ _ _
                unfold PT_X8_copy
                rw [if_neg (ne_of_true c_3), if_pos c_6, if_neg (ne_of_false c_9), if_pos c_16, if_pos c_17, if_neg (ne_of_true c_20), if_neg (ne_of_false c_27)]
                exact ⟨h_96.2.1 (by decide), h_96.2.2⟩
          · refine lv_aload_n hx hb dX8_copy_55 rfl (lv_at hl 0 rfl) ?_
            refine lv_iconst (v := 5) hx hb dX8_copy_56 (by decide) ?_
            refine lv_iconst (v := 0) hx hb dX8_copy_57 (by decide) ?_
            refine x_if (w := (wM G B)) (va_runV (As := [.int (5), .int (0)]) (rest := []) ⟨hx, hb, hml, hown, hts⟩ (c_X8_found (l := l) (G := G) (B := B) (hW := hW) (x := x) (nu := 5) (to := 0)) (cwV 2 hts gX8_copy_X8_found rfl rfl rfl (by decide +kernel) ⟨Nat.le_of_ble_eq_true rfl, Nat.le_of_ble_eq_true rfl⟩) (x_pv (w := (wM G B)) (a := 0) hW hX hK hE hS [.int (5), .int (0)] (Nat.le_of_ble_eq_true rfl) (shM_0 (G := G) (B := B)) rfl) rfl rfl hl.1 rfl (lv_room (Nat.le_of_ble_eq_true rfl)) dX8_copy_58 ⟨Nat.zero_le _, Nat.zero_le _⟩) hS (fun r_52 x_53 H_50 lo_51 h_58 hX hS => ?_)
            try dsimp only at h_58
            rw [← hQ]
            refine x_iret (v := r_52) hx hb hr hX hS hlocks dX8_copy_61 ?_
            show PT_X8_copy _ _ _ _ _ _ _ _
            unfold PT_X8_copy
            rw [if_neg (ne_of_true c_3), if_pos c_6, if_neg (ne_of_false c_9), if_pos c_16, if_neg c_17]
            exact ⟨h_58.2.1 (by decide), h_58.2.2⟩
        · refine lv_aload_n hx hb dX8_copy_33 rfl (lv_at hl 0 rfl) ?_
          refine lv_iconst (v := 1) hx hb dX8_copy_34 (by decide) ?_
          refine lv_iconst (v := 0) hx hb dX8_copy_35 (by decide) ?_
          refine x_if (w := (wM G B)) (va_runV (As := [.int (1), .int (0)]) (rest := []) ⟨hx, hb, hml, hown, hts⟩ (c_X8_found (l := l) (G := G) (B := B) (hW := hW) (x := x) (nu := 1) (to := 0)) (cwV 2 hts gX8_copy_X8_found rfl rfl rfl (by decide +kernel) ⟨Nat.le_of_ble_eq_true rfl, Nat.le_of_ble_eq_true rfl⟩) (x_pv (w := (wM G B)) (a := 0) hW hX hK hE hS [.int (1), .int (0)] (Nat.le_of_ble_eq_true rfl) (shM_0 (G := G) (B := B)) rfl) rfl rfl hl.1 rfl (lv_room (Nat.le_of_ble_eq_true rfl)) dX8_copy_36 ⟨Nat.zero_le _, Nat.zero_le _⟩) hS (fun r_56 x_57 H_54 lo_55 h_36 hX hS => ?_)
          try dsimp only at h_36
          rw [← hQ]
          refine x_iret (v := r_56) hx hb hr hX hS hlocks dX8_copy_39 ?_
          show PT_X8_copy _ _ _ _ _ _ _ _
          unfold PT_X8_copy
          rw [if_neg (ne_of_true c_3), if_pos c_6, if_neg (ne_of_false c_9), if_neg (ne_of_true c_16)]
          exact ⟨h_36.2.1 (by decide), h_36.2.2⟩
    · refine lv_ldc (v := (-1000001)) hx hb hown (hts _ kX8_copy_63) dX8_copy_14 ?_
      rw [← hQ]
      refine x_iret (v := (-1000001)) hx hb hr hX hS hlocks dX8_copy_16 ?_
      show PT_X8_copy _ _ _ _ _ _ _ _
      unfold PT_X8_copy
      rw [if_neg (ne_of_true c_3), if_neg (ne_of_false c_6)]
      exact ⟨rfl, rfl⟩
