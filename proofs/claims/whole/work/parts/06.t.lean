theorem kX0_turnsIn_27 : (.fieldLink RX0 27 "WindTaken$Mill" "furled" "Z" : Cond) ∈ wsX0_turnsIn := by decide +kernel
theorem iX0_turnsIn_X0 : ∀ w ∈ wsX00, w ∈ wsX0_turnsIn := by decide +kernel
theorem kX0_turnsIn_15 : (.fieldLink RX0 15 "WindTaken$Mill" "kind" "I" : Cond) ∈ wsX0_turnsIn := by decide +kernel
theorem kX0_turnsIn_24 : (.fieldLink RX0 24 "WindTaken$Mill" "facing" "I" : Cond) ∈ wsX0_turnsIn := by decide +kernel
abbrev rmX0_turnsIn : Room := { frames := 0, cells := 0, slots := 0, locals := 0 }
set_option maxHeartbeats 4000000 in
set_option maxRecDepth 100000 in
theorem c_X0_turnsIn (l : Launch) (G : GG) (B : Nat) (tt : Nat → Nat) (hW : WOK (wX G B tt)) (x : Mem) {ρ : Nat} (hρ : isRg ρ) {j : Nat} (hj : j < 8) (q : Int32) : Met l yX0_turnsIn wsX0_turnsIn rmX0_turnsIn (XP G (wX G B tt) [.ref (B + (ρ + 1 + 1 + j)), .int (q)] x) (va_Qi (fun r u => r = bI (!decide (x (ρ + 1 + 1 + j) 11 ≠ 0) && (decide (x (ρ + 1 + 1 + j) 1 ≠ 5) && (decide (x (ρ + 1 + 1 + j) 1 ≠ 1) || decide (x (ρ + 1 + 1 + j) 10 = q)))) ∧ u = x) (XB G (wX G B tt)) (blkA B (B + 77))) 0 0 (blkA B (B + 77)) := by
  refine Met.ofW (cc := cX0_turnsIn) (maxL := 2) (ret := (some .boolean)) (by decide) rfl ?_
  intro p e s m args below meth c s₁ Bd hml hv
  obtain ⟨hae, hX, hK, hE⟩ := hv
  have hx := Bd.exec
  have hb := Bd.bytes
  have hr := Bd.returns
  have hts := atoms_spec (ws := wsX0_turnsIn) Bd.pre
  have hown : s.vm.findClass RX0 = some m.cls := findClass_of_methodNamed Bd.named
  have hlocks := Bd.notSynchronized
  have hS : va_S (blkA B (B + 77)) s.heap s.heap [] := va_S.rf
  have hl := lv_entry ([.ref (B + (ρ + 1 + 1 + j)), .int (q)]) (n := 2) (Nat.le_of_ble_eq_true rfl)
  subst hae
  rw [lg_entry_eq]
  generalize (lg_sl ([.ref (B + (ρ + 1 + 1 + j)), .int (q)]) ++ List.replicate (2 - (lg_sl ([.ref (B + (ρ + 1 + 1 + j)), .int (q)])).length) Slot.unset).toArray = ls at hl ⊢
  have hl : lv_has ls 2 [(0, .ref (B + (ρ + 1 + 1 + j))), (1, .int (q))] := hl
  generalize ([.ref (B + (ρ + 1 + 1 + j)), .int (q)] : List Value).toArray = args at hts ⊢
  show W p l e rmX0_turnsIn s m args below meth c s.heap [] 0 0 _ (F0 m 0 ls [])
  generalize hQ : MQ below (va_Qi (fun r u => r = bI (!decide (x (ρ + 1 + 1 + j) 11 ≠ 0) && (decide (x (ρ + 1 + 1 + j) 1 ≠ 5) && (decide (x (ρ + 1 + 1 + j) 1 ≠ 1) || decide (x (ρ + 1 + 1 + j) 10 = q)))) ∧ u = x) (XB G (wX G B tt)) (blkA B (B + 77))) args s 0 0 (blkA B (B + 77)) = Q
  refine lv_aload_n hx hb dX0_turnsIn_0 rfl (lv_at hl 0 rfl) ?_
  refine x_get (w := (wX G B tt)) (a := ρ + 1 + 1 + j) (v := .int (bI (decide (x (ρ + 1 + 1 + j) 11 ≠ 0)))) hx hb hts iX0_turnsIn_X0 hown hK hX (rg_ltm hρ hj) (shX_mi hρ hj) rfl 11 (by decide) (hts _ kX0_turnsIn_27) (fun _ h9 => h9) rfl dX0_turnsIn_1 ?_
  have kJ_3 : ∀ (v_2 : Bool) (_ : v_2 = (if (decide (x (ρ + 1 + 1 + j) 11 ≠ 0)) = true then false else (if (x (ρ + 1 + 1 + j) 1) = 5 then false else (if (x (ρ + 1 + 1 + j) 1) = 1 then (if (x (ρ + 1 + 1 + j) 10) = q then true else false) else true)))) (H_4 : Heap) (lo_5 : List Loc) (_ : MR G (wX G B tt) x H_4) (_ : va_S (blkA B (B + 77)) s.heap H_4 lo_5) (ls : Array Slot) (_ : lv_has ls 2 [(0, .ref (B + (ρ + 1 + 1 + j))), (1, .int (q))]), W p l e rmX0_turnsIn s m args below meth c H_4 lo_5 0 0 Q (F0 m 36 ls [.int (bI (v_2))]) := by
    intro v_2 ev_2 H_4 lo_5 hX hS ls hl
    rw [← hQ]
    refine x_zret (v := bI (v_2)) (ty := .boolean) hx hb hr (bI_nar _) hX hS hlocks dX0_turnsIn_36 ?_
    refine ⟨?_, rfl⟩
    first | rfl | simp [bI, ev_2]
  refine x_ifne (tgt := 35) hx hb dX0_turnsIn_4 (by decide) (fun c_1 => ?_) (fun c_1 => ?_)
  · refine lv_iconst (v := 0) hx hb dX0_turnsIn_35 (by decide) ?_
    exact kJ_3 (false) (by rw [if_pos c_1]) _ _ hX hS ls (lv_sub hl [0, 1] rfl)
  · refine lv_aload_n hx hb dX0_turnsIn_7 rfl (lv_at hl 0 rfl) ?_
    refine x_get (w := (wX G B tt)) (a := ρ + 1 + 1 + j) (v := .int (x (ρ + 1 + 1 + j) 1)) hx hb hts iX0_turnsIn_X0 hown hK hX (rg_ltm hρ hj) (shX_mi hρ hj) rfl 1 (by decide) (hts _ kX0_turnsIn_15) (fun _ h9 => h9) rfl dX0_turnsIn_8 ?_
    refine lv_iconst (v := 5) hx hb dX0_turnsIn_11 (by decide) ?_
    refine lv_icmp_eq (tgt := 35) hx hb dX0_turnsIn_12 (by decide) (fun c_6 => ?_) (fun c_6 => ?_)
    · refine lv_iconst (v := 0) hx hb dX0_turnsIn_35 (by decide) ?_
      exact kJ_3 (false) (by rw [if_neg (ne_of_false c_1), if_pos c_6]) _ _ hX hS ls (lv_sub hl [0, 1] rfl)
    · refine lv_aload_n hx hb dX0_turnsIn_15 rfl (lv_at hl 0 rfl) ?_
      refine x_get (w := (wX G B tt)) (a := ρ + 1 + 1 + j) (v := .int (x (ρ + 1 + 1 + j) 1)) hx hb hts iX0_turnsIn_X0 hown hK hX (rg_ltm hρ hj) (shX_mi hρ hj) rfl 1 (by decide) (hts _ kX0_turnsIn_15) (fun _ h9 => h9) rfl dX0_turnsIn_16 ?_
      refine lv_iconst (v := 1) hx hb dX0_turnsIn_19 (by decide) ?_
      refine lv_icmp_ne (tgt := 31) hx hb dX0_turnsIn_20 (by decide) (fun c_7 => ?_) (fun c_7 => ?_)
      · refine lv_iconst (v := 1) hx hb dX0_turnsIn_31 (by decide) ?_
        refine lv_goto (tgt := 36) hx hb dX0_turnsIn_32 (by decide) ?_
        exact kJ_3 (true) (by rw [if_neg (ne_of_false c_1), if_neg c_6, if_neg c_7]) _ _ hX hS ls (lv_sub hl [0, 1] rfl)
      · refine lv_aload_n hx hb dX0_turnsIn_23 rfl (lv_at hl 0 rfl) ?_
        refine x_get (w := (wX G B tt)) (a := ρ + 1 + 1 + j) (v := .int (x (ρ + 1 + 1 + j) 10)) hx hb hts iX0_turnsIn_X0 hown hK hX (rg_ltm hρ hj) (shX_mi hρ hj) rfl 10 (by decide) (hts _ kX0_turnsIn_24) (fun _ h9 => h9) rfl dX0_turnsIn_24 ?_
        refine lv_iload_n hx hb dX0_turnsIn_27 rfl (lv_at hl 1 rfl) ?_
        refine lv_icmp_ne (tgt := 35) hx hb dX0_turnsIn_28 (by decide) (fun c_8 => ?_) (fun c_8 => ?_)
        · refine lv_iconst (v := 0) hx hb dX0_turnsIn_35 (by decide) ?_
          exact kJ_3 (false) (by rw [if_neg (ne_of_false c_1), if_neg c_6, if_pos c_7, if_neg c_8]) _ _ hX hS ls (lv_sub hl [0, 1] rfl)
        · refine lv_iconst (v := 1) hx hb dX0_turnsIn_31 (by decide) ?_
          refine lv_goto (tgt := 36) hx hb dX0_turnsIn_32 (by decide) ?_
          exact kJ_3 (true) (by rw [if_neg (ne_of_false c_1), if_neg c_6, if_pos c_7, if_pos c_8]) _ _ hX hS ls (lv_sub hl [0, 1] rfl)

theorem kX4_isMissing_15 : (.fieldLink RX4 15 "WindTaken$Row" "size" "I" : Cond) ∈ wsX4_isMissing := by decide +kernel
theorem iX4_isMissing_X4 : ∀ w ∈ wsX40, w ∈ wsX4_isMissing := by decide +kernel
abbrev rmX4_isMissing : Room := { frames := 0, cells := 0, slots := 0, locals := 0 }
set_option maxHeartbeats 4000000 in
set_option maxRecDepth 100000 in
theorem c_X4_isMissing (l : Launch) (G : GG) (B : Nat) (tt : Nat → Nat) (hW : WOK (wX G B tt)) (x : Mem) {ro : Nat} (hro : ro < 8) : Met l yX4_isMissing wsX4_isMissing rmX4_isMissing (XP G (wX G B tt) [.ref (B + (29 + 2 * ro))] x) (va_Qi (fun r u => r = bI (decide (x (29 + 2 * ro) 2 = -1)) ∧ u = x) (XB G (wX G B tt)) (blkA B (B + 77))) 0 0 (blkA B (B + 77)) := by
  refine Met.ofW (cc := cX4_isMissing) (maxL := 1) (ret := (some .boolean)) (by decide) rfl ?_
  intro p e s m args below meth c s₁ Bd hml hv
  obtain ⟨hae, hX, hK, hE⟩ := hv
  have hx := Bd.exec
  have hb := Bd.bytes
  have hr := Bd.returns
  have hts := atoms_spec (ws := wsX4_isMissing) Bd.pre
  have hown : s.vm.findClass RX4 = some m.cls := findClass_of_methodNamed Bd.named
  have hlocks := Bd.notSynchronized
  have hS : va_S (blkA B (B + 77)) s.heap s.heap [] := va_S.rf
  have hl := lv_entry ([.ref (B + (29 + 2 * ro))]) (n := 1) (Nat.le_of_ble_eq_true rfl)
  subst hae
  rw [lg_entry_eq]
  generalize (lg_sl ([.ref (B + (29 + 2 * ro))]) ++ List.replicate (1 - (lg_sl ([.ref (B + (29 + 2 * ro))])).length) Slot.unset).toArray = ls at hl ⊢
  have hl : lv_has ls 1 [(0, .ref (B + (29 + 2 * ro)))] := hl
  generalize ([.ref (B + (29 + 2 * ro))] : List Value).toArray = args at hts ⊢
  show W p l e rmX4_isMissing s m args below meth c s.heap [] 0 0 _ (F0 m 0 ls [])
  generalize hQ : MQ below (va_Qi (fun r u => r = bI (decide (x (29 + 2 * ro) 2 = -1)) ∧ u = x) (XB G (wX G B tt)) (blkA B (B + 77))) args s 0 0 (blkA B (B + 77)) = Q
  refine lv_aload_n hx hb dX4_isMissing_0 rfl (lv_at hl 0 rfl) ?_
  refine x_get (w := (wX G B tt)) (a := 29 + 2 * ro) (v := .int (x (29 + 2 * ro) 2)) hx hb hts iX4_isMissing_X4 hown hK hX (rw_lt hro) (shX_rw hro) rfl 2 (by decide) (hts _ kX4_isMissing_15) (fun _ h9 => h9) rfl dX4_isMissing_1 ?_
  refine lv_iconst (v := (-1)) hx hb dX4_isMissing_4 (by decide) ?_
  have kJ_3 : ∀ (v_2 : Bool) (_ : v_2 = (if (x (29 + 2 * ro) 2) = ((-1)) then true else false)) (H_4 : Heap) (lo_5 : List Loc) (_ : MR G (wX G B tt) x H_4) (_ : va_S (blkA B (B + 77)) s.heap H_4 lo_5) (ls : Array Slot) (_ : lv_has ls 1 [(0, .ref (B + (29 + 2 * ro)))]), W p l e rmX4_isMissing s m args below meth c H_4 lo_5 0 0 Q (F0 m 13 ls [.int (bI (v_2))]) := by
    intro v_2 ev_2 H_4 lo_5 hX hS ls hl
    rw [← hQ]
    refine x_zret (v := bI (v_2)) (ty := .boolean) hx hb hr (bI_nar _) hX hS hlocks dX4_isMissing_13 ?_
    refine ⟨?_, rfl⟩
    first | rfl | simp [bI, ev_2]
  refine lv_icmp_ne (tgt := 12) hx hb dX4_isMissing_5 (by decide) (fun c_1 => ?_) (fun c_1 => ?_)
  · refine lv_iconst (v := 0) hx hb dX4_isMissing_12 (by decide) ?_
    exact kJ_3 (false) (by rw [if_neg c_1]) _ _ hX hS ls (lv_sub hl [0] rfl)
  · refine lv_iconst (v := 1) hx hb dX4_isMissing_8 (by decide) ?_
    refine lv_goto (tgt := 13) hx hb dX4_isMissing_9 (by decide) ?_
    exact kJ_3 (true) (by rw [if_pos c_1]) _ _ hX hS ls (lv_sub hl [0] rfl)

theorem kX4_covers_15 : (.fieldLink RX4 15 "WindTaken$Row" "size" "I" : Cond) ∈ wsX4_covers := by decide +kernel
theorem iX4_covers_X4 : ∀ w ∈ wsX40, w ∈ wsX4_covers := by decide +kernel
abbrev rmX4_covers : Room := { frames := 0, cells := 0, slots := 0, locals := 0 }
set_option maxHeartbeats 4000000 in
set_option maxRecDepth 100000 in
theorem c_X4_covers (l : Launch) (G : GG) (B : Nat) (tt : Nat → Nat) (hW : WOK (wX G B tt)) (x : Mem) {ro : Nat} (hro : ro < 8) (i : Int32) (n : Int32) : Met l yX4_covers wsX4_covers rmX4_covers (XP G (wX G B tt) [.ref (B + (29 + 2 * ro)), .int (i), .int (n)] x) (va_Qi (fun r u => r = bI (decide (0 ≤ i) && (decide (0 ≤ n) && decide (n ≤ x (29 + 2 * ro) 2 - i))) ∧ u = x) (XB G (wX G B tt)) (blkA B (B + 77))) 0 0 (blkA B (B + 77)) := by
  refine Met.ofW (cc := cX4_covers) (maxL := 3) (ret := (some .boolean)) (by decide) rfl ?_
  intro p e s m args below meth c s₁ Bd hml hv
  obtain ⟨hae, hX, hK, hE⟩ := hv
  have hx := Bd.exec
  have hb := Bd.bytes
  have hr := Bd.returns
  have hts := atoms_spec (ws := wsX4_covers) Bd.pre
  have hown : s.vm.findClass RX4 = some m.cls := findClass_of_methodNamed Bd.named
  have hlocks := Bd.notSynchronized
  have hS : va_S (blkA B (B + 77)) s.heap s.heap [] := va_S.rf
  have hl := lv_entry ([.ref (B + (29 + 2 * ro)), .int (i), .int (n)]) (n := 3) (Nat.le_of_ble_eq_true rfl)
  subst hae
  rw [lg_entry_eq]
  generalize (lg_sl ([.ref (B + (29 + 2 * ro)), .int (i), .int (n)]) ++ List.replicate (3 - (lg_sl ([.ref (B + (29 + 2 * ro)), .int (i), .int (n)])).length) Slot.unset).toArray = ls at hl ⊢
  have hl : lv_has ls 3 [(0, .ref (B + (29 + 2 * ro))), (1, .int (i)), (2, .int (n))] := hl
  generalize ([.ref (B + (29 + 2 * ro)), .int (i), .int (n)] : List Value).toArray = args at hts ⊢
  show W p l e rmX4_covers s m args below meth c s.heap [] 0 0 _ (F0 m 0 ls [])
  generalize hQ : MQ below (va_Qi (fun r u => r = bI (decide (0 ≤ i) && (decide (0 ≤ n) && decide (n ≤ x (29 + 2 * ro) 2 - i))) ∧ u = x) (XB G (wX G B tt)) (blkA B (B + 77))) args s 0 0 (blkA B (B + 77)) = Q
  refine lv_iload_n hx hb dX4_covers_0 rfl (lv_at hl 1 rfl) ?_
  have kJ_3 : ∀ (v_2 : Bool) (_ : v_2 = (if i < 0 then false else (if n < 0 then false else (if ((x (29 + 2 * ro) 2) - i) < n then false else true)))) (H_4 : Heap) (lo_5 : List Loc) (_ : MR G (wX G B tt) x H_4) (_ : va_S (blkA B (B + 77)) s.heap H_4 lo_5) (ls : Array Slot) (_ : lv_has ls 3 [(0, .ref (B + (29 + 2 * ro))), (1, .int (i)), (2, .int (n))]), W p l e rmX4_covers s m args below meth c H_4 lo_5 0 0 Q (F0 m 23 ls [.int (bI (v_2))]) := by
    intro v_2 ev_2 H_4 lo_5 hX hS ls hl
    rw [← hQ]
    refine x_zret (v := bI (v_2)) (ty := .boolean) hx hb hr (bI_nar _) hX hS hlocks dX4_covers_23 ?_
    refine ⟨?_, rfl⟩
    first | rfl | simp [bI, ev_2]
  refine lv_if_lt (tgt := 22) hx hb dX4_covers_1 (by decide) (fun c_1 => ?_) (fun c_1 => ?_)
  · refine lv_iconst (v := 0) hx hb dX4_covers_22 (by decide) ?_
    exact kJ_3 (false) (by rw [if_pos c_1]) _ _ hX hS ls (lv_sub hl [0, 1, 2] rfl)
  · refine lv_iload_n hx hb dX4_covers_4 rfl (lv_at hl 2 rfl) ?_
    refine lv_if_lt (tgt := 22) hx hb dX4_covers_5 (by decide) (fun c_6 => ?_) (fun c_6 => ?_)
    · refine lv_iconst (v := 0) hx hb dX4_covers_22 (by decide) ?_
      exact kJ_3 (false) (by rw [if_neg c_1, if_pos c_6]) _ _ hX hS ls (lv_sub hl [0, 1, 2] rfl)
    · refine lv_iload_n hx hb dX4_covers_8 rfl (lv_at hl 2 rfl) ?_
      refine lv_aload_n hx hb dX4_covers_9 rfl (lv_at hl 0 rfl) ?_
      refine x_get (w := (wX G B tt)) (a := 29 + 2 * ro) (v := .int (x (29 + 2 * ro) 2)) hx hb hts iX4_covers_X4 hown hK hX (rw_lt hro) (shX_rw hro) rfl 2 (by decide) (hts _ kX4_covers_15) (fun _ h9 => h9) rfl dX4_covers_10 ?_
      refine lv_iload_n hx hb dX4_covers_13 rfl (lv_at hl 1 rfl) ?_
      refine lv_isub hx hb dX4_covers_14 ?_
      refine lv_icmp_gt (tgt := 22) hx hb dX4_covers_15 (by decide) (fun c_7 => ?_) (fun c_7 => ?_)
      · refine lv_iconst (v := 0) hx hb dX4_covers_22 (by decide) ?_
        exact kJ_3 (false) (by rw [if_neg c_1, if_neg c_6, if_pos c_7]) _ _ hX hS ls (lv_sub hl [0, 1, 2] rfl)
      · refine lv_iconst (v := 1) hx hb dX4_covers_18 (by decide) ?_
        refine lv_goto (tgt := 23) hx hb dX4_covers_19 (by decide) ?_
        exact kJ_3 (true) (by rw [if_neg c_1, if_neg c_6, if_neg c_7]) _ _ hX hS ls (lv_sub hl [0, 1, 2] rfl)
