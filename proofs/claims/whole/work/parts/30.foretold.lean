theorem kX7_rowsThere_11 : (.fieldLink RX7 11 "WindTaken" "rows" "[LWindTaken$Row;" : Cond) ∈ wsX7_rowsThere := by decide +kernel
theorem iX7_rowsThere_X7 : ∀ w ∈ wsX70, w ∈ wsX7_rowsThere := by decide +kernel
abbrev rmX7_rowsThere : Room := { frames := 1, cells := 0, slots := 0, locals := 20 }
set_option maxHeartbeats 4000000 in
set_option maxRecDepth 100000 in
theorem c_X7_rowsThere (l : Launch) (G : GG) (B : Nat) (tt : Nat → Nat) (hW : WOK (wX G B tt)) (x : Mem)  : Met l yX7_rowsThere wsX7_rowsThere rmX7_rowsThere (XP G (wX G B tt) [.ref (B + (0))] x) (va_Qi (fun r u => r = (nI (cntN (fun j => !decide (x (29 + 2 * j) 2 = -1)) 8)) ∧ u = x) (XB G (wX G B tt)) (blkA B (B + 117))) 0 0 (blkA B (B + 117)) := by
  refine Met.ofW (cc := cX7_rowsThere) (maxL := 3) (ret := (some .int)) (by decide) rfl ?_
  intro pp ee ss mm aa bb mt cd s1 Bd hml hv
  obtain ⟨hae, hX, hK, hE⟩ := hv
  have hx := Bd.exec
  have hb := Bd.bytes
  have hr := Bd.returns
  have hts := atoms_spec (ws := wsX7_rowsThere) Bd.pre
  have hown : ss.vm.findClass RX7 = some mm.cls := findClass_of_methodNamed Bd.named
  have hlocks := Bd.notSynchronized
  have hS : va_S (blkA B (B + 117)) ss.heap ss.heap [] := va_S.rf
  have hl := lv_entry ([.ref (B + (0))]) (n := 3) (Nat.le_of_ble_eq_true rfl)
  subst hae
  rw [lg_entry_eq]
  generalize (lg_sl ([.ref (B + (0))]) ++ List.replicate (3 - (lg_sl ([.ref (B + (0))])).length) Slot.unset).toArray = ls at hl ⊢
  have hl : lv_has ls 3 [(0, .ref (B + (0)))] := hl
  generalize ([.ref (B + (0))] : List Value).toArray = aa at hts ⊢
  show W pp l ee rmX7_rowsThere ss mm aa bb mt cd ss.heap [] 0 0 _ (F0 mm 0 ls [])
  generalize hQ : MQ bb (va_Qi (fun r u => r = (nI (cntN (fun j => !decide (x (29 + 2 * j) 2 = -1)) 8)) ∧ u = x) (XB G (wX G B tt)) (blkA B (B + 117))) aa ss 0 0 (blkA B (B + 117)) = Q
  refine lv_iconst (v := 0) hx hb dX7_rowsThere_0 (by decide) ?_
  refine lv_istore_n (lv' := [(1, .int (0)), (0, .ref (B + (0)))]) hx hb dX7_rowsThere_1 rfl hl (by decide) rfl (fun ls hl => ?_)
  refine lv_iconst (v := 0) hx hb dX7_rowsThere_2 (by decide) ?_
  refine lv_istore_n (lv' := [(2, .int (0)), (1, .int (0)), (0, .ref (B + (0)))]) hx hb dX7_rowsThere_3 rfl hl (by decide) rfl (fun ls hl => ?_)
  have L_1 : ∀ (n9 : Nat) (i : Nat) (sm : Int32)  (_ : n9 = 8 - i) (_ : i ≤ 8 ∧ sm = nI (cntN (fun j => !decide (x (29 + 2 * j) 2 = -1)) i)) (H_2 : Heap) (lo_3 : List Loc) (_ : MR G (wX G B tt) x H_2) (_ : va_S (blkA B (B + 117)) ss.heap H_2 lo_3) (ls : Array Slot) (_ : lv_has ls 3 [(2, .int (nI i)), (1, .int (sm)), (0, .ref (B + (0)))]), W pp l ee rmX7_rowsThere ss mm aa bb mt cd H_2 lo_3 0 0 Q (F0 mm 4 ls []) := by
    intro n9
    induction n9 using Nat.strongRecOn with
    | _ n9 ih => 
      have ih_4 := ih
      intro i sm hn9 hI H_2 lo_3 hX hS ls hl
      obtain ⟨hi, hsm⟩ := hI
      refine lv_iload_n hx hb dX7_rowsThere_4 rfl (lv_at hl 0 rfl) ?_
      refine lv_bipush (v := 8) hx hb dX7_rowsThere_5 (by decide) ?_
      refine lv_icmp_ge (tgt := 39) hx hb dX7_rowsThere_7 (by decide) (fun c_4 => ?_) (fun c_4 => ?_)
      · have nc_4 := (n_le (a := 8) (b := i) rfl rfl (by omega) (by omega)).mp c_4
        refine lv_iload_n hx hb dX7_rowsThere_39 rfl (lv_at hl 1 rfl) ?_
        rw [← hQ]
        refine x_iret (v := sm) hx hb hr hX hS hlocks dX7_rowsThere_40 ?_
        have e9 : i = 8 := by omega
        exact ⟨by rw [hsm, e9], rfl⟩
      · have nc_4 := Nat.not_le.mp (fun q => c_4 ((n_le (a := 8) (b := i) rfl rfl (by omega) (by omega)).mpr q))
        refine lv_iload_n hx hb dX7_rowsThere_10 rfl (lv_at hl 1 rfl) ?_
        refine lv_aload_n hx hb dX7_rowsThere_11 rfl (lv_at hl 2 rfl) ?_
        refine x_get (w := (wX G B tt)) (a := 0) (v := .ref (B + (1))) hx hb hts iX7_rowsThere_X7 hown hK hX (Nat.le_of_ble_eq_true rfl) (shX_mn (G := G) (B := B)) rfl 0 (by decide) (hts _ kX7_rowsThere_11) (fun _ h9 => h9) rfl dX7_rowsThere_12 ?_
        refine lv_iload_n hx hb dX7_rowsThere_15 rfl (lv_at hl 0 rfl) ?_
        refine x_aald (w := (wX G B tt)) (a := 1) (n := 8) (j := i) (q := B + (29 + 2 * i)) (t0 := 5) hx hb hK hX (Nat.le_of_ble_eq_true rfl) (shX_ra (G := G) (B := B) (f := x (1))) rfl rfl (by omega) (by decide) rfl dX7_rowsThere_16 ?_
        refine x_ip (w := (wX G B tt)) (x := x) (v := bI (decide (x (29 + 2 * i) 2 = -1))) (va_runV (As := []) (rest := [.int (sm)]) ⟨hx, hb, hml, hown, hts⟩ (c_X4_isMissing (l := l) (G := G) (B := B) (tt := tt) (hW := hW) (x := x) (ro := i) (hro := (by omega))) (cwV 0 hts gX7_rowsThere_X4_isMissing rfl rfl rfl (by decide +kernel) ⟨Nat.le_of_ble_eq_true rfl, Nat.le_of_ble_eq_true rfl⟩) (x_pv (w := (wX G B tt)) (a := 29 + 2 * i) hW hX hK hE hS [] (rw_lt (by omega)) (shX_rw (G := G) (B := B) (by omega)) rfl) rfl rfl hl.1 rfl (lv_room (Nat.le_of_ble_eq_true rfl)) dX7_rowsThere_17 ⟨Nat.zero_le _, Nat.zero_le _⟩) hS (fun H_5 lo_6 hX hS => ?_)
        have kJ_9 : ∀ (v_8 : Bool) (_ : v_8 = (if (decide (x (29 + 2 * i) 2 = -1)) = true then false else true)) (H_10 : Heap) (lo_11 : List Loc) (_ : MR G (wX G B tt) x H_10) (_ : va_S (blkA B (B + 117)) ss.heap H_10 lo_11) (ls : Array Slot) (_ : lv_has ls 3 [(2, .int (nI i)), (1, .int (sm)), (0, .ref (B + (0)))]), W pp l ee rmX7_rowsThere ss mm aa bb mt cd H_10 lo_11 0 0 Q (F0 mm 28 ls [.int (bI (v_8)), .int (sm)]) := by
          intro v_8 ev_8 H_10 lo_11 hX hS ls hl
          refine x_ip (w := (wX G B tt)) (x := x) (v := bI v_8) (va_runS (As := [.int (bI (v_8))]) (rest := [.int (sm)]) ⟨hx, hb, hml, hown, hts⟩ (c_X7_bit (l := l) (G := G) (B := B) (tt := tt) (hW := hW) (x := x) (b := v_8)) (va_cwS 1 hts gX7_rowsThere_X7_bit rfl rfl rfl (by decide +kernel) ⟨Nat.le_of_ble_eq_true rfl, Nat.le_of_ble_eq_true rfl⟩) (x_ps (w := (wX G B tt)) hW hX hK hE hS [.int (bI (v_8))]) rfl rfl hl.1 rfl (lv_room (Nat.le_of_ble_eq_true rfl)) dX7_rowsThere_28 ⟨Nat.zero_le _, Nat.zero_le _⟩) hS (fun H_12 lo_13 hX hS => ?_)
          refine lv_iadd hx hb dX7_rowsThere_31 ?_
          refine lv_istore_n (lv' := [(1, .int (sm + (bI v_8))), (2, .int (nI i)), (0, .ref (B + (0)))]) hx hb dX7_rowsThere_32 rfl hl (by decide) rfl (fun ls hl => ?_)
          refine lv_iinc (v := nI (i + 1)) (lv' := [(2, .int (nI (i + 1))), (1, .int (sm + (bI v_8))), (0, .ref (B + (0)))]) hx hb dX7_rowsThere_33 hl (k := 1) rfl (inc_nI _) (by decide) rfl (fun ls hl => ?_)
          refine lv_goto (tgt := 4) hx hb dX7_rowsThere_36 (by decide) ?_
          exact ih_4 _ (by omega) (i + 1) (sm + (bI v_8)) rfl ⟨by omega, by rw [hsm, ev_8, cntN]; cases decide (x (29 + 2 * i) 2 = -1) <;> first | exact n_add (y := 1) (b := 1) rfl rfl | exact Int32.add_zero _⟩ _ _ hX hS ls (lv_sub hl [0, 1, 2] rfl)
        refine x_ifne (tgt := 27) hx hb dX7_rowsThere_20 (by decide) (fun c_7 => ?_) (fun c_7 => ?_)
        · refine lv_iconst (v := 0) hx hb dX7_rowsThere_27 (by decide) ?_
          exact kJ_9 (false) (by rw [if_pos c_7]) _ _ hX hS ls (lv_sub hl [0, 1, 2] rfl)
        · refine lv_iconst (v := 1) hx hb dX7_rowsThere_23 (by decide) ?_
          refine lv_goto (tgt := 28) hx hb dX7_rowsThere_24 (by decide) ?_
          exact kJ_9 (true) (by rw [if_neg (ne_of_false c_7)]) _ _ hX hS ls (lv_sub hl [0, 1, 2] rfl)
  exact L_1 _ (0) (0) rfl ⟨Nat.zero_le _, rfl⟩ _ _ hX hS ls (lv_sub hl [0, 1, 2] rfl)

def PT_X7_count (x : Mem) (w : Int32) (n : Nat) (nw : Nat → Int32) (r : Int32) (u : Mem) : Prop := (if w = 0 then (r = nI (cntN (fun j => !decide (x (29 + 2 * j) 2 = -1)) 8) ∧ u = x) else (if w = 1 then (r = x (5) 1 ∧ u = x) else (if w = 2 then (r = x (5) 2 ∧ u = x) else (if w = 3 then (r = sumN (fun j => sF nw j 4) n ∧ u = x) else (if w = 4 then (r = bcI (nI (maskN (fun j => decide (x (5 + 1 + 1 + j) 11 ≠ 0)) n)) ∧ u = x) else (if w = 5 then (r = x (3) 1 ∧ u = x) else (r = (-1000001) ∧ u = x)))))))
theorem kX7_count_25 : (.fieldLink RX7 25 "WindTaken" "ridge" "LWindTaken$Ridge;" : Cond) ∈ wsX7_count := by decide +kernel
theorem iX7_count_X7 : ∀ w ∈ wsX70, w ∈ wsX7_count := by decide +kernel
theorem kX7_count_129 : (.fieldLink RX7 129 "WindTaken$Ridge" "count" "I" : Cond) ∈ wsX7_count := by decide +kernel
theorem iX7_count_X3 : ∀ w ∈ wsX30, w ∈ wsX7_count := by decide +kernel
theorem kX7_count_287 : (.fieldLink RX7 287 "WindTaken$Ridge" "gone" "I" : Cond) ∈ wsX7_count := by decide +kernel
theorem kX7_count_18 : (.fieldLink RX7 18 "WindTaken" "reader" "LWindTaken$Reader;" : Cond) ∈ wsX7_count := by decide +kernel
theorem kX7_count_100 : (.fieldLink RX7 100 "WindTaken$Reader" "tape" "LWindTaken$Tape;" : Cond) ∈ wsX7_count := by decide +kernel
theorem iX7_count_X2 : ∀ w ∈ wsX20, w ∈ wsX7_count := by decide +kernel
theorem kX7_count_104 : (.fieldLink RX7 104 "WindTaken$Tape" "length" "I" : Cond) ∈ wsX7_count := by decide +kernel
theorem iX7_count_X5 : ∀ w ∈ wsX50, w ∈ wsX7_count := by decide +kernel
theorem kX7_count_59 : (.constant RX7 59 (-1000001) : Cond) ∈ wsX7_count := by decide +kernel
abbrev rmX7_count : Room := { frames := 2, cells := 0, slots := 0, locals := 42 }
set_option maxHeartbeats 4000000 in
set_option maxRecDepth 100000 in
theorem c_X7_count (l : Launch) (G : GG) (B : Nat) (tt : Nat → Nat) (hW : WOK (wX G B tt)) (x : Mem) (w : Int32) {n : Nat} {nw : Nat → Int32} (hR : RR n x 5 nw) : Met l yX7_count wsX7_count rmX7_count (XP G (wX G B tt) [.ref (B + (0)), .int (w)] x) (va_Qi (fun r u => PT_X7_count x w n nw r u) (XB G (wX G B tt)) (blkA B (B + 117))) 0 0 (blkA B (B + 117)) := by
  refine Met.ofW (cc := cX7_count) (maxL := 2) (ret := (some .int)) (by decide) rfl ?_
  intro pp ee ss mm aa bb mt cd s1 Bd hml hv
  obtain ⟨hae, hX, hK, hE⟩ := hv
  have hx := Bd.exec
  have hb := Bd.bytes
  have hr := Bd.returns
  have hts := atoms_spec (ws := wsX7_count) Bd.pre
  have hown : ss.vm.findClass RX7 = some mm.cls := findClass_of_methodNamed Bd.named
  have hlocks := Bd.notSynchronized
  have hS : va_S (blkA B (B + 117)) ss.heap ss.heap [] := va_S.rf
  have hl := lv_entry ([.ref (B + (0)), .int (w)]) (n := 2) (Nat.le_of_ble_eq_true rfl)
  subst hae
  rw [lg_entry_eq]
  generalize (lg_sl ([.ref (B + (0)), .int (w)]) ++ List.replicate (2 - (lg_sl ([.ref (B + (0)), .int (w)])).length) Slot.unset).toArray = ls at hl ⊢
  have hl : lv_has ls 2 [(0, .ref (B + (0))), (1, .int (w))] := hl
  generalize ([.ref (B + (0)), .int (w)] : List Value).toArray = aa at hts ⊢
  show W pp l ee rmX7_count ss mm aa bb mt cd ss.heap [] 0 0 _ (F0 mm 0 ls [])
  generalize hQ : MQ bb (va_Qi (fun r u => PT_X7_count x w n nw r u) (XB G (wX G B tt)) (blkA B (B + 117))) aa ss 0 0 (blkA B (B + 117)) = Q
  have hn8 := hR.1
  refine lv_iload_n hx hb dX7_count_0 rfl (lv_at hl 1 rfl) ?_
  by_cases c_2 : w = 0
  · subst c_2
    refine lv_tableIn (tgt := 40) (off := 39) hx hb dX7_count_1 (by decide) (by decide) rfl (by decide) ?_
    refine lv_aload_n hx hb dX7_count_40 rfl (lv_at hl 0 rfl) ?_
    refine x_ip (w := (wX G B tt)) (x := x) (v := nI (cntN (fun j => !decide (x (29 + 2 * j) 2 = -1)) 8)) (va_runV (As := []) (rest := []) ⟨hx, hb, hml, hown, hts⟩ (c_X7_rowsThere (l := l) (G := G) (B := B) (tt := tt) (hW := hW) (x := x) ) (cwV 0 hts gX7_count_X7_rowsThere rfl rfl rfl (by decide +kernel) ⟨Nat.le_of_ble_eq_true rfl, Nat.le_of_ble_eq_true rfl⟩) (x_pv (w := (wX G B tt)) (a := 0) hW hX hK hE hS [] (Nat.le_of_ble_eq_true rfl) (shX_mn (G := G) (B := B)) rfl) rfl rfl hl.1 rfl (lv_room (Nat.le_of_ble_eq_true rfl)) dX7_count_41 ⟨Nat.zero_le _, Nat.zero_le _⟩) hS (fun H_3 lo_4 hX hS => ?_)
    rw [← hQ]
    refine x_iret (v := nI (cntN (fun j => !decide (x (29 + 2 * j) 2 = -1)) 8)) hx hb hr hX hS hlocks dX7_count_44 ?_
    show PT_X7_count _ _ _ _ _ _
    unfold PT_X7_count
    rw [if_pos rfl]
    exact ⟨rfl, rfl⟩
  by_cases c_5 : w = 1
  · subst c_5
    refine lv_tableIn (tgt := 45) (off := 44) hx hb dX7_count_1 (by decide) (by decide) rfl (by decide) ?_
    refine lv_aload_n hx hb dX7_count_45 rfl (lv_at hl 0 rfl) ?_
    refine x_get (w := (wX G B tt)) (a := 0) (v := .ref (B + (5))) hx hb hts iX7_count_X7 hown hK hX (Nat.le_of_ble_eq_true rfl) (shX_mn (G := G) (B := B)) rfl 2 (by decide) (hts _ kX7_count_25) (fun _ h9 => h9) rfl dX7_count_46 ?_
    refine x_get (w := (wX G B tt)) (a := 5) (v := .int (x (5) 1)) hx hb hts iX7_count_X3 hown hK hX (rg_lt rg5) (shX_ri (G := G) (B := B) rg5) rfl 1 (by decide) (hts _ kX7_count_129) (fun _ h9 => h9) rfl dX7_count_49 ?_
    rw [← hQ]
    refine x_iret (v := x (5) 1) hx hb hr hX hS hlocks dX7_count_52 ?_
    show PT_X7_count _ _ _ _ _ _
    unfold PT_X7_count
    rw [if_neg (by decide), if_pos rfl]
    exact ⟨rfl, rfl⟩
  by_cases c_6 : w = 2
  · subst c_6
    refine lv_tableIn (tgt := 53) (off := 52) hx hb dX7_count_1 (by decide) (by decide) rfl (by decide) ?_
    refine lv_aload_n hx hb dX7_count_53 rfl (lv_at hl 0 rfl) ?_
    refine x_get (w := (wX G B tt)) (a := 0) (v := .ref (B + (5))) hx hb hts iX7_count_X7 hown hK hX (Nat.le_of_ble_eq_true rfl) (shX_mn (G := G) (B := B)) rfl 2 (by decide) (hts _ kX7_count_25) (fun _ h9 => h9) rfl dX7_count_54 ?_
    refine x_get (w := (wX G B tt)) (a := 5) (v := .int (x (5) 2)) hx hb hts iX7_count_X3 hown hK hX (rg_lt rg5) (shX_ri (G := G) (B := B) rg5) rfl 2 (by decide) (hts _ kX7_count_287) (fun _ h9 => h9) rfl dX7_count_57 ?_
    rw [← hQ]
    refine x_iret (v := x (5) 2) hx hb hr hX hS hlocks dX7_count_60 ?_
    show PT_X7_count _ _ _ _ _ _
    unfold PT_X7_count
    rw [if_neg (by decide), if_neg (by decide), if_pos rfl]
    exact ⟨rfl, rfl⟩
  by_cases c_7 : w = 3
  · subst c_7
    refine lv_tableIn (tgt := 61) (off := 60) hx hb dX7_count_1 (by decide) (by decide) rfl (by decide) ?_
    refine lv_aload_n hx hb dX7_count_61 rfl (lv_at hl 0 rfl) ?_
    refine x_get (w := (wX G B tt)) (a := 0) (v := .ref (B + (5))) hx hb hts iX7_count_X7 hown hK hX (Nat.le_of_ble_eq_true rfl) (shX_mn (G := G) (B := B)) rfl 2 (by decide) (hts _ kX7_count_25) (fun _ h9 => h9) rfl dX7_count_62 ?_
    refine x_ip (w := (wX G B tt)) (x := x) (v := sumN (fun j => sF nw j 4) n) (va_runV (As := []) (rest := []) ⟨hx, hb, hml, hown, hts⟩ (c_X3_flourInAll (l := l) (G := G) (B := B) (tt := tt) (hW := hW) (x := x) (n := n) (nw := nw) (hR := hR)) (cwV 0 hts gX7_count_X3_flourInAll rfl rfl rfl (by decide +kernel) ⟨Nat.le_of_ble_eq_true rfl, Nat.le_of_ble_eq_true rfl⟩) (x_pv (w := (wX G B tt)) (a := 5) hW hX hK hE hS [] (rg_lt rg5) (shX_ri (G := G) (B := B) rg5) rfl) rfl rfl hl.1 rfl (lv_room (Nat.le_of_ble_eq_true rfl)) dX7_count_65 ⟨Nat.zero_le _, Nat.zero_le _⟩) hS (fun H_8 lo_9 hX hS => ?_)
    rw [← hQ]
    refine x_iret (v := sumN (fun j => sF nw j 4) n) hx hb hr hX hS hlocks dX7_count_68 ?_
    show PT_X7_count _ _ _ _ _ _
    unfold PT_X7_count
    rw [if_neg (by decide), if_neg (by decide), if_neg (by decide), if_pos rfl]
    exact ⟨rfl, rfl⟩
  by_cases c_10 : w = 4
  · subst c_10
    refine lv_tableIn (tgt := 69) (off := 68) hx hb dX7_count_1 (by decide) (by decide) rfl (by decide) ?_
    refine lv_aload_n hx hb dX7_count_69 rfl (lv_at hl 0 rfl) ?_
    refine x_get (w := (wX G B tt)) (a := 0) (v := .ref (B + (5))) hx hb hts iX7_count_X7 hown hK hX (Nat.le_of_ble_eq_true rfl) (shX_mn (G := G) (B := B)) rfl 2 (by decide) (hts _ kX7_count_25) (fun _ h9 => h9) rfl dX7_count_70 ?_
    refine x_ip (w := (wX G B tt)) (x := x) (v := nI (maskN (fun j => decide (x (5 + 1 + 1 + j) 11 ≠ 0)) n)) (va_runV (As := []) (rest := []) ⟨hx, hb, hml, hown, hts⟩ (c_X3_furledSet (l := l) (G := G) (B := B) (tt := tt) (hW := hW) (x := x) (n := n) (nw := nw) (hR := hR)) (cwV 0 hts gX7_count_X3_furledSet rfl rfl rfl (by decide +kernel) ⟨Nat.le_of_ble_eq_true rfl, Nat.le_of_ble_eq_true rfl⟩) (x_pv (w := (wX G B tt)) (a := 5) hW hX hK hE hS [] (rg_lt rg5) (shX_ri (G := G) (B := B) rg5) rfl) rfl rfl hl.1 rfl (lv_room (Nat.le_of_ble_eq_true rfl)) dX7_count_73 ⟨Nat.zero_le _, Nat.zero_le _⟩) hS (fun H_11 lo_12 hX hS => ?_)
    refine x_ip (w := (wX G B tt)) (x := x) (v := bcI (nI (maskN (fun j => decide (x (5 + 1 + 1 + j) 11 ≠ 0)) n))) (va_runS (As := [.int (nI (maskN (fun j => decide (x (5 + 1 + 1 + j) 11 ≠ 0)) n))]) (rest := []) ⟨hx, hb, hml, hown, hts⟩ (c_J6_bitCount_0f7a4 (l := l) (G := G) (B := B) (tt := tt) (hW := hW) (x := x) (v := nI (maskN (fun j => decide (x (5 + 1 + 1 + j) 11 ≠ 0)) n))) (va_cwS 1 hts gX7_count_J6_bitCount_0f7a4 rfl rfl rfl (by decide +kernel) ⟨Nat.le_of_ble_eq_true rfl, Nat.le_of_ble_eq_true rfl⟩) (x_ps (w := (wX G B tt)) hW hX hK hE hS [.int (nI (maskN (fun j => decide (x (5 + 1 + 1 + j) 11 ≠ 0)) n))]) rfl rfl hl.1 rfl (lv_room (Nat.le_of_ble_eq_true rfl)) dX7_count_76 ⟨Nat.zero_le _, Nat.zero_le _⟩) hS (fun H_13 lo_14 hX hS => ?_)
    rw [← hQ]
    refine x_iret (v := bcI (nI (maskN (fun j => decide (x (5 + 1 + 1 + j) 11 ≠ 0)) n))) hx hb hr hX hS hlocks dX7_count_79 ?_
    show PT_X7_count _ _ _ _ _ _
    unfold PT_X7_count
    rw [if_neg (by decide), if_neg (by decide), if_neg (by decide), if_neg (by decide), if_pos rfl]
    exact ⟨rfl, rfl⟩
  by_cases c_15 : w = 5
  · subst c_15
    refine lv_tableIn (tgt := 80) (off := 79) hx hb dX7_count_1 (by decide) (by decide) rfl (by decide) ?_
    refine lv_aload_n hx hb dX7_count_80 rfl (lv_at hl 0 rfl) ?_
    refine x_get (w := (wX G B tt)) (a := 0) (v := .ref (B + (2))) hx hb hts iX7_count_X7 hown hK hX (Nat.le_of_ble_eq_true rfl) (shX_mn (G := G) (B := B)) rfl 1 (by decide) (hts _ kX7_count_18) (fun _ h9 => h9) rfl dX7_count_81 ?_
    refine x_get (w := (wX G B tt)) (a := 2) (v := .ref (B + (3))) hx hb hts iX7_count_X2 hown hK hX (Nat.le_of_ble_eq_true rfl) (shX_rd (G := G) (B := B)) rfl 0 (by decide) (hts _ kX7_count_100) (fun _ h9 => h9) rfl dX7_count_84 ?_
    refine x_get (w := (wX G B tt)) (a := 3) (v := .int (x (3) 1)) hx hb hts iX7_count_X5 hown hK hX (Nat.le_of_ble_eq_true rfl) (shX_tp (G := G) (B := B)) rfl 1 (by decide) (hts _ kX7_count_104) (fun _ h9 => h9) rfl dX7_count_87 ?_
    rw [← hQ]
    refine x_iret (v := x (3) 1) hx hb hr hX hS hlocks dX7_count_90 ?_
    show PT_X7_count _ _ _ _ _ _
    unfold PT_X7_count
    rw [if_neg (by decide), if_neg (by decide), if_neg (by decide), if_neg (by decide), if_neg (by decide), if_pos rfl]
    exact ⟨rfl, rfl⟩
  refine lv_tableOut (tgt := 91) hx hb dX7_count_1 (ts_out (fun k h1 h2 => by
    have h3 : k = 0 ∨ k = 1 ∨ k = 2 ∨ k = 3 ∨ k = 4 ∨ k = 5 := by omega
    rcases h3 with rfl | rfl | rfl | rfl | rfl | rfl
    · exact c_2
    · exact c_5
    · exact c_6
    · exact c_7
    · exact c_10
    · exact c_15
    )) (by decide) ?_
  refine lv_ldc (v := (-1000001)) hx hb hown (hts _ kX7_count_59) dX7_count_91 ?_
  rw [← hQ]
  refine x_iret (v := (-1000001)) hx hb hr hX hS hlocks dX7_count_93 ?_
  show PT_X7_count _ _ _ _ _ _
  unfold PT_X7_count
  rw [if_neg c_2, if_neg c_5, if_neg c_6, if_neg c_7, if_neg c_10, if_neg c_15]
  exact ⟨rfl, rfl⟩

def PT_X7_left (x : Mem) (m : Int32) (q : Int32) (w : Int32) (wh : Int32) (n : Nat) (nw : Nat → Int32) (r : Int32) (u : Mem) : Prop := (if (decide (0 ≤ m) && decide (m < x 5 1)) = false then (r = (-1000001) ∧ u = x) else (if ((decide (0 ≤ q) && decide (q ≤ 3)) && (decide (0 ≤ w) && decide (w ≤ 100))) = false then (r = (-1000001) ∧ u = x) else (if (decide (((0 : Int32)) ≤ wh) && decide (wh ≤ ((1 : Int32)))) = true then (if wh = 0 then (r = sLeft nw n (tn m) (tn q) w 0 hNo ∧ offQ (tn q) x u) else (r = nI (maskN (fun o => sBehind nw (tn m) o (tn q) hNo) n) ∧ offQ (tn q) x u)) else (r = (-1000001) ∧ u = x))))
theorem kX7_left_25 : (.fieldLink RX7 25 "WindTaken" "ridge" "LWindTaken$Ridge;" : Cond) ∈ wsX7_left := by decide +kernel
theorem iX7_left_X7 : ∀ w ∈ wsX70, w ∈ wsX7_left := by decide +kernel
theorem kX7_left_59 : (.constant RX7 59 (-1000001) : Cond) ∈ wsX7_left := by decide +kernel
theorem kX7_left_211 : (.fieldLink RX7 211 "WindTaken$Quarter" "behind" "[I" : Cond) ∈ wsX7_left := by decide +kernel
theorem iX7_left_X1 : ∀ w ∈ wsX10, w ∈ wsX7_left := by decide +kernel
abbrev rmX7_left : Room := { frames := 5, cells := 0, slots := 0, locals := 117 }
set_option maxHeartbeats 4000000 in
set_option maxRecDepth 100000 in
theorem c_X7_left (l : Launch) (G : GG) (B : Nat) (tt : Nat → Nat) (hW : WOK (wX G B tt)) (x : Mem) (m : Int32) (q : Int32) (w : Int32) (wh : Int32) {n : Nat} {nw : Nat → Int32} (hR : RR n x 5 nw) : Met l yX7_left wsX7_left rmX7_left (XP G (wX G B tt) [.ref (B + (0)), .int (m), .int (q), .int (w), .int (wh)] x) (va_Qi (fun r u => PT_X7_left x m q w wh n nw r u) (XB G (wX G B tt)) (blkA B (B + 117))) 0 0 (blkA B (B + 117)) := by
  refine Met.ofW (cc := cX7_left) (maxL := 6) (ret := (some .int)) (by decide) rfl ?_
  intro pp ee ss mm aa bb mt cd s1 Bd hml hv
  obtain ⟨hae, hX, hK, hE⟩ := hv
  have hx := Bd.exec
  have hb := Bd.bytes
  have hr := Bd.returns
  have hts := atoms_spec (ws := wsX7_left) Bd.pre
  have hown : ss.vm.findClass RX7 = some mm.cls := findClass_of_methodNamed Bd.named
  have hlocks := Bd.notSynchronized
  have hS : va_S (blkA B (B + 117)) ss.heap ss.heap [] := va_S.rf
  have hl := lv_entry ([.ref (B + (0)), .int (m), .int (q), .int (w), .int (wh)]) (n := 6) (Nat.le_of_ble_eq_true rfl)
  subst hae
  rw [lg_entry_eq]
  generalize (lg_sl ([.ref (B + (0)), .int (m), .int (q), .int (w), .int (wh)]) ++ List.replicate (6 - (lg_sl ([.ref (B + (0)), .int (m), .int (q), .int (w), .int (wh)])).length) Slot.unset).toArray = ls at hl ⊢
  have hl : lv_has ls 6 [(0, .ref (B + (0))), (1, .int (m)), (2, .int (q)), (3, .int (w)), (4, .int (wh))] := hl
  generalize ([.ref (B + (0)), .int (m), .int (q), .int (w), .int (wh)] : List Value).toArray = aa at hts ⊢
  show W pp l ee rmX7_left ss mm aa bb mt cd ss.heap [] 0 0 _ (F0 mm 0 ls [])
  generalize hQ : MQ bb (va_Qi (fun r u => PT_X7_left x m q w wh n nw r u) (XB G (wX G B tt)) (blkA B (B + 117))) aa ss 0 0 (blkA B (B + 117)) = Q
  have hn8 := hR.1
  refine lv_aload_n hx hb dX7_left_0 rfl (lv_at hl 0 rfl) ?_
  refine x_get (w := (wX G B tt)) (a := 0) (v := .ref (B + (5))) hx hb hts iX7_left_X7 hown hK hX (Nat.le_of_ble_eq_true rfl) (shX_mn (G := G) (B := B)) rfl 2 (by decide) (hts _ kX7_left_25) (fun _ h9 => h9) rfl dX7_left_1 ?_
  refine lv_iload_n hx hb dX7_left_4 rfl (lv_at hl 1 rfl) ?_
  refine x_ip (w := (wX G B tt)) (x := x) (v := bI (decide (0 ≤ m) && decide (m < x 5 1))) (va_runV (As := [.int (m)]) (rest := []) ⟨hx, hb, hml, hown, hts⟩ (c_X3_has (l := l) (G := G) (B := B) (tt := tt) (hW := hW) (x := x) (ρ := 5) (hρ := rg5) (v := m)) (cwV 1 hts gX7_left_X3_has rfl rfl rfl (by decide +kernel) ⟨Nat.le_of_ble_eq_true rfl, Nat.le_of_ble_eq_true rfl⟩) (x_pv (w := (wX G B tt)) (a := 5) hW hX hK hE hS [.int (m)] (rg_lt rg5) (shX_ri (G := G) (B := B) rg5) rfl) rfl rfl hl.1 rfl (lv_room (Nat.le_of_ble_eq_true rfl)) dX7_left_5 ⟨Nat.zero_le _, Nat.zero_le _⟩) hS (fun H_1 lo_2 hX hS => ?_)
  refine x_ifeq (tgt := 29) hx hb dX7_left_8 (by decide) (fun c_3 => ?_) (fun c_3 => ?_)
  · refine lv_ldc (v := (-1000001)) hx hb hown (hts _ kX7_left_59) dX7_left_29 ?_
    rw [← hQ]
    refine x_iret (v := (-1000001)) hx hb hr hX hS hlocks dX7_left_31 ?_
    show PT_X7_left _ _ _ _ _ _ _ _ _
    unfold PT_X7_left
    rw [if_pos c_3]
    exact ⟨rfl, rfl⟩
  · obtain ⟨hme, hmn⟩ := hasM hR.cnt hn8 c_3
    refine lv_iload_n hx hb dX7_left_11 rfl (lv_at hl 2 rfl) ?_
    refine lv_iload_n hx hb dX7_left_12 rfl (lv_at hl 3 rfl) ?_
    refine x_ip (w := (wX G B tt)) (x := x) (v := bI ((decide (0 ≤ q) && decide (q ≤ 3)) && (decide (0 ≤ w) && decide (w ≤ 100)))) (va_runS (As := [.int (q), .int (w)]) (rest := []) ⟨hx, hb, hml, hown, hts⟩ (c_X7_isWind (l := l) (G := G) (B := B) (tt := tt) (hW := hW) (x := x) (q := q) (v := w)) (va_cwS 2 hts gX7_left_X7_isWind rfl rfl rfl (by decide +kernel) ⟨Nat.le_of_ble_eq_true rfl, Nat.le_of_ble_eq_true rfl⟩) (x_ps (w := (wX G B tt)) hW hX hK hE hS [.int (q), .int (w)]) rfl rfl hl.1 rfl (lv_room (Nat.le_of_ble_eq_true rfl)) dX7_left_13 ⟨Nat.zero_le _, Nat.zero_le _⟩) hS (fun H_4 lo_5 hX hS => ?_)
    refine x_ifeq (tgt := 29) hx hb dX7_left_16 (by decide) (fun c_6 => ?_) (fun c_6 => ?_)
    · refine lv_ldc (v := (-1000001)) hx hb hown (hts _ kX7_left_59) dX7_left_29 ?_
      rw [← hQ]
      refine x_iret (v := (-1000001)) hx hb hr hX hS hlocks dX7_left_31 ?_
      show PT_X7_left _ _ _ _ _ _ _ _ _
      unfold PT_X7_left
      rw [if_neg (ne_of_true c_3), if_pos c_6]
      exact ⟨rfl, rfl⟩
    · obtain ⟨hqe, hq4⟩ := windQ c_6
      refine lv_iload hx hb dX7_left_19 (lv_at hl 4 rfl) ?_
      refine lv_iconst (v := 0) hx hb dX7_left_21 (by decide) ?_
      refine lv_iconst (v := 1) hx hb dX7_left_22 (by decide) ?_
      refine x_ip (w := (wX G B tt)) (x := x) (v := bI (decide (((0 : Int32)) ≤ wh) && decide (wh ≤ ((1 : Int32))))) (va_runS (As := [.int (wh), .int (0), .int (1)]) (rest := []) ⟨hx, hb, hml, hown, hts⟩ (c_X7_isWithin (l := l) (G := G) (B := B) (tt := tt) (hW := hW) (x := x) (v := wh) (lo := 0) (hi := 1)) (va_cwS 3 hts gX7_left_X7_isWithin rfl rfl rfl (by decide +kernel) ⟨Nat.le_of_ble_eq_true rfl, Nat.le_of_ble_eq_true rfl⟩) (x_ps (w := (wX G B tt)) hW hX hK hE hS [.int (wh), .int (0), .int (1)]) rfl rfl hl.1 rfl (lv_room (Nat.le_of_ble_eq_true rfl)) dX7_left_23 ⟨Nat.zero_le _, Nat.zero_le _⟩) hS (fun H_7 lo_8 hX hS => ?_)
      refine x_ifne (tgt := 32) hx hb dX7_left_26 (by decide) (fun c_9 => ?_) (fun c_9 => ?_)
      · refine lv_aload_n hx hb dX7_left_32 rfl (lv_at hl 0 rfl) ?_
        refine lv_iload_n hx hb dX7_left_33 rfl (lv_at hl 2 rfl) ?_
        refine lv_iload_n hx hb dX7_left_34 rfl (lv_at hl 3 rfl) ?_
        refine W.eq (g2 := F0 mm 35 ls [.int (w), .int (nI (tn q)), .ref (B + (0))]) (congrArg (fun z9 : Int32 => F0 mm 35 ls [.int (w), .int (z9), .ref (B + (0))]) hqe) ?_
        refine x_rf (w := (wX G B tt)) (va_runV (As := [.int (nI (tn q)), .int (w)]) (rest := []) ⟨hx, hb, hml, hown, hts⟩ (c_X7_windOf (l := l) (G := G) (B := B) (tt := tt) (hW := hW) (x := x) (q := tn q) (w := w) (n := n) (nw := nw) (hR := hR) (hq := (by omega))) (cwV 2 hts gX7_left_X7_windOf rfl rfl rfl (by decide +kernel) ⟨Nat.le_of_ble_eq_true rfl, Nat.le_of_ble_eq_true rfl⟩) (x_pv (w := (wX G B tt)) (a := 0) hW hX hK hE hS [.int (nI (tn q)), .int (w)] (Nat.le_of_ble_eq_true rfl) (shX_mn (G := G) (B := B)) rfl) rfl rfl hl.1 rfl (lv_room (Nat.le_of_ble_eq_true rfl)) dX7_left_35 ⟨Nat.zero_le _, Nat.zero_le _⟩) hS (fun x_12 H_10 lo_11 h_35 hX hS => ?_)
        try dsimp only at h_35
        obtain ⟨hof, hSV, hBL, hRq⟩ := h_35
        have hR1 := hR.off rc5 hof
        refine lv_astore (lv' := [(5, .ref (B + (65 + 13 * (tn q)))), (0, .ref (B + (0))), (1, .int (m)), (2, .int (q)), (3, .int (w)), (4, .int (wh))]) hx hb dX7_left_38 hl (by decide) rfl (fun ls hl => ?_)
        refine lv_iload hx hb dX7_left_40 (lv_at hl 5 rfl) ?_
        refine lv_if_ne (tgt := 55) hx hb dX7_left_42 (by decide) (fun c_13 => ?_) (fun c_13 => ?_)
        · refine lv_aload hx hb dX7_left_55 (lv_at hl 0 rfl) ?_
          refine x_get (w := (wX G B tt)) (a := 65 + 13 * (tn q)) (v := .ref (B + (65 + 13 * (tn q) + 1))) hx hb hts iX7_left_X1 hown hK hX (qu_lt (by omega)) (shX_qu (G := G) (B := B) (by omega)) rfl 0 (by decide) (hts _ kX7_left_211) (fun _ h9 => h9) rfl dX7_left_57 ?_
          refine lv_iload_n hx hb dX7_left_60 rfl (lv_at hl 2 rfl) ?_
          refine x_iald (w := (wX G B tt)) (a := 65 + 13 * (tn q) + 1) (n := 8) (j := tn m) hx hb hK hX (bh_lt (by omega)) (shX_bh (G := G) (B := B) (f := x_12 (65 + 13 * (tn q) + 1)) (by omega)) hme (by omega) (by decide) dX7_left_61 ?_
          rw [← hQ]
          refine x_iret (v := x_12 (65 + 13 * (tn q) + 1) (tn m)) hx hb hr hX hS hlocks dX7_left_62 ?_
          show PT_X7_left _ _ _ _ _ _ _ _ _
          unfold PT_X7_left
          rw [if_neg (ne_of_true c_3), if_neg (ne_of_true c_6), if_pos c_9, if_neg c_13]
          exact ⟨hSV.2.2 (tn m) hmn, hof⟩
        · refine lv_aload hx hb dX7_left_45 (lv_at hl 0 rfl) ?_
          refine lv_iload_n hx hb dX7_left_47 rfl (lv_at hl 2 rfl) ?_
          refine lv_iconst (v := 0) hx hb dX7_left_48 (by decide) ?_
          refine W.eq (g2 := F0 mm 49 ls [.int (0), .int (nI (tn m)), .ref (B + (65 + 13 * (tn q)))]) (congrArg (fun z9 : Int32 => F0 mm 49 ls [.int (0), .int (z9), .ref (B + (65 + 13 * (tn q)))]) hme) ?_
          refine x_ip (w := (wX G B tt)) (x := x_12) (v := sLeft nw n (tn m) (tn q) w 0 hNo) (va_runV (As := [.int (nI (tn m)), .int (0)]) (rest := []) ⟨hx, hb, hml, hown, hts⟩ (c_X1_windLeft (l := l) (G := G) (B := B) (tt := tt) (hW := hW) (x := x_12) (q := tn q) (hq := (by omega)) (m := tn m) (s := 0) (n := n) (nw := nw) (h := hNo) (w := w) (hn8 := hn8) (hSV := hSV) (hBL := hBL) (hm := (by omega))) (cwV 2 hts gX7_left_X1_windLeft rfl rfl rfl (by decide +kernel) ⟨Nat.le_of_ble_eq_true rfl, Nat.le_of_ble_eq_true rfl⟩) (x_pv (w := (wX G B tt)) (a := 65 + 13 * (tn q)) hW hX hK hE hS [.int (nI (tn m)), .int (0)] (qu_lt (by omega)) (shX_qu (G := G) (B := B) (by omega)) rfl) rfl rfl hl.1 rfl (lv_room (Nat.le_of_ble_eq_true rfl)) dX7_left_49 ⟨Nat.zero_le _, Nat.zero_le _⟩) hS (fun H_14 lo_15 hX hS => ?_)
          refine lv_goto (tgt := 62) hx hb dX7_left_52 (by decide) ?_
          rw [← hQ]
          refine x_iret (v := sLeft nw n (tn m) (tn q) w 0 hNo) hx hb hr hX hS hlocks dX7_left_62 ?_
          show PT_X7_left _ _ _ _ _ _ _ _ _
          unfold PT_X7_left
          rw [if_neg (ne_of_true c_3), if_neg (ne_of_true c_6), if_pos c_9, if_pos c_13]
          exact ⟨rfl, hof⟩
      · refine lv_ldc (v := (-1000001)) hx hb hown (hts _ kX7_left_59) dX7_left_29 ?_
        rw [← hQ]
        refine x_iret (v := (-1000001)) hx hb hr hX hS hlocks dX7_left_31 ?_
        show PT_X7_left _ _ _ _ _ _ _ _ _
        unfold PT_X7_left
        rw [if_neg (ne_of_true c_3), if_neg (ne_of_true c_6), if_neg (ne_of_false c_9)]
        exact ⟨rfl, rfl⟩

def PT_X7_made (x : Mem) (q : Int32) (w : Int32) (s : Int32) (n : Nat) (nw : Nat → Int32) (r : Int32) (u : Mem) : Prop := (if (decide (x 5 1 = 0)) = false then (if ((decide (0 ≤ q) && decide (q ≤ 3)) && (decide (0 ≤ w) && decide (w ≤ 100))) = false then (r = (-1000001) ∧ u = x) else (if (decide (((0 : Int32)) ≤ s) && decide (s ≤ ((255 : Int32)))) = true then (r = sMade nw n (tn q) w (tn s) ∧ offQ (tn q) x u) else (r = (-1000001) ∧ u = x))) else (r = (-1000002) ∧ u = x))
theorem kX7_made_25 : (.fieldLink RX7 25 "WindTaken" "ridge" "LWindTaken$Ridge;" : Cond) ∈ wsX7_made := by decide +kernel
theorem iX7_made_X7 : ∀ w ∈ wsX70, w ∈ wsX7_made := by decide +kernel
theorem kX7_made_59 : (.constant RX7 59 (-1000001) : Cond) ∈ wsX7_made := by decide +kernel
theorem kX7_made_155 : (.constant RX7 155 (-1000002) : Cond) ∈ wsX7_made := by decide +kernel
abbrev rmX7_made : Room := { frames := 5, cells := 0, slots := 0, locals := 117 }
set_option maxHeartbeats 4000000 in
set_option maxRecDepth 100000 in
theorem c_X7_made (l : Launch) (G : GG) (B : Nat) (tt : Nat → Nat) (hW : WOK (wX G B tt)) (x : Mem) (q : Int32) (w : Int32) (s : Int32) {n : Nat} {nw : Nat → Int32} (hR : RR n x 5 nw) : Met l yX7_made wsX7_made rmX7_made (XP G (wX G B tt) [.ref (B + (0)), .int (q), .int (w), .int (s)] x) (va_Qi (fun r u => PT_X7_made x q w s n nw r u) (XB G (wX G B tt)) (blkA B (B + 117))) 0 0 (blkA B (B + 117)) := by
  refine Met.ofW (cc := cX7_made) (maxL := 4) (ret := (some .int)) (by decide) rfl ?_
  intro pp ee ss mm aa bb mt cd s1 Bd hml hv
  obtain ⟨hae, hX, hK, hE⟩ := hv
  have hx := Bd.exec
  have hb := Bd.bytes
  have hr := Bd.returns
  have hts := atoms_spec (ws := wsX7_made) Bd.pre
  have hown : ss.vm.findClass RX7 = some mm.cls := findClass_of_methodNamed Bd.named
  have hlocks := Bd.notSynchronized
  have hS : va_S (blkA B (B + 117)) ss.heap ss.heap [] := va_S.rf
  have hl := lv_entry ([.ref (B + (0)), .int (q), .int (w), .int (s)]) (n := 4) (Nat.le_of_ble_eq_true rfl)
  subst hae
  rw [lg_entry_eq]
  generalize (lg_sl ([.ref (B + (0)), .int (q), .int (w), .int (s)]) ++ List.replicate (4 - (lg_sl ([.ref (B + (0)), .int (q), .int (w), .int (s)])).length) Slot.unset).toArray = ls at hl ⊢
  have hl : lv_has ls 4 [(0, .ref (B + (0))), (1, .int (q)), (2, .int (w)), (3, .int (s))] := hl
  generalize ([.ref (B + (0)), .int (q), .int (w), .int (s)] : List Value).toArray = aa at hts ⊢
  show W pp l ee rmX7_made ss mm aa bb mt cd ss.heap [] 0 0 _ (F0 mm 0 ls [])
  generalize hQ : MQ bb (va_Qi (fun r u => PT_X7_made x q w s n nw r u) (XB G (wX G B tt)) (blkA B (B + 117))) aa ss 0 0 (blkA B (B + 117)) = Q
  have hn8 := hR.1
  refine lv_aload_n hx hb dX7_made_0 rfl (lv_at hl 0 rfl) ?_
  refine x_get (w := (wX G B tt)) (a := 0) (v := .ref (B + (5))) hx hb hts iX7_made_X7 hown hK hX (Nat.le_of_ble_eq_true rfl) (shX_mn (G := G) (B := B)) rfl 2 (by decide) (hts _ kX7_made_25) (fun _ h9 => h9) rfl dX7_made_1 ?_
  refine x_ip (w := (wX G B tt)) (x := x) (v := bI (decide (x 5 1 = 0))) (va_runV (As := []) (rest := []) ⟨hx, hb, hml, hown, hts⟩ (c_X3_isNone (l := l) (G := G) (B := B) (tt := tt) (hW := hW) (x := x) (ρ := 5) (hρ := rg5)) (cwV 0 hts gX7_made_X3_isNone rfl rfl rfl (by decide +kernel) ⟨Nat.le_of_ble_eq_true rfl, Nat.le_of_ble_eq_true rfl⟩) (x_pv (w := (wX G B tt)) (a := 5) hW hX hK hE hS [] (rg_lt rg5) (shX_ri (G := G) (B := B) rg5) rfl) rfl rfl hl.1 rfl (lv_room (Nat.le_of_ble_eq_true rfl)) dX7_made_4 ⟨Nat.zero_le _, Nat.zero_le _⟩) hS (fun H_1 lo_2 hX hS => ?_)
  refine x_ifeq (tgt := 13) hx hb dX7_made_7 (by decide) (fun c_3 => ?_) (fun c_3 => ?_)
  · refine lv_iload_n hx hb dX7_made_13 rfl (lv_at hl 1 rfl) ?_
    refine lv_iload_n hx hb dX7_made_14 rfl (lv_at hl 2 rfl) ?_
    refine x_ip (w := (wX G B tt)) (x := x) (v := bI ((decide (0 ≤ q) && decide (q ≤ 3)) && (decide (0 ≤ w) && decide (w ≤ 100)))) (va_runS (As := [.int (q), .int (w)]) (rest := []) ⟨hx, hb, hml, hown, hts⟩ (c_X7_isWind (l := l) (G := G) (B := B) (tt := tt) (hW := hW) (x := x) (q := q) (v := w)) (va_cwS 2 hts gX7_made_X7_isWind rfl rfl rfl (by decide +kernel) ⟨Nat.le_of_ble_eq_true rfl, Nat.le_of_ble_eq_true rfl⟩) (x_ps (w := (wX G B tt)) hW hX hK hE hS [.int (q), .int (w)]) rfl rfl hl.1 rfl (lv_room (Nat.le_of_ble_eq_true rfl)) dX7_made_15 ⟨Nat.zero_le _, Nat.zero_le _⟩) hS (fun H_4 lo_5 hX hS => ?_)
    refine x_ifeq (tgt := 32) hx hb dX7_made_18 (by decide) (fun c_6 => ?_) (fun c_6 => ?_)
    · refine lv_ldc (v := (-1000001)) hx hb hown (hts _ kX7_made_59) dX7_made_32 ?_
      rw [← hQ]
      refine x_iret (v := (-1000001)) hx hb hr hX hS hlocks dX7_made_34 ?_
      show PT_X7_made _ _ _ _ _ _ _ _
      unfold PT_X7_made
      rw [if_pos c_3, if_pos c_6]
      exact ⟨rfl, rfl⟩
    · obtain ⟨hqe, hq4⟩ := windQ c_6
      refine lv_iload_n hx hb dX7_made_21 rfl (lv_at hl 3 rfl) ?_
      refine lv_iconst (v := 0) hx hb dX7_made_22 (by decide) ?_
      refine lv_sipush (v := 255) hx hb dX7_made_23 (by decide) ?_
      refine x_ip (w := (wX G B tt)) (x := x) (v := bI (decide (((0 : Int32)) ≤ s) && decide (s ≤ ((255 : Int32))))) (va_runS (As := [.int (s), .int (0), .int (255)]) (rest := []) ⟨hx, hb, hml, hown, hts⟩ (c_X7_isWithin (l := l) (G := G) (B := B) (tt := tt) (hW := hW) (x := x) (v := s) (lo := 0) (hi := 255)) (va_cwS 3 hts gX7_made_X7_isWithin rfl rfl rfl (by decide +kernel) ⟨Nat.le_of_ble_eq_true rfl, Nat.le_of_ble_eq_true rfl⟩) (x_ps (w := (wX G B tt)) hW hX hK hE hS [.int (s), .int (0), .int (255)]) rfl rfl hl.1 rfl (lv_room (Nat.le_of_ble_eq_true rfl)) dX7_made_26 ⟨Nat.zero_le _, Nat.zero_le _⟩) hS (fun H_7 lo_8 hX hS => ?_)
      refine x_ifne (tgt := 35) hx hb dX7_made_29 (by decide) (fun c_9 => ?_) (fun c_9 => ?_)
      · obtain ⟨hse, hs255⟩ := within_nI (k := 255) rfl (by decide) c_9
        refine lv_aload_n hx hb dX7_made_35 rfl (lv_at hl 0 rfl) ?_
        refine lv_iload_n hx hb dX7_made_36 rfl (lv_at hl 1 rfl) ?_
        refine lv_iload_n hx hb dX7_made_37 rfl (lv_at hl 2 rfl) ?_
        refine W.eq (g2 := F0 mm 38 ls [.int (w), .int (nI (tn q)), .ref (B + (0))]) (congrArg (fun z9 : Int32 => F0 mm 38 ls [.int (w), .int (z9), .ref (B + (0))]) hqe) ?_
        refine x_rf (w := (wX G B tt)) (va_runV (As := [.int (nI (tn q)), .int (w)]) (rest := []) ⟨hx, hb, hml, hown, hts⟩ (c_X7_windOf (l := l) (G := G) (B := B) (tt := tt) (hW := hW) (x := x) (q := tn q) (w := w) (n := n) (nw := nw) (hR := hR) (hq := (by omega))) (cwV 2 hts gX7_made_X7_windOf rfl rfl rfl (by decide +kernel) ⟨Nat.le_of_ble_eq_true rfl, Nat.le_of_ble_eq_true rfl⟩) (x_pv (w := (wX G B tt)) (a := 0) hW hX hK hE hS [.int (nI (tn q)), .int (w)] (Nat.le_of_ble_eq_true rfl) (shX_mn (G := G) (B := B)) rfl) rfl rfl hl.1 rfl (lv_room (Nat.le_of_ble_eq_true rfl)) dX7_made_38 ⟨Nat.zero_le _, Nat.zero_le _⟩) hS (fun x_12 H_10 lo_11 h_38 hX hS => ?_)
        try dsimp only at h_38
        obtain ⟨hof, hSV, hBL, hRq⟩ := h_38
        have hR1 := hR.off rc5 hof
        refine lv_iload_n hx hb dX7_made_41 rfl (lv_at hl 3 rfl) ?_
        refine W.eq (g2 := F0 mm 42 ls [.int (nI (tn s)), .ref (B + (65 + 13 * (tn q)))]) (congrArg (fun z9 : Int32 => F0 mm 42 ls [.int (z9), .ref (B + (65 + 13 * (tn q)))]) hse) ?_
        refine x_ip (w := (wX G B tt)) (x := x_12) (v := sumN (fun m => sGr nw n m (tn q) w (tn s) hNo) n) (va_runV (As := [.int (nI (tn s))]) (rest := []) ⟨hx, hb, hml, hown, hts⟩ (c_X1_madeBy (l := l) (G := G) (B := B) (tt := tt) (hW := hW) (x := x_12) (q := tn q) (hq := (by omega)) (s := tn s) (n := n) (nw := nw) (h := hNo) (w := w) (hRq := hRq) (hSV := hSV) (hBL := hBL)) (cwV 1 hts gX7_made_X1_madeBy rfl rfl rfl (by decide +kernel) ⟨Nat.le_of_ble_eq_true rfl, Nat.le_of_ble_eq_true rfl⟩) (x_pv (w := (wX G B tt)) (a := 65 + 13 * (tn q)) hW hX hK hE hS [.int (nI (tn s))] (qu_lt (by omega)) (shX_qu (G := G) (B := B) (by omega)) rfl) rfl rfl hl.1 rfl (lv_room (Nat.le_of_ble_eq_true rfl)) dX7_made_42 ⟨Nat.zero_le _, Nat.zero_le _⟩) hS (fun H_13 lo_14 hX hS => ?_)
        rw [← hQ]
        refine x_iret (v := sumN (fun m => sGr nw n m (tn q) w (tn s) hNo) n) hx hb hr hX hS hlocks dX7_made_45 ?_
        show PT_X7_made _ _ _ _ _ _ _ _
        unfold PT_X7_made
        rw [if_pos c_3, if_neg (ne_of_true c_6), if_pos c_9]
        exact ⟨rfl, hof⟩
      · refine lv_ldc (v := (-1000001)) hx hb hown (hts _ kX7_made_59) dX7_made_32 ?_
        rw [← hQ]
        refine x_iret (v := (-1000001)) hx hb hr hX hS hlocks dX7_made_34 ?_
        show PT_X7_made _ _ _ _ _ _ _ _
        unfold PT_X7_made
        rw [if_pos c_3, if_neg (ne_of_true c_6), if_neg (ne_of_false c_9)]
        exact ⟨rfl, rfl⟩
  · refine lv_ldc (v := (-1000002)) hx hb hown (hts _ kX7_made_155) dX7_made_10 ?_
    rw [← hQ]
    refine x_iret (v := (-1000002)) hx hb hr hX hS hlocks dX7_made_12 ?_
    show PT_X7_made _ _ _ _ _ _ _ _
    unfold PT_X7_made
    rw [if_neg (ne_of_true c_3)]
    exact ⟨rfl, rfl⟩

def PT_X7_best (x : Mem) (q : Int32) (w : Int32) (wh : Int32) (n : Nat) (nw : Nat → Int32) (r : Int32) (u : Mem) : Prop := (if (decide (x 5 1 = 0)) = false then (if ((decide (0 ≤ q) && decide (q ≤ 3)) && (decide (0 ≤ w) && decide (w ≤ 100))) = false then (r = (-1000001) ∧ u = x) else (if (decide (((0 : Int32)) ≤ wh) && decide (wh ≤ ((1 : Int32)))) = true then (if wh = 0 then (r = sMade nw n (tn q) w (sBest nw n (tn q) w) ∧ offQ (tn q) x u) else (r = nI (sBest nw n (tn q) w) ∧ offQ (tn q) x u)) else (r = (-1000001) ∧ u = x))) else (r = (-1000002) ∧ u = x))
theorem kX7_best_25 : (.fieldLink RX7 25 "WindTaken" "ridge" "LWindTaken$Ridge;" : Cond) ∈ wsX7_best := by decide +kernel
theorem iX7_best_X7 : ∀ w ∈ wsX70, w ∈ wsX7_best := by decide +kernel
theorem kX7_best_59 : (.constant RX7 59 (-1000001) : Cond) ∈ wsX7_best := by decide +kernel
theorem kX7_best_155 : (.constant RX7 155 (-1000002) : Cond) ∈ wsX7_best := by decide +kernel
abbrev rmX7_best : Room := { frames := 6, cells := 0, slots := 0, locals := 136 }
set_option maxHeartbeats 4000000 in
set_option maxRecDepth 100000 in
theorem c_X7_best (l : Launch) (G : GG) (B : Nat) (tt : Nat → Nat) (hW : WOK (wX G B tt)) (x : Mem) (q : Int32) (w : Int32) (wh : Int32) {n : Nat} {nw : Nat → Int32} (hR : RR n x 5 nw) : Met l yX7_best wsX7_best rmX7_best (XP G (wX G B tt) [.ref (B + (0)), .int (q), .int (w), .int (wh)] x) (va_Qi (fun r u => PT_X7_best x q w wh n nw r u) (XB G (wX G B tt)) (blkA B (B + 117))) 0 0 (blkA B (B + 117)) := by
  refine Met.ofW (cc := cX7_best) (maxL := 6) (ret := (some .int)) (by decide) rfl ?_
  intro pp ee ss mm aa bb mt cd s1 Bd hml hv
  obtain ⟨hae, hX, hK, hE⟩ := hv
  have hx := Bd.exec
  have hb := Bd.bytes
  have hr := Bd.returns
  have hts := atoms_spec (ws := wsX7_best) Bd.pre
  have hown : ss.vm.findClass RX7 = some mm.cls := findClass_of_methodNamed Bd.named
  have hlocks := Bd.notSynchronized
  have hS : va_S (blkA B (B + 117)) ss.heap ss.heap [] := va_S.rf
  have hl := lv_entry ([.ref (B + (0)), .int (q), .int (w), .int (wh)]) (n := 6) (Nat.le_of_ble_eq_true rfl)
  subst hae
  rw [lg_entry_eq]
  generalize (lg_sl ([.ref (B + (0)), .int (q), .int (w), .int (wh)]) ++ List.replicate (6 - (lg_sl ([.ref (B + (0)), .int (q), .int (w), .int (wh)])).length) Slot.unset).toArray = ls at hl ⊢
  have hl : lv_has ls 6 [(0, .ref (B + (0))), (1, .int (q)), (2, .int (w)), (3, .int (wh))] := hl
  generalize ([.ref (B + (0)), .int (q), .int (w), .int (wh)] : List Value).toArray = aa at hts ⊢
  show W pp l ee rmX7_best ss mm aa bb mt cd ss.heap [] 0 0 _ (F0 mm 0 ls [])
  generalize hQ : MQ bb (va_Qi (fun r u => PT_X7_best x q w wh n nw r u) (XB G (wX G B tt)) (blkA B (B + 117))) aa ss 0 0 (blkA B (B + 117)) = Q
  have hn8 := hR.1
  refine lv_aload_n hx hb dX7_best_0 rfl (lv_at hl 0 rfl) ?_
  refine x_get (w := (wX G B tt)) (a := 0) (v := .ref (B + (5))) hx hb hts iX7_best_X7 hown hK hX (Nat.le_of_ble_eq_true rfl) (shX_mn (G := G) (B := B)) rfl 2 (by decide) (hts _ kX7_best_25) (fun _ h9 => h9) rfl dX7_best_1 ?_
  refine x_ip (w := (wX G B tt)) (x := x) (v := bI (decide (x 5 1 = 0))) (va_runV (As := []) (rest := []) ⟨hx, hb, hml, hown, hts⟩ (c_X3_isNone (l := l) (G := G) (B := B) (tt := tt) (hW := hW) (x := x) (ρ := 5) (hρ := rg5)) (cwV 0 hts gX7_best_X3_isNone rfl rfl rfl (by decide +kernel) ⟨Nat.le_of_ble_eq_true rfl, Nat.le_of_ble_eq_true rfl⟩) (x_pv (w := (wX G B tt)) (a := 5) hW hX hK hE hS [] (rg_lt rg5) (shX_ri (G := G) (B := B) rg5) rfl) rfl rfl hl.1 rfl (lv_room (Nat.le_of_ble_eq_true rfl)) dX7_best_4 ⟨Nat.zero_le _, Nat.zero_le _⟩) hS (fun H_1 lo_2 hX hS => ?_)
  refine x_ifeq (tgt := 13) hx hb dX7_best_7 (by decide) (fun c_3 => ?_) (fun c_3 => ?_)
  · refine lv_iload_n hx hb dX7_best_13 rfl (lv_at hl 1 rfl) ?_
    refine lv_iload_n hx hb dX7_best_14 rfl (lv_at hl 2 rfl) ?_
    refine x_ip (w := (wX G B tt)) (x := x) (v := bI ((decide (0 ≤ q) && decide (q ≤ 3)) && (decide (0 ≤ w) && decide (w ≤ 100)))) (va_runS (As := [.int (q), .int (w)]) (rest := []) ⟨hx, hb, hml, hown, hts⟩ (c_X7_isWind (l := l) (G := G) (B := B) (tt := tt) (hW := hW) (x := x) (q := q) (v := w)) (va_cwS 2 hts gX7_best_X7_isWind rfl rfl rfl (by decide +kernel) ⟨Nat.le_of_ble_eq_true rfl, Nat.le_of_ble_eq_true rfl⟩) (x_ps (w := (wX G B tt)) hW hX hK hE hS [.int (q), .int (w)]) rfl rfl hl.1 rfl (lv_room (Nat.le_of_ble_eq_true rfl)) dX7_best_15 ⟨Nat.zero_le _, Nat.zero_le _⟩) hS (fun H_4 lo_5 hX hS => ?_)
    refine x_ifeq (tgt := 30) hx hb dX7_best_18 (by decide) (fun c_6 => ?_) (fun c_6 => ?_)
    · refine lv_ldc (v := (-1000001)) hx hb hown (hts _ kX7_best_59) dX7_best_30 ?_
      rw [← hQ]
      refine x_iret (v := (-1000001)) hx hb hr hX hS hlocks dX7_best_32 ?_
      show PT_X7_best _ _ _ _ _ _ _ _
      unfold PT_X7_best
      rw [if_pos c_3, if_pos c_6]
      exact ⟨rfl, rfl⟩
    · obtain ⟨hqe, hq4⟩ := windQ c_6
      refine lv_iload_n hx hb dX7_best_21 rfl (lv_at hl 3 rfl) ?_
      refine lv_iconst (v := 0) hx hb dX7_best_22 (by decide) ?_
      refine lv_iconst (v := 1) hx hb dX7_best_23 (by decide) ?_
      refine x_ip (w := (wX G B tt)) (x := x) (v := bI (decide (((0 : Int32)) ≤ wh) && decide (wh ≤ ((1 : Int32))))) (va_runS (As := [.int (wh), .int (0), .int (1)]) (rest := []) ⟨hx, hb, hml, hown, hts⟩ (c_X7_isWithin (l := l) (G := G) (B := B) (tt := tt) (hW := hW) (x := x) (v := wh) (lo := 0) (hi := 1)) (va_cwS 3 hts gX7_best_X7_isWithin rfl rfl rfl (by decide +kernel) ⟨Nat.le_of_ble_eq_true rfl, Nat.le_of_ble_eq_true rfl⟩) (x_ps (w := (wX G B tt)) hW hX hK hE hS [.int (wh), .int (0), .int (1)]) rfl rfl hl.1 rfl (lv_room (Nat.le_of_ble_eq_true rfl)) dX7_best_24 ⟨Nat.zero_le _, Nat.zero_le _⟩) hS (fun H_7 lo_8 hX hS => ?_)
      refine x_ifne (tgt := 33) hx hb dX7_best_27 (by decide) (fun c_9 => ?_) (fun c_9 => ?_)
      · refine lv_aload_n hx hb dX7_best_33 rfl (lv_at hl 0 rfl) ?_
        refine lv_iload_n hx hb dX7_best_34 rfl (lv_at hl 1 rfl) ?_
        refine lv_iload_n hx hb dX7_best_35 rfl (lv_at hl 2 rfl) ?_
        refine W.eq (g2 := F0 mm 36 ls [.int (w), .int (nI (tn q)), .ref (B + (0))]) (congrArg (fun z9 : Int32 => F0 mm 36 ls [.int (w), .int (z9), .ref (B + (0))]) hqe) ?_
        refine x_rf (w := (wX G B tt)) (va_runV (As := [.int (nI (tn q)), .int (w)]) (rest := []) ⟨hx, hb, hml, hown, hts⟩ (c_X7_windOf (l := l) (G := G) (B := B) (tt := tt) (hW := hW) (x := x) (q := tn q) (w := w) (n := n) (nw := nw) (hR := hR) (hq := (by omega))) (cwV 2 hts gX7_best_X7_windOf rfl rfl rfl (by decide +kernel) ⟨Nat.le_of_ble_eq_true rfl, Nat.le_of_ble_eq_true rfl⟩) (x_pv (w := (wX G B tt)) (a := 0) hW hX hK hE hS [.int (nI (tn q)), .int (w)] (Nat.le_of_ble_eq_true rfl) (shX_mn (G := G) (B := B)) rfl) rfl rfl hl.1 rfl (lv_room (Nat.le_of_ble_eq_true rfl)) dX7_best_36 ⟨Nat.zero_le _, Nat.zero_le _⟩) hS (fun x_12 H_10 lo_11 h_36 hX hS => ?_)
        try dsimp only at h_36
        obtain ⟨hof, hSV, hBL, hRq⟩ := h_36
        have hR1 := hR.off rc5 hof
        refine lv_astore (lv' := [(4, .ref (B + (65 + 13 * (tn q)))), (0, .ref (B + (0))), (1, .int (q)), (2, .int (w)), (3, .int (wh))]) hx hb dX7_best_39 hl (by decide) rfl (fun ls hl => ?_)
        refine lv_aload hx hb dX7_best_41 (lv_at hl 0 rfl) ?_
        refine x_ip (w := (wX G B tt)) (x := x_12) (v := nI (sBest nw n (tn q) w)) (va_runV (As := []) (rest := []) ⟨hx, hb, hml, hown, hts⟩ (c_X1_bestSet (l := l) (G := G) (B := B) (tt := tt) (hW := hW) (x := x_12) (q := tn q) (hq := (by omega)) (n := n) (nw := nw) (w := w) (hRq := hRq) (hSV := hSV) (hBL := hBL)) (cwV 0 hts gX7_best_X1_bestSet rfl rfl rfl (by decide +kernel) ⟨Nat.le_of_ble_eq_true rfl, Nat.le_of_ble_eq_true rfl⟩) (x_pv (w := (wX G B tt)) (a := 65 + 13 * (tn q)) hW hX hK hE hS [] (qu_lt (by omega)) (shX_qu (G := G) (B := B) (by omega)) rfl) rfl rfl hl.1 rfl (lv_room (Nat.le_of_ble_eq_true rfl)) dX7_best_43 ⟨Nat.zero_le _, Nat.zero_le _⟩) hS (fun H_13 lo_14 hX hS => ?_)
        refine W.eq (g2 := F0 mm 46 ls [.int (nI (sBest nw n (tn q) w))]) (congrArg (fun z9 : Int32 => F0 mm 46 ls [.int (z9)]) rfl) ?_
        refine lv_istore (lv' := [(5, .int (nI (sBest nw n (tn q) w))), (4, .ref (B + (65 + 13 * (tn q)))), (0, .ref (B + (0))), (1, .int (q)), (2, .int (w)), (3, .int (wh))]) hx hb dX7_best_46 hl (by decide) rfl (fun ls hl => ?_)
        refine lv_iload_n hx hb dX7_best_48 rfl (lv_at hl 5 rfl) ?_
        refine lv_if_ne (tgt := 62) hx hb dX7_best_49 (by decide) (fun c_15 => ?_) (fun c_15 => ?_)
        · refine lv_iload hx hb dX7_best_62 (lv_at hl 0 rfl) ?_
          rw [← hQ]
          refine x_iret (v := nI (sBest nw n (tn q) w)) hx hb hr hX hS hlocks dX7_best_64 ?_
          show PT_X7_best _ _ _ _ _ _ _ _
          unfold PT_X7_best
          rw [if_pos c_3, if_neg (ne_of_true c_6), if_pos c_9, if_neg c_15]
          exact ⟨rfl, hof⟩
        · refine lv_aload hx hb dX7_best_52 (lv_at hl 1 rfl) ?_
          refine lv_iload hx hb dX7_best_54 (lv_at hl 0 rfl) ?_
          refine x_ip (w := (wX G B tt)) (x := x_12) (v := sumN (fun m => sGr nw n m (tn q) w (sBest nw n (tn q) w) hNo) n) (va_runV (As := [.int (nI (sBest nw n (tn q) w))]) (rest := []) ⟨hx, hb, hml, hown, hts⟩ (c_X1_madeBy (l := l) (G := G) (B := B) (tt := tt) (hW := hW) (x := x_12) (q := tn q) (hq := (by omega)) (s := sBest nw n (tn q) w) (n := n) (nw := nw) (h := hNo) (w := w) (hRq := hRq) (hSV := hSV) (hBL := hBL)) (cwV 1 hts gX7_best_X1_madeBy rfl rfl rfl (by decide +kernel) ⟨Nat.le_of_ble_eq_true rfl, Nat.le_of_ble_eq_true rfl⟩) (x_pv (w := (wX G B tt)) (a := 65 + 13 * (tn q)) hW hX hK hE hS [.int (nI (sBest nw n (tn q) w))] (qu_lt (by omega)) (shX_qu (G := G) (B := B) (by omega)) rfl) rfl rfl hl.1 rfl (lv_room (Nat.le_of_ble_eq_true rfl)) dX7_best_56 ⟨Nat.zero_le _, Nat.zero_le _⟩) hS (fun H_16 lo_17 hX hS => ?_)
          refine lv_goto (tgt := 64) hx hb dX7_best_59 (by decide) ?_
          rw [← hQ]
          refine x_iret (v := sumN (fun m => sGr nw n m (tn q) w (sBest nw n (tn q) w) hNo) n) hx hb hr hX hS hlocks dX7_best_64 ?_
          show PT_X7_best _ _ _ _ _ _ _ _
          unfold PT_X7_best
          rw [if_pos c_3, if_neg (ne_of_true c_6), if_pos c_9, if_pos c_15]
          exact ⟨rfl, hof⟩
      · refine lv_ldc (v := (-1000001)) hx hb hown (hts _ kX7_best_59) dX7_best_30 ?_
        rw [← hQ]
        refine x_iret (v := (-1000001)) hx hb hr hX hS hlocks dX7_best_32 ?_
        show PT_X7_best _ _ _ _ _ _ _ _
        unfold PT_X7_best
        rw [if_pos c_3, if_neg (ne_of_true c_6), if_neg (ne_of_false c_9)]
        exact ⟨rfl, rfl⟩
  · refine lv_ldc (v := (-1000002)) hx hb hown (hts _ kX7_best_155) dX7_best_10 ?_
    rw [← hQ]
    refine x_iret (v := (-1000002)) hx hb hr hX hS hlocks dX7_best_12 ?_
    show PT_X7_best _ _ _ _ _ _ _ _
    unfold PT_X7_best
    rw [if_neg (ne_of_true c_3)]
    exact ⟨rfl, rfl⟩

def PT_X7_part (x : Mem) (q : Int32) (w : Int32) (m : Int32) (n : Nat) (nw : Nat → Int32) (r : Int32) (u : Mem) : Prop := (if ((decide (0 ≤ q) && decide (q ≤ 3)) && (decide (0 ≤ w) && decide (w ≤ 100))) = false then (r = (-1000001) ∧ u = x) else (if (decide (0 ≤ m) && decide (m < x 5 1)) = true then (if 0 ≤ (sRest nw n (tn q) w n) then (if m = 0 then (r = sLoss nw n (tn m) (tn q) w (sBest nw n (tn q) w) + sRest nw n (tn q) w n ∧ offQ (tn q) x u) else (r = sLoss nw n (tn m) (tn q) w (sBest nw n (tn q) w) ∧ offQ (tn q) x u)) else (r = -1000000 ∧ offQ (tn q) x u)) else (r = (-1000001) ∧ u = x)))
theorem kX7_part_59 : (.constant RX7 59 (-1000001) : Cond) ∈ wsX7_part := by decide +kernel
theorem kX7_part_25 : (.fieldLink RX7 25 "WindTaken" "ridge" "LWindTaken$Ridge;" : Cond) ∈ wsX7_part := by decide +kernel
theorem iX7_part_X7 : ∀ w ∈ wsX70, w ∈ wsX7_part := by decide +kernel
theorem kX7_part_129 : (.fieldLink RX7 129 "WindTaken$Ridge" "count" "I" : Cond) ∈ wsX7_part := by decide +kernel
theorem iX7_part_X3 : ∀ w ∈ wsX30, w ∈ wsX7_part := by decide +kernel
theorem kX7_part_224 : (.constant RX7 224 (-1000000) : Cond) ∈ wsX7_part := by decide +kernel
abbrev rmX7_part : Room := { frames := 6, cells := 0, slots := 0, locals := 136 }
set_option maxHeartbeats 4000000 in
set_option maxRecDepth 100000 in
theorem c_X7_part (l : Launch) (G : GG) (B : Nat) (tt : Nat → Nat) (hW : WOK (wX G B tt)) (x : Mem) (q : Int32) (w : Int32) (m : Int32) {n : Nat} {nw : Nat → Int32} (hR : RR n x 5 nw) : Met l yX7_part wsX7_part rmX7_part (XP G (wX G B tt) [.ref (B + (0)), .int (q), .int (w), .int (m)] x) (va_Qi (fun r u => PT_X7_part x q w m n nw r u) (XB G (wX G B tt)) (blkA B (B + 117))) 0 0 (blkA B (B + 117)) := by
  refine Met.ofW (cc := cX7_part) (maxL := 8) (ret := (some .int)) (by decide) rfl ?_
  intro pp ee ss mm aa bb mt cd s1 Bd hml hv
  obtain ⟨hae, hX, hK, hE⟩ := hv
  have hx := Bd.exec
  have hb := Bd.bytes
  have hr := Bd.returns
  have hts := atoms_spec (ws := wsX7_part) Bd.pre
  have hown : ss.vm.findClass RX7 = some mm.cls := findClass_of_methodNamed Bd.named
  have hlocks := Bd.notSynchronized
  have hS : va_S (blkA B (B + 117)) ss.heap ss.heap [] := va_S.rf
  have hl := lv_entry ([.ref (B + (0)), .int (q), .int (w), .int (m)]) (n := 8) (Nat.le_of_ble_eq_true rfl)
  subst hae
  rw [lg_entry_eq]
  generalize (lg_sl ([.ref (B + (0)), .int (q), .int (w), .int (m)]) ++ List.replicate (8 - (lg_sl ([.ref (B + (0)), .int (q), .int (w), .int (m)])).length) Slot.unset).toArray = ls at hl ⊢
  have hl : lv_has ls 8 [(0, .ref (B + (0))), (1, .int (q)), (2, .int (w)), (3, .int (m))] := hl
  generalize ([.ref (B + (0)), .int (q), .int (w), .int (m)] : List Value).toArray = aa at hts ⊢
  show W pp l ee rmX7_part ss mm aa bb mt cd ss.heap [] 0 0 _ (F0 mm 0 ls [])
  generalize hQ : MQ bb (va_Qi (fun r u => PT_X7_part x q w m n nw r u) (XB G (wX G B tt)) (blkA B (B + 117))) aa ss 0 0 (blkA B (B + 117)) = Q
  have hn8 := hR.1
  refine lv_iload_n hx hb dX7_part_0 rfl (lv_at hl 1 rfl) ?_
  refine lv_iload_n hx hb dX7_part_1 rfl (lv_at hl 2 rfl) ?_
  refine x_ip (w := (wX G B tt)) (x := x) (v := bI ((decide (0 ≤ q) && decide (q ≤ 3)) && (decide (0 ≤ w) && decide (w ≤ 100)))) (va_runS (As := [.int (q), .int (w)]) (rest := []) ⟨hx, hb, hml, hown, hts⟩ (c_X7_isWind (l := l) (G := G) (B := B) (tt := tt) (hW := hW) (x := x) (q := q) (v := w)) (va_cwS 2 hts gX7_part_X7_isWind rfl rfl rfl (by decide +kernel) ⟨Nat.le_of_ble_eq_true rfl, Nat.le_of_ble_eq_true rfl⟩) (x_ps (w := (wX G B tt)) hW hX hK hE hS [.int (q), .int (w)]) rfl rfl hl.1 rfl (lv_room (Nat.le_of_ble_eq_true rfl)) dX7_part_2 ⟨Nat.zero_le _, Nat.zero_le _⟩) hS (fun H_1 lo_2 hX hS => ?_)
  refine x_ifeq (tgt := 19) hx hb dX7_part_5 (by decide) (fun c_3 => ?_) (fun c_3 => ?_)
  · refine lv_ldc (v := (-1000001)) hx hb hown (hts _ kX7_part_59) dX7_part_19 ?_
    rw [← hQ]
    refine x_iret (v := (-1000001)) hx hb hr hX hS hlocks dX7_part_21 ?_
    show PT_X7_part _ _ _ _ _ _ _ _
    unfold PT_X7_part
    rw [if_pos c_3]
    exact ⟨rfl, rfl⟩
  · obtain ⟨hqe, hq4⟩ := windQ c_3
    refine lv_aload_n hx hb dX7_part_8 rfl (lv_at hl 0 rfl) ?_
    refine x_get (w := (wX G B tt)) (a := 0) (v := .ref (B + (5))) hx hb hts iX7_part_X7 hown hK hX (Nat.le_of_ble_eq_true rfl) (shX_mn (G := G) (B := B)) rfl 2 (by decide) (hts _ kX7_part_25) (fun _ h9 => h9) rfl dX7_part_9 ?_
    refine lv_iload_n hx hb dX7_part_12 rfl (lv_at hl 3 rfl) ?_
    refine x_ip (w := (wX G B tt)) (x := x) (v := bI (decide (0 ≤ m) && decide (m < x 5 1))) (va_runV (As := [.int (m)]) (rest := []) ⟨hx, hb, hml, hown, hts⟩ (c_X3_has (l := l) (G := G) (B := B) (tt := tt) (hW := hW) (x := x) (ρ := 5) (hρ := rg5) (v := m)) (cwV 1 hts gX7_part_X3_has rfl rfl rfl (by decide +kernel) ⟨Nat.le_of_ble_eq_true rfl, Nat.le_of_ble_eq_true rfl⟩) (x_pv (w := (wX G B tt)) (a := 5) hW hX hK hE hS [.int (m)] (rg_lt rg5) (shX_ri (G := G) (B := B) rg5) rfl) rfl rfl hl.1 rfl (lv_room (Nat.le_of_ble_eq_true rfl)) dX7_part_13 ⟨Nat.zero_le _, Nat.zero_le _⟩) hS (fun H_4 lo_5 hX hS => ?_)
    refine x_ifne (tgt := 22) hx hb dX7_part_16 (by decide) (fun c_6 => ?_) (fun c_6 => ?_)
    · obtain ⟨hme, hmn⟩ := hasM hR.cnt hn8 c_6
      refine lv_aload_n hx hb dX7_part_22 rfl (lv_at hl 0 rfl) ?_
      refine lv_iload_n hx hb dX7_part_23 rfl (lv_at hl 1 rfl) ?_
      refine lv_iload_n hx hb dX7_part_24 rfl (lv_at hl 2 rfl) ?_
      refine W.eq (g2 := F0 mm 25 ls [.int (w), .int (nI (tn q)), .ref (B + (0))]) (congrArg (fun z9 : Int32 => F0 mm 25 ls [.int (w), .int (z9), .ref (B + (0))]) hqe) ?_
      refine x_rf (w := (wX G B tt)) (va_runV (As := [.int (nI (tn q)), .int (w)]) (rest := []) ⟨hx, hb, hml, hown, hts⟩ (c_X7_windOf (l := l) (G := G) (B := B) (tt := tt) (hW := hW) (x := x) (q := tn q) (w := w) (n := n) (nw := nw) (hR := hR) (hq := (by omega))) (cwV 2 hts gX7_part_X7_windOf rfl rfl rfl (by decide +kernel) ⟨Nat.le_of_ble_eq_true rfl, Nat.le_of_ble_eq_true rfl⟩) (x_pv (w := (wX G B tt)) (a := 0) hW hX hK hE hS [.int (nI (tn q)), .int (w)] (Nat.le_of_ble_eq_true rfl) (shX_mn (G := G) (B := B)) rfl) rfl rfl hl.1 rfl (lv_room (Nat.le_of_ble_eq_true rfl)) dX7_part_25 ⟨Nat.zero_le _, Nat.zero_le _⟩) hS (fun x_9 H_7 lo_8 h_25 hX hS => ?_)
      try dsimp only at h_25
      obtain ⟨hof, hSV, hBL, hRq⟩ := h_25
      have hR1 := hR.off rc5 hof
      refine lv_astore (lv' := [(4, .ref (B + (65 + 13 * (tn q)))), (0, .ref (B + (0))), (1, .int (q)), (2, .int (w)), (3, .int (m))]) hx hb dX7_part_28 hl (by decide) rfl (fun ls hl => ?_)
      refine lv_aload hx hb dX7_part_30 (lv_at hl 0 rfl) ?_
      refine x_ip (w := (wX G B tt)) (x := x_9) (v := nI (sBest nw n (tn q) w)) (va_runV (As := []) (rest := []) ⟨hx, hb, hml, hown, hts⟩ (c_X1_bestSet (l := l) (G := G) (B := B) (tt := tt) (hW := hW) (x := x_9) (q := tn q) (hq := (by omega)) (n := n) (nw := nw) (w := w) (hRq := hRq) (hSV := hSV) (hBL := hBL)) (cwV 0 hts gX7_part_X1_bestSet rfl rfl rfl (by decide +kernel) ⟨Nat.le_of_ble_eq_true rfl, Nat.le_of_ble_eq_true rfl⟩) (x_pv (w := (wX G B tt)) (a := 65 + 13 * (tn q)) hW hX hK hE hS [] (qu_lt (by omega)) (shX_qu (G := G) (B := B) (by omega)) rfl) rfl rfl hl.1 rfl (lv_room (Nat.le_of_ble_eq_true rfl)) dX7_part_32 ⟨Nat.zero_le _, Nat.zero_le _⟩) hS (fun H_10 lo_11 hX hS => ?_)
      refine W.eq (g2 := F0 mm 35 ls [.int (nI (sBest nw n (tn q) w))]) (congrArg (fun z9 : Int32 => F0 mm 35 ls [.int (z9)]) rfl) ?_
      refine lv_istore (lv' := [(5, .int (nI (sBest nw n (tn q) w))), (4, .ref (B + (65 + 13 * (tn q)))), (0, .ref (B + (0))), (1, .int (q)), (2, .int (w)), (3, .int (m))]) hx hb dX7_part_35 hl (by decide) rfl (fun ls hl => ?_)
      refine lv_aload hx hb dX7_part_37 (lv_at hl 1 rfl) ?_
      refine lv_iload hx hb dX7_part_39 (lv_at hl 0 rfl) ?_
      refine x_ip (w := (wX G B tt)) (x := x_9) (v := sumN (fun m => sGr nw n m (tn q) w (sBest nw n (tn q) w) hNo) n) (va_runV (As := [.int (nI (sBest nw n (tn q) w))]) (rest := []) ⟨hx, hb, hml, hown, hts⟩ (c_X1_madeBy (l := l) (G := G) (B := B) (tt := tt) (hW := hW) (x := x_9) (q := tn q) (hq := (by omega)) (s := sBest nw n (tn q) w) (n := n) (nw := nw) (h := hNo) (w := w) (hRq := hRq) (hSV := hSV) (hBL := hBL)) (cwV 1 hts gX7_part_X1_madeBy rfl rfl rfl (by decide +kernel) ⟨Nat.le_of_ble_eq_true rfl, Nat.le_of_ble_eq_true rfl⟩) (x_pv (w := (wX G B tt)) (a := 65 + 13 * (tn q)) hW hX hK hE hS [.int (nI (sBest nw n (tn q) w))] (qu_lt (by omega)) (shX_qu (G := G) (B := B) (by omega)) rfl) rfl rfl hl.1 rfl (lv_room (Nat.le_of_ble_eq_true rfl)) dX7_part_41 ⟨Nat.zero_le _, Nat.zero_le _⟩) hS (fun H_12 lo_13 hX hS => ?_)
      refine lv_aload hx hb dX7_part_44 (lv_at hl 1 rfl) ?_
      refine lv_iconst (v := 0) hx hb dX7_part_46 (by decide) ?_
      refine x_ip (w := (wX G B tt)) (x := x_9) (v := sumN (fun m => sGr nw n m (tn q) w 0 hNo) n) (va_runV (As := [.int (0)]) (rest := [.int (sumN (fun m => sGr nw n m (tn q) w (sBest nw n (tn q) w) hNo) n)]) ⟨hx, hb, hml, hown, hts⟩ (c_X1_madeBy (l := l) (G := G) (B := B) (tt := tt) (hW := hW) (x := x_9) (q := tn q) (hq := (by omega)) (s := 0) (n := n) (nw := nw) (h := hNo) (w := w) (hRq := hRq) (hSV := hSV) (hBL := hBL)) (cwV 1 hts gX7_part_X1_madeBy rfl rfl rfl (by decide +kernel) ⟨Nat.le_of_ble_eq_true rfl, Nat.le_of_ble_eq_true rfl⟩) (x_pv (w := (wX G B tt)) (a := 65 + 13 * (tn q)) hW hX hK hE hS [.int (0)] (qu_lt (by omega)) (shX_qu (G := G) (B := B) (by omega)) rfl) rfl rfl hl.1 rfl (lv_room (Nat.le_of_ble_eq_true rfl)) dX7_part_47 ⟨Nat.zero_le _, Nat.zero_le _⟩) hS (fun H_14 lo_15 hX hS => ?_)
      refine lv_isub hx hb dX7_part_50 ?_
      refine lv_istore (lv' := [(6, .int ((sumN (fun m => sGr nw n m (tn q) w (sBest nw n (tn q) w) hNo) n) - (sumN (fun m => sGr nw n m (tn q) w 0 hNo) n))), (5, .int (nI (sBest nw n (tn q) w))), (4, .ref (B + (65 + 13 * (tn q)))), (0, .ref (B + (0))), (1, .int (q)), (2, .int (w)), (3, .int (m))]) hx hb dX7_part_51 hl (by decide) rfl (fun ls hl => ?_)
      refine lv_iconst (v := 0) hx hb dX7_part_53 (by decide) ?_
      refine lv_istore (lv' := [(7, .int (0)), (6, .int ((sumN (fun m => sGr nw n m (tn q) w (sBest nw n (tn q) w) hNo) n) - (sumN (fun m => sGr nw n m (tn q) w 0 hNo) n))), (5, .int (nI (sBest nw n (tn q) w))), (4, .ref (B + (65 + 13 * (tn q)))), (0, .ref (B + (0))), (1, .int (q)), (2, .int (w)), (3, .int (m))]) hx hb dX7_part_54 hl (by decide) rfl (fun ls hl => ?_)
      have L_16 : ∀ (n9 : Nat) (i : Nat) (sm : Int32)  (_ : n9 = n - i) (_ : i ≤ n ∧ sm = sRest nw n (tn q) w i) (H_17 : Heap) (lo_18 : List Loc) (_ : MR G (wX G B tt) x_9 H_17) (_ : va_S (blkA B (B + 117)) ss.heap H_17 lo_18) (ls : Array Slot) (_ : lv_has ls 8 [(7, .int (nI i)), (6, .int (sm)), (5, .int (nI (sBest nw n (tn q) w))), (4, .ref (B + (65 + 13 * (tn q)))), (0, .ref (B + (0))), (1, .int (q)), (2, .int (w)), (3, .int (m))]), W pp l ee rmX7_part ss mm aa bb mt cd H_17 lo_18 0 0 Q (F0 mm 56 ls []) := by
        intro n9
        induction n9 using Nat.strongRecOn with
        | _ n9 ih => 
          have ih_56 := ih
          intro i sm hn9 hI H_17 lo_18 hX hS ls hl
          obtain ⟨hi, hsm⟩ := hI
          refine lv_iload hx hb dX7_part_56 (lv_at hl 0 rfl) ?_
          refine lv_aload_n hx hb dX7_part_58 rfl (lv_at hl 4 rfl) ?_
          refine x_get (w := (wX G B tt)) (a := 0) (v := .ref (B + (5))) hx hb hts iX7_part_X7 hown hK hX (Nat.le_of_ble_eq_true rfl) (shX_mn (G := G) (B := B)) rfl 2 (by decide) (hts _ kX7_part_25) (fun _ h9 => h9) rfl dX7_part_59 ?_
          refine x_get (w := (wX G B tt)) (a := 5) (v := .int (x_9 (5) 1)) hx hb hts iX7_part_X3 hown hK hX (rg_lt rg5) (shX_ri (G := G) (B := B) rg5) rfl 1 (by decide) (hts _ kX7_part_129) (fun _ h9 => h9) rfl dX7_part_62 ?_
          refine lv_icmp_ge (tgt := 88) hx hb dX7_part_65 (by decide) (fun c_19 => ?_) (fun c_19 => ?_)
          · have nc_19 := (n_le (a := n) (b := i) hR1.cnt rfl (by omega) (by omega)).mp c_19
            have e9 : n = i := by omega
            subst e9
            subst hsm
            refine lv_iload hx hb dX7_part_88 (lv_at hl 1 rfl) ?_
            refine lv_if_ge (tgt := 96) hx hb dX7_part_90 (by decide) (fun c_20 => ?_) (fun c_20 => ?_)
            · refine lv_aload hx hb dX7_part_96 (lv_at hl 3 rfl) ?_
              refine lv_iload_n hx hb dX7_part_98 rfl (lv_at hl 7 rfl) ?_
              refine lv_iload hx hb dX7_part_99 (lv_at hl 2 rfl) ?_
              refine W.eq (g2 := F0 mm 101 ls [.int (nI (sBest nw n (tn q) w)), .int (nI (tn m)), .ref (B + (65 + 13 * (tn q)))]) (congrArg (fun z9 : Int32 => F0 mm 101 ls [.int (nI (sBest nw n (tn q) w)), .int (z9), .ref (B + (65 + 13 * (tn q)))]) hme) ?_
              refine x_ip (w := (wX G B tt)) (x := x_9) (v := jmax (sGr nw n (tn m) (tn q) w 0 hNo - sGr nw n (tn m) (tn q) w (sBest nw n (tn q) w) hNo) 0) (va_runV (As := [.int (nI (tn m)), .int (nI (sBest nw n (tn q) w))]) (rest := []) ⟨hx, hb, hml, hown, hts⟩ (c_X1_lossBy (l := l) (G := G) (B := B) (tt := tt) (hW := hW) (x := x_9) (q := tn q) (hq := (by omega)) (m := tn m) (s := sBest nw n (tn q) w) (n := n) (nw := nw) (h := hNo) (w := w) (hRq := hRq) (hSV := hSV) (hBL := hBL) (hm := (by omega))) (cwV 2 hts gX7_part_X1_lossBy rfl rfl rfl (by decide +kernel) ⟨Nat.le_of_ble_eq_true rfl, Nat.le_of_ble_eq_true rfl⟩) (x_pv (w := (wX G B tt)) (a := 65 + 13 * (tn q)) hW hX hK hE hS [.int (nI (tn m)), .int (nI (sBest nw n (tn q) w))] (qu_lt (by omega)) (shX_qu (G := G) (B := B) (by omega)) rfl) rfl rfl hl.1 rfl (lv_room (Nat.le_of_ble_eq_true rfl)) dX7_part_101 ⟨Nat.zero_le _, Nat.zero_le _⟩) hS (fun H_21 lo_22 hX hS => ?_)
              refine lv_istore (lv' := [(7, .int (jmax (sGr nw n (tn m) (tn q) w 0 hNo - sGr nw n (tn m) (tn q) w (sBest nw n (tn q) w) hNo) 0)), (6, .int (sRest nw n (tn q) w n)), (5, .int (nI (sBest nw n (tn q) w))), (4, .ref (B + (65 + 13 * (tn q)))), (0, .ref (B + (0))), (1, .int (q)), (2, .int (w)), (3, .int (m))]) hx hb dX7_part_104 hl (by decide) rfl (fun ls hl => ?_)
              refine lv_iload_n hx hb dX7_part_106 rfl (lv_at hl 7 rfl) ?_
              refine lv_if_ne (tgt := 118) hx hb dX7_part_107 (by decide) (fun c_23 => ?_) (fun c_23 => ?_)
              · have nc_23 : ¬ (tn m) = 0 := fun q => c_23 ((n_eq (a := tn m) (b := 0) hme rfl (by omega) (by omega)).mpr q)
                refine lv_iload hx hb dX7_part_118 (lv_at hl 0 rfl) ?_
                rw [← hQ]
                refine x_iret (v := jmax (sGr nw n (tn m) (tn q) w 0 hNo - sGr nw n (tn m) (tn q) w (sBest nw n (tn q) w) hNo) 0) hx hb hr hX hS hlocks dX7_part_120 ?_
                show PT_X7_part _ _ _ _ _ _ _ _
                unfold PT_X7_part
                rw [if_neg (ne_of_true c_3), if_pos c_6, if_pos c_20, if_neg c_23]
                exact ⟨rfl, hof⟩
              · have nc_23 := (n_eq (a := tn m) (b := 0) hme rfl (by omega) (by omega)).mp c_23
                refine lv_iload hx hb dX7_part_110 (lv_at hl 0 rfl) ?_
                refine lv_iload hx hb dX7_part_112 (lv_at hl 1 rfl) ?_
                refine lv_iadd hx hb dX7_part_114 ?_
                refine lv_goto (tgt := 120) hx hb dX7_part_115 (by decide) ?_
                rw [← hQ]
                refine x_iret (v := (jmax (sGr nw n (tn m) (tn q) w 0 hNo - sGr nw n (tn m) (tn q) w (sBest nw n (tn q) w) hNo) 0) + (sRest nw n (tn q) w n)) hx hb hr hX hS hlocks dX7_part_120 ?_
                show PT_X7_part _ _ _ _ _ _ _ _
                unfold PT_X7_part
                rw [if_neg (ne_of_true c_3), if_pos c_6, if_pos c_20, if_pos c_23]
                exact ⟨rfl, hof⟩
            · refine lv_ldc (v := (-1000000)) hx hb hown (hts _ kX7_part_224) dX7_part_93 ?_
              rw [← hQ]
              refine x_iret (v := (-1000000)) hx hb hr hX hS hlocks dX7_part_95 ?_
              show PT_X7_part _ _ _ _ _ _ _ _
              unfold PT_X7_part
              rw [if_neg (ne_of_true c_3), if_pos c_6, if_neg c_20]
              exact ⟨rfl, hof⟩
          · have nc_19 := Nat.not_le.mp (fun q => c_19 ((n_le (a := n) (b := i) hR1.cnt rfl (by omega) (by omega)).mpr q))
            refine lv_iload hx hb dX7_part_68 (lv_at hl 1 rfl) ?_
            refine lv_aload hx hb dX7_part_70 (lv_at hl 3 rfl) ?_
            refine lv_iload hx hb dX7_part_72 (lv_at hl 0 rfl) ?_
            refine lv_iload hx hb dX7_part_74 (lv_at hl 2 rfl) ?_
            refine x_ip (w := (wX G B tt)) (x := x_9) (v := jmax (sGr nw n i (tn q) w 0 hNo - sGr nw n i (tn q) w (sBest nw n (tn q) w) hNo) 0) (va_runV (As := [.int (nI i), .int (nI (sBest nw n (tn q) w))]) (rest := [.int (sm)]) ⟨hx, hb, hml, hown, hts⟩ (c_X1_lossBy (l := l) (G := G) (B := B) (tt := tt) (hW := hW) (x := x_9) (q := tn q) (hq := (by omega)) (m := i) (s := sBest nw n (tn q) w) (n := n) (nw := nw) (h := hNo) (w := w) (hRq := hRq) (hSV := hSV) (hBL := hBL) (hm := (by omega))) (cwV 2 hts gX7_part_X1_lossBy rfl rfl rfl (by decide +kernel) ⟨Nat.le_of_ble_eq_true rfl, Nat.le_of_ble_eq_true rfl⟩) (x_pv (w := (wX G B tt)) (a := 65 + 13 * (tn q)) hW hX hK hE hS [.int (nI i), .int (nI (sBest nw n (tn q) w))] (qu_lt (by omega)) (shX_qu (G := G) (B := B) (by omega)) rfl) rfl rfl hl.1 rfl (lv_room (Nat.le_of_ble_eq_true rfl)) dX7_part_76 ⟨Nat.zero_le _, Nat.zero_le _⟩) hS (fun H_24 lo_25 hX hS => ?_)
            refine lv_isub hx hb dX7_part_79 ?_
            refine lv_istore (lv' := [(6, .int (sm - (jmax (sGr nw n i (tn q) w 0 hNo - sGr nw n i (tn q) w (sBest nw n (tn q) w) hNo) 0))), (7, .int (nI i)), (5, .int (nI (sBest nw n (tn q) w))), (4, .ref (B + (65 + 13 * (tn q)))), (0, .ref (B + (0))), (1, .int (q)), (2, .int (w)), (3, .int (m))]) hx hb dX7_part_80 hl (by decide) rfl (fun ls hl => ?_)
            refine lv_iinc (v := nI (i + 1)) (lv' := [(7, .int (nI (i + 1))), (6, .int (sm - (jmax (sGr nw n i (tn q) w 0 hNo - sGr nw n i (tn q) w (sBest nw n (tn q) w) hNo) 0))), (5, .int (nI (sBest nw n (tn q) w))), (4, .ref (B + (65 + 13 * (tn q)))), (0, .ref (B + (0))), (1, .int (q)), (2, .int (w)), (3, .int (m))]) hx hb dX7_part_82 hl (k := 1) rfl (inc_nI _) (by decide) rfl (fun ls hl => ?_)
            refine lv_goto (tgt := 56) hx hb dX7_part_85 (by decide) ?_
            exact ih_56 _ (by omega) (i + 1) (sm - (jmax (sGr nw n i (tn q) w 0 hNo - sGr nw n i (tn q) w (sBest nw n (tn q) w) hNo) 0)) rfl ⟨by omega, by rw [hsm]; rfl⟩ _ _ hX hS ls (lv_sub hl [0, 1, 2, 3, 4, 5, 6, 7] rfl)
      exact L_16 _ (0) ((sumN (fun m => sGr nw n m (tn q) w (sBest nw n (tn q) w) hNo) n) - (sumN (fun m => sGr nw n m (tn q) w 0 hNo) n)) rfl ⟨Nat.zero_le _, rfl⟩ _ _ hX hS ls (lv_sub hl [0, 1, 2, 3, 4, 5, 6, 7] rfl)
    · refine lv_ldc (v := (-1000001)) hx hb hown (hts _ kX7_part_59) dX7_part_19 ?_
      rw [← hQ]
      refine x_iret (v := (-1000001)) hx hb hr hX hS hlocks dX7_part_21 ?_
      show PT_X7_part _ _ _ _ _ _ _ _
      unfold PT_X7_part
      rw [if_neg (ne_of_true c_3), if_neg (ne_of_false c_6)]
      exact ⟨rfl, rfl⟩

def PT_X7_still (x : Mem) (q : Int32) (w : Int32) (a : Int32) (b2 : Int32) (wh : Int32) (n : Nat) (nw : Nat → Int32) (r : Int32) (u : Mem) : Prop := (if ((decide (0 ≤ q) && decide (q ≤ 3)) && (decide (0 ≤ w) && decide (w ≤ 100))) = false then (r = (-1000001) ∧ u = x) else (if (decide (0 ≤ a) && decide (a < x 5 1)) = false then (r = (-1000001) ∧ u = x) else (if (decide (0 ≤ b2) && decide (b2 < x 5 1)) = false then (r = (-1000001) ∧ u = x) else (if a = b2 then (r = (-1000001) ∧ u = x) else (if (decide (((0 : Int32)) ≤ wh) && decide (wh ≤ ((2 : Int32)))) = true then (if wh = 0 then (r = sGain nw n (tn b2) (tn q) w (2 ^ tn a) ∧ offQ (tn q) x u) else (if wh = 1 then (r = sLoss nw n (tn a) (tn q) w (2 ^ tn a) ∧ offQ (tn q) x u) else (r = bI (decide (nw 4 ≤ sGain nw n (tn b2) (tn q) w (2 ^ tn a) - sLoss nw n (tn a) (tn q) w (2 ^ tn a))) ∧ offQ (tn q) x u))) else (r = (-1000001) ∧ u = x))))))
theorem kX7_still_59 : (.constant RX7 59 (-1000001) : Cond) ∈ wsX7_still := by decide +kernel
theorem kX7_still_25 : (.fieldLink RX7 25 "WindTaken" "ridge" "LWindTaken$Ridge;" : Cond) ∈ wsX7_still := by decide +kernel
theorem iX7_still_X7 : ∀ w ∈ wsX70, w ∈ wsX7_still := by decide +kernel
theorem kX7_still_228 : (.fieldLink RX7 228 "WindTaken$Ridge" "price" "I" : Cond) ∈ wsX7_still := by decide +kernel
theorem iX7_still_X3 : ∀ w ∈ wsX30, w ∈ wsX7_still := by decide +kernel
abbrev rmX7_still : Room := { frames := 5, cells := 0, slots := 0, locals := 117 }
set_option maxHeartbeats 4000000 in
set_option maxRecDepth 100000 in
theorem c_X7_still (l : Launch) (G : GG) (B : Nat) (tt : Nat → Nat) (hW : WOK (wX G B tt)) (x : Mem) (q : Int32) (w : Int32) (a : Int32) (b2 : Int32) (wh : Int32) {n : Nat} {nw : Nat → Int32} (hR : RR n x 5 nw) : Met l yX7_still wsX7_still rmX7_still (XP G (wX G B tt) [.ref (B + (0)), .int (q), .int (w), .int (a), .int (b2), .int (wh)] x) (va_Qi (fun r u => PT_X7_still x q w a b2 wh n nw r u) (XB G (wX G B tt)) (blkA B (B + 117))) 0 0 (blkA B (B + 117)) := by
  refine Met.ofW (cc := cX7_still) (maxL := 9) (ret := (some .int)) (by decide) rfl ?_
  intro pp ee ss mm aa bb mt cd s1 Bd hml hv
  obtain ⟨hae, hX, hK, hE⟩ := hv
  have hx := Bd.exec
  have hb := Bd.bytes
  have hr := Bd.returns
  have hts := atoms_spec (ws := wsX7_still) Bd.pre
  have hown : ss.vm.findClass RX7 = some mm.cls := findClass_of_methodNamed Bd.named
  have hlocks := Bd.notSynchronized
  have hS : va_S (blkA B (B + 117)) ss.heap ss.heap [] := va_S.rf
  have hl := lv_entry ([.ref (B + (0)), .int (q), .int (w), .int (a), .int (b2), .int (wh)]) (n := 9) (Nat.le_of_ble_eq_true rfl)
  subst hae
  rw [lg_entry_eq]
  generalize (lg_sl ([.ref (B + (0)), .int (q), .int (w), .int (a), .int (b2), .int (wh)]) ++ List.replicate (9 - (lg_sl ([.ref (B + (0)), .int (q), .int (w), .int (a), .int (b2), .int (wh)])).length) Slot.unset).toArray = ls at hl ⊢
  have hl : lv_has ls 9 [(0, .ref (B + (0))), (1, .int (q)), (2, .int (w)), (3, .int (a)), (4, .int (b2)), (5, .int (wh))] := hl
  generalize ([.ref (B + (0)), .int (q), .int (w), .int (a), .int (b2), .int (wh)] : List Value).toArray = aa at hts ⊢
  show W pp l ee rmX7_still ss mm aa bb mt cd ss.heap [] 0 0 _ (F0 mm 0 ls [])
  generalize hQ : MQ bb (va_Qi (fun r u => PT_X7_still x q w a b2 wh n nw r u) (XB G (wX G B tt)) (blkA B (B + 117))) aa ss 0 0 (blkA B (B + 117)) = Q
  have hn8 := hR.1
  refine lv_iload_n hx hb dX7_still_0 rfl (lv_at hl 1 rfl) ?_
  refine lv_iload_n hx hb dX7_still_1 rfl (lv_at hl 2 rfl) ?_
  refine x_ip (w := (wX G B tt)) (x := x) (v := bI ((decide (0 ≤ q) && decide (q ≤ 3)) && (decide (0 ≤ w) && decide (w ≤ 100)))) (va_runS (As := [.int (q), .int (w)]) (rest := []) ⟨hx, hb, hml, hown, hts⟩ (c_X7_isWind (l := l) (G := G) (B := B) (tt := tt) (hW := hW) (x := x) (q := q) (v := w)) (va_cwS 2 hts gX7_still_X7_isWind rfl rfl rfl (by decide +kernel) ⟨Nat.le_of_ble_eq_true rfl, Nat.le_of_ble_eq_true rfl⟩) (x_ps (w := (wX G B tt)) hW hX hK hE hS [.int (q), .int (w)]) rfl rfl hl.1 rfl (lv_room (Nat.le_of_ble_eq_true rfl)) dX7_still_2 ⟨Nat.zero_le _, Nat.zero_le _⟩) hS (fun H_1 lo_2 hX hS => ?_)
  refine x_ifeq (tgt := 47) hx hb dX7_still_5 (by decide) (fun c_3 => ?_) (fun c_3 => ?_)
  · refine lv_ldc (v := (-1000001)) hx hb hown (hts _ kX7_still_59) dX7_still_47 ?_
    rw [← hQ]
    refine x_iret (v := (-1000001)) hx hb hr hX hS hlocks dX7_still_49 ?_
    show PT_X7_still _ _ _ _ _ _ _ _ _ _
    unfold PT_X7_still
    rw [if_pos c_3]
    exact ⟨rfl, rfl⟩
  · obtain ⟨hqe, hq4⟩ := windQ c_3
    refine lv_aload_n hx hb dX7_still_8 rfl (lv_at hl 0 rfl) ?_
    refine x_get (w := (wX G B tt)) (a := 0) (v := .ref (B + (5))) hx hb hts iX7_still_X7 hown hK hX (Nat.le_of_ble_eq_true rfl) (shX_mn (G := G) (B := B)) rfl 2 (by decide) (hts _ kX7_still_25) (fun _ h9 => h9) rfl dX7_still_9 ?_
    refine lv_iload_n hx hb dX7_still_12 rfl (lv_at hl 3 rfl) ?_
    refine x_ip (w := (wX G B tt)) (x := x) (v := bI (decide (0 ≤ a) && decide (a < x 5 1))) (va_runV (As := [.int (a)]) (rest := []) ⟨hx, hb, hml, hown, hts⟩ (c_X3_has (l := l) (G := G) (B := B) (tt := tt) (hW := hW) (x := x) (ρ := 5) (hρ := rg5) (v := a)) (cwV 1 hts gX7_still_X3_has rfl rfl rfl (by decide +kernel) ⟨Nat.le_of_ble_eq_true rfl, Nat.le_of_ble_eq_true rfl⟩) (x_pv (w := (wX G B tt)) (a := 5) hW hX hK hE hS [.int (a)] (rg_lt rg5) (shX_ri (G := G) (B := B) rg5) rfl) rfl rfl hl.1 rfl (lv_room (Nat.le_of_ble_eq_true rfl)) dX7_still_13 ⟨Nat.zero_le _, Nat.zero_le _⟩) hS (fun H_4 lo_5 hX hS => ?_)
    refine x_ifeq (tgt := 47) hx hb dX7_still_16 (by decide) (fun c_6 => ?_) (fun c_6 => ?_)
    · refine lv_ldc (v := (-1000001)) hx hb hown (hts _ kX7_still_59) dX7_still_47 ?_
      rw [← hQ]
      refine x_iret (v := (-1000001)) hx hb hr hX hS hlocks dX7_still_49 ?_
      show PT_X7_still _ _ _ _ _ _ _ _ _ _
      unfold PT_X7_still
      rw [if_neg (ne_of_true c_3), if_pos c_6]
      exact ⟨rfl, rfl⟩
    · obtain ⟨hae, han⟩ := hasM hR.cnt hn8 c_6
      have hsa := shla hae (show tn a < 8 by omega)
      refine lv_aload_n hx hb dX7_still_19 rfl (lv_at hl 0 rfl) ?_
      refine x_get (w := (wX G B tt)) (a := 0) (v := .ref (B + (5))) hx hb hts iX7_still_X7 hown hK hX (Nat.le_of_ble_eq_true rfl) (shX_mn (G := G) (B := B)) rfl 2 (by decide) (hts _ kX7_still_25) (fun _ h9 => h9) rfl dX7_still_20 ?_
      refine lv_iload hx hb dX7_still_23 (lv_at hl 4 rfl) ?_
      refine x_ip (w := (wX G B tt)) (x := x) (v := bI (decide (0 ≤ b2) && decide (b2 < x 5 1))) (va_runV (As := [.int (b2)]) (rest := []) ⟨hx, hb, hml, hown, hts⟩ (c_X3_has (l := l) (G := G) (B := B) (tt := tt) (hW := hW) (x := x) (ρ := 5) (hρ := rg5) (v := b2)) (cwV 1 hts gX7_still_X3_has rfl rfl rfl (by decide +kernel) ⟨Nat.le_of_ble_eq_true rfl, Nat.le_of_ble_eq_true rfl⟩) (x_pv (w := (wX G B tt)) (a := 5) hW hX hK hE hS [.int (b2)] (rg_lt rg5) (shX_ri (G := G) (B := B) rg5) rfl) rfl rfl hl.1 rfl (lv_room (Nat.le_of_ble_eq_true rfl)) dX7_still_25 ⟨Nat.zero_le _, Nat.zero_le _⟩) hS (fun H_7 lo_8 hX hS => ?_)
      refine x_ifeq (tgt := 47) hx hb dX7_still_28 (by decide) (fun c_9 => ?_) (fun c_9 => ?_)
      · refine lv_ldc (v := (-1000001)) hx hb hown (hts _ kX7_still_59) dX7_still_47 ?_
        rw [← hQ]
        refine x_iret (v := (-1000001)) hx hb hr hX hS hlocks dX7_still_49 ?_
        show PT_X7_still _ _ _ _ _ _ _ _ _ _
        unfold PT_X7_still
        rw [if_neg (ne_of_true c_3), if_neg (ne_of_true c_6), if_pos c_9]
        exact ⟨rfl, rfl⟩
      · obtain ⟨hb2e, hb2n⟩ := hasM hR.cnt hn8 c_9
        refine lv_iload_n hx hb dX7_still_31 rfl (lv_at hl 3 rfl) ?_
        refine lv_iload hx hb dX7_still_32 (lv_at hl 4 rfl) ?_
        refine lv_icmp_eq (tgt := 47) hx hb dX7_still_34 (by decide) (fun c_10 => ?_) (fun c_10 => ?_)
        · have nc_10 := (n_eq (a := tn a) (b := tn b2) hae hb2e (by omega) (by omega)).mp c_10
          refine lv_ldc (v := (-1000001)) hx hb hown (hts _ kX7_still_59) dX7_still_47 ?_
          rw [← hQ]
          refine x_iret (v := (-1000001)) hx hb hr hX hS hlocks dX7_still_49 ?_
          show PT_X7_still _ _ _ _ _ _ _ _ _ _
          unfold PT_X7_still
          rw [if_neg (ne_of_true c_3), if_neg (ne_of_true c_6), if_neg (ne_of_true c_9), if_pos c_10]
          exact ⟨rfl, rfl⟩
        · have nc_10 : ¬ (tn a) = (tn b2) := fun q => c_10 ((n_eq (a := tn a) (b := tn b2) hae hb2e (by omega) (by omega)).mpr q)
          refine lv_iload hx hb dX7_still_37 (lv_at hl 5 rfl) ?_
          refine lv_iconst (v := 0) hx hb dX7_still_39 (by decide) ?_
          refine lv_iconst (v := 2) hx hb dX7_still_40 (by decide) ?_
          refine x_ip (w := (wX G B tt)) (x := x) (v := bI (decide (((0 : Int32)) ≤ wh) && decide (wh ≤ ((2 : Int32))))) (va_runS (As := [.int (wh), .int (0), .int (2)]) (rest := []) ⟨hx, hb, hml, hown, hts⟩ (c_X7_isWithin (l := l) (G := G) (B := B) (tt := tt) (hW := hW) (x := x) (v := wh) (lo := 0) (hi := 2)) (va_cwS 3 hts gX7_still_X7_isWithin rfl rfl rfl (by decide +kernel) ⟨Nat.le_of_ble_eq_true rfl, Nat.le_of_ble_eq_true rfl⟩) (x_ps (w := (wX G B tt)) hW hX hK hE hS [.int (wh), .int (0), .int (2)]) rfl rfl hl.1 rfl (lv_room (Nat.le_of_ble_eq_true rfl)) dX7_still_41 ⟨Nat.zero_le _, Nat.zero_le _⟩) hS (fun H_11 lo_12 hX hS => ?_)
          refine x_ifne (tgt := 50) hx hb dX7_still_44 (by decide) (fun c_13 => ?_) (fun c_13 => ?_)
          · refine lv_aload_n hx hb dX7_still_50 rfl (lv_at hl 0 rfl) ?_
            refine lv_iload_n hx hb dX7_still_51 rfl (lv_at hl 1 rfl) ?_
            refine lv_iload_n hx hb dX7_still_52 rfl (lv_at hl 2 rfl) ?_
            refine W.eq (g2 := F0 mm 53 ls [.int (w), .int (nI (tn q)), .ref (B + (0))]) (congrArg (fun z9 : Int32 => F0 mm 53 ls [.int (w), .int (z9), .ref (B + (0))]) hqe) ?_
            refine x_rf (w := (wX G B tt)) (va_runV (As := [.int (nI (tn q)), .int (w)]) (rest := []) ⟨hx, hb, hml, hown, hts⟩ (c_X7_windOf (l := l) (G := G) (B := B) (tt := tt) (hW := hW) (x := x) (q := tn q) (w := w) (n := n) (nw := nw) (hR := hR) (hq := (by omega))) (cwV 2 hts gX7_still_X7_windOf rfl rfl rfl (by decide +kernel) ⟨Nat.le_of_ble_eq_true rfl, Nat.le_of_ble_eq_true rfl⟩) (x_pv (w := (wX G B tt)) (a := 0) hW hX hK hE hS [.int (nI (tn q)), .int (w)] (Nat.le_of_ble_eq_true rfl) (shX_mn (G := G) (B := B)) rfl) rfl rfl hl.1 rfl (lv_room (Nat.le_of_ble_eq_true rfl)) dX7_still_53 ⟨Nat.zero_le _, Nat.zero_le _⟩) hS (fun x_16 H_14 lo_15 h_53 hX hS => ?_)
            try dsimp only at h_53
            obtain ⟨hof, hSV, hBL, hRq⟩ := h_53
            have hR1 := hR.off rc5 hof
            refine lv_astore (lv' := [(6, .ref (B + (65 + 13 * (tn q)))), (0, .ref (B + (0))), (1, .int (q)), (2, .int (w)), (3, .int (a)), (4, .int (b2)), (5, .int (wh))]) hx hb dX7_still_56 hl (by decide) rfl (fun ls hl => ?_)
            refine lv_aload hx hb dX7_still_58 (lv_at hl 0 rfl) ?_
            refine lv_iload hx hb dX7_still_60 (lv_at hl 5 rfl) ?_
            refine lv_iconst (v := 1) hx hb dX7_still_62 (by decide) ?_
            refine lv_iload_n hx hb dX7_still_63 rfl (lv_at hl 4 rfl) ?_
            refine lv_ishl hx hb dX7_still_64 ?_
            refine W.eq (g2 := F0 mm 65 ls [.int (1 <<< (a &&& 31)), .int (nI (tn b2)), .ref (B + (65 + 13 * (tn q)))]) (congrArg (fun z9 : Int32 => F0 mm 65 ls [.int (1 <<< (a &&& 31)), .int (z9), .ref (B + (65 + 13 * (tn q)))]) hb2e) ?_
            refine W.eq (g2 := F0 mm 65 ls [.int (nI (2 ^ tn a)), .int (nI (tn b2)), .ref (B + (65 + 13 * (tn q)))]) (congrArg (fun z9 : Int32 => F0 mm 65 ls [.int (z9), .int (nI (tn b2)), .ref (B + (65 + 13 * (tn q)))]) hsa) ?_
            refine x_ip (w := (wX G B tt)) (x := x_16) (v := jmax (sGr nw n (tn b2) (tn q) w (2 ^ tn a) hNo - sGr nw n (tn b2) (tn q) w 0 hNo) 0) (va_runV (As := [.int (nI (tn b2)), .int (nI (2 ^ tn a))]) (rest := []) ⟨hx, hb, hml, hown, hts⟩ (c_X1_gainBy (l := l) (G := G) (B := B) (tt := tt) (hW := hW) (x := x_16) (q := tn q) (hq := (by omega)) (m := tn b2) (s := 2 ^ tn a) (n := n) (nw := nw) (h := hNo) (w := w) (hRq := hRq) (hSV := hSV) (hBL := hBL) (hm := (by omega))) (cwV 2 hts gX7_still_X1_gainBy rfl rfl rfl (by decide +kernel) ⟨Nat.le_of_ble_eq_true rfl, Nat.le_of_ble_eq_true rfl⟩) (x_pv (w := (wX G B tt)) (a := 65 + 13 * (tn q)) hW hX hK hE hS [.int (nI (tn b2)), .int (nI (2 ^ tn a))] (qu_lt (by omega)) (shX_qu (G := G) (B := B) (by omega)) rfl) rfl rfl hl.1 rfl (lv_room (Nat.le_of_ble_eq_true rfl)) dX7_still_65 ⟨Nat.zero_le _, Nat.zero_le _⟩) hS (fun H_17 lo_18 hX hS => ?_)
            refine lv_istore (lv' := [(7, .int (jmax (sGr nw n (tn b2) (tn q) w (2 ^ tn a) hNo - sGr nw n (tn b2) (tn q) w 0 hNo) 0)), (6, .ref (B + (65 + 13 * (tn q)))), (0, .ref (B + (0))), (1, .int (q)), (2, .int (w)), (3, .int (a)), (4, .int (b2)), (5, .int (wh))]) hx hb dX7_still_68 hl (by decide) rfl (fun ls hl => ?_)
            refine lv_aload hx hb dX7_still_70 (lv_at hl 1 rfl) ?_
            refine lv_iload_n hx hb dX7_still_72 rfl (lv_at hl 5 rfl) ?_
            refine lv_iconst (v := 1) hx hb dX7_still_73 (by decide) ?_
            refine lv_iload_n hx hb dX7_still_74 rfl (lv_at hl 5 rfl) ?_
            refine lv_ishl hx hb dX7_still_75 ?_
            refine W.eq (g2 := F0 mm 76 ls [.int (1 <<< (a &&& 31)), .int (nI (tn a)), .ref (B + (65 + 13 * (tn q)))]) (congrArg (fun z9 : Int32 => F0 mm 76 ls [.int (1 <<< (a &&& 31)), .int (z9), .ref (B + (65 + 13 * (tn q)))]) hae) ?_
            refine W.eq (g2 := F0 mm 76 ls [.int (nI (2 ^ tn a)), .int (nI (tn a)), .ref (B + (65 + 13 * (tn q)))]) (congrArg (fun z9 : Int32 => F0 mm 76 ls [.int (z9), .int (nI (tn a)), .ref (B + (65 + 13 * (tn q)))]) hsa) ?_
            refine x_ip (w := (wX G B tt)) (x := x_16) (v := jmax (sGr nw n (tn a) (tn q) w 0 hNo - sGr nw n (tn a) (tn q) w (2 ^ tn a) hNo) 0) (va_runV (As := [.int (nI (tn a)), .int (nI (2 ^ tn a))]) (rest := []) ⟨hx, hb, hml, hown, hts⟩ (c_X1_lossBy (l := l) (G := G) (B := B) (tt := tt) (hW := hW) (x := x_16) (q := tn q) (hq := (by omega)) (m := tn a) (s := 2 ^ tn a) (n := n) (nw := nw) (h := hNo) (w := w) (hRq := hRq) (hSV := hSV) (hBL := hBL) (hm := (by omega))) (cwV 2 hts gX7_still_X1_lossBy rfl rfl rfl (by decide +kernel) ⟨Nat.le_of_ble_eq_true rfl, Nat.le_of_ble_eq_true rfl⟩) (x_pv (w := (wX G B tt)) (a := 65 + 13 * (tn q)) hW hX hK hE hS [.int (nI (tn a)), .int (nI (2 ^ tn a))] (qu_lt (by omega)) (shX_qu (G := G) (B := B) (by omega)) rfl) rfl rfl hl.1 rfl (lv_room (Nat.le_of_ble_eq_true rfl)) dX7_still_76 ⟨Nat.zero_le _, Nat.zero_le _⟩) hS (fun H_19 lo_20 hX hS => ?_)
            refine lv_istore (lv' := [(8, .int (jmax (sGr nw n (tn a) (tn q) w 0 hNo - sGr nw n (tn a) (tn q) w (2 ^ tn a) hNo) 0)), (7, .int (jmax (sGr nw n (tn b2) (tn q) w (2 ^ tn a) hNo - sGr nw n (tn b2) (tn q) w 0 hNo) 0)), (6, .ref (B + (65 + 13 * (tn q)))), (0, .ref (B + (0))), (1, .int (q)), (2, .int (w)), (3, .int (a)), (4, .int (b2)), (5, .int (wh))]) hx hb dX7_still_79 hl (by decide) rfl (fun ls hl => ?_)
            refine lv_iload hx hb dX7_still_81 (lv_at hl 8 rfl) ?_
            by_cases c_22 : wh = 0
            · subst c_22
              refine lv_lookup (tgt := 108) (off := 25) hx hb dX7_still_83 (by decide) (by decide) (by decide) ?_
              refine lv_iload hx hb dX7_still_108 (lv_at hl 1 rfl) ?_
              rw [← hQ]
              refine x_iret (v := jmax (sGr nw n (tn b2) (tn q) w (2 ^ tn a) hNo - sGr nw n (tn b2) (tn q) w 0 hNo) 0) hx hb hr hX hS hlocks dX7_still_110 ?_
              show PT_X7_still _ _ _ _ _ _ _ _ _ _
              unfold PT_X7_still
              rw [if_neg (ne_of_true c_3), if_neg (ne_of_true c_6), if_neg (ne_of_true c_9), if_neg c_10, if_pos c_13, if_pos rfl]
              exact ⟨rfl, hof⟩
            by_cases c_23 : wh = 1
            · subst c_23
              refine lv_lookup (tgt := 111) (off := 28) hx hb dX7_still_83 (by decide) (by decide) (by decide) ?_
              refine lv_iload hx hb dX7_still_111 (lv_at hl 0 rfl) ?_
              rw [← hQ]
              refine x_iret (v := jmax (sGr nw n (tn a) (tn q) w 0 hNo - sGr nw n (tn a) (tn q) w (2 ^ tn a) hNo) 0) hx hb hr hX hS hlocks dX7_still_113 ?_
              show PT_X7_still _ _ _ _ _ _ _ _ _ _
              unfold PT_X7_still
              rw [if_neg (ne_of_true c_3), if_neg (ne_of_true c_6), if_neg (ne_of_true c_9), if_neg c_10, if_pos c_13, if_neg (by decide), if_pos rfl]
              exact ⟨rfl, hof⟩
            refine lv_lookup (tgt := 114) (off := 31) hx hb dX7_still_83 (by decide) (by simp only [Op.lookupswitch.offset_cons, if_neg (lk_ne c_22 (k := 0) rfl), if_neg (lk_ne c_23 (k := 1) rfl)]; rfl) (by decide) ?_
            refine lv_iload hx hb dX7_still_114 (lv_at hl 1 rfl) ?_
            refine lv_iload hx hb dX7_still_116 (lv_at hl 0 rfl) ?_
            refine lv_isub hx hb dX7_still_118 ?_
            refine lv_aload_n hx hb dX7_still_119 rfl (lv_at hl 3 rfl) ?_
            refine x_get (w := (wX G B tt)) (a := 0) (v := .ref (B + (5))) hx hb hts iX7_still_X7 hown hK hX (Nat.le_of_ble_eq_true rfl) (shX_mn (G := G) (B := B)) rfl 2 (by decide) (hts _ kX7_still_25) (fun _ h9 => h9) rfl dX7_still_120 ?_
            refine x_get (w := (wX G B tt)) (a := 5) (v := .int (x_16 (5) 5)) hx hb hts iX7_still_X3 hown hK hX (rg_lt rg5) (shX_ri (G := G) (B := B) rg5) rfl 5 (by decide) (hts _ kX7_still_228) (fun _ h9 => h9) rfl dX7_still_123 ?_
            have kJ_26 : ∀ (v_25 : Bool) (_ : v_25 = (if ((jmax (sGr nw n (tn b2) (tn q) w (2 ^ tn a) hNo - sGr nw n (tn b2) (tn q) w 0 hNo) 0) - (jmax (sGr nw n (tn a) (tn q) w 0 hNo - sGr nw n (tn a) (tn q) w (2 ^ tn a) hNo) 0)) < (x_16 (5) 5) then false else true)) (H_27 : Heap) (lo_28 : List Loc) (_ : MR G (wX G B tt) x_16 H_27) (_ : va_S (blkA B (B + 117)) ss.heap H_27 lo_28) (ls : Array Slot) (_ : lv_has ls 9 [(8, .int (jmax (sGr nw n (tn a) (tn q) w 0 hNo - sGr nw n (tn a) (tn q) w (2 ^ tn a) hNo) 0)), (7, .int (jmax (sGr nw n (tn b2) (tn q) w (2 ^ tn a) hNo - sGr nw n (tn b2) (tn q) w 0 hNo) 0)), (6, .ref (B + (65 + 13 * (tn q)))), (0, .ref (B + (0))), (1, .int (q)), (2, .int (w)), (3, .int (a)), (4, .int (b2)), (5, .int (wh))]), W pp l ee rmX7_still ss mm aa bb mt cd H_27 lo_28 0 0 Q (F0 mm 134 ls [.int (bI (v_25))]) := by
              intro v_25 ev_25 H_27 lo_28 hX hS ls hl
              refine x_ip (w := (wX G B tt)) (x := x_16) (v := bI v_25) (va_runS (As := [.int (bI (v_25))]) (rest := []) ⟨hx, hb, hml, hown, hts⟩ (c_X7_bit (l := l) (G := G) (B := B) (tt := tt) (hW := hW) (x := x_16) (b := v_25)) (va_cwS 1 hts gX7_still_X7_bit rfl rfl rfl (by decide +kernel) ⟨Nat.le_of_ble_eq_true rfl, Nat.le_of_ble_eq_true rfl⟩) (x_ps (w := (wX G B tt)) hW hX hK hE hS [.int (bI (v_25))]) rfl rfl hl.1 rfl (lv_room (Nat.le_of_ble_eq_true rfl)) dX7_still_134 ⟨Nat.zero_le _, Nat.zero_le _⟩) hS (fun H_29 lo_30 hX hS => ?_)
              rw [← hQ]
              refine x_iret (v := bI v_25) hx hb hr hX hS hlocks dX7_still_137 ?_
              show PT_X7_still _ _ _ _ _ _ _ _ _ _
              unfold PT_X7_still
              rw [if_neg (ne_of_true c_3), if_neg (ne_of_true c_6), if_neg (ne_of_true c_9), if_neg c_10, if_pos c_13, if_neg c_22, if_neg c_23]
              exact ⟨by rw [ev_25, hR1.2.2.2.2.2.2.1, ltb]; rfl, hof⟩
            refine lv_icmp_lt (tgt := 133) hx hb dX7_still_126 (by decide) (fun c_24 => ?_) (fun c_24 => ?_)
            · refine lv_iconst (v := 0) hx hb dX7_still_133 (by decide) ?_
              exact kJ_26 (false) (by rw [if_pos c_24]) _ _ hX hS ls (lv_sub hl [0, 1, 2, 3, 4, 5, 6, 7, 8] rfl)
            · refine lv_iconst (v := 1) hx hb dX7_still_129 (by decide) ?_
              refine lv_goto (tgt := 134) hx hb dX7_still_130 (by decide) ?_
              exact kJ_26 (true) (by rw [if_neg c_24]) _ _ hX hS ls (lv_sub hl [0, 1, 2, 3, 4, 5, 6, 7, 8] rfl)
          · refine lv_ldc (v := (-1000001)) hx hb hown (hts _ kX7_still_59) dX7_still_47 ?_
            rw [← hQ]
            refine x_iret (v := (-1000001)) hx hb hr hX hS hlocks dX7_still_49 ?_
            show PT_X7_still _ _ _ _ _ _ _ _ _ _
            unfold PT_X7_still
            rw [if_neg (ne_of_true c_3), if_neg (ne_of_true c_6), if_neg (ne_of_true c_9), if_neg c_10, if_neg (ne_of_false c_13)]
            exact ⟨rfl, rfl⟩

def PT_X7_owes (x : Mem) (q : Int32) (w : Int32) (a : Int32) (b2 : Int32) (n : Nat) (nw : Nat → Int32) (r : Int32) (u : Mem) : Prop := (if ((decide (0 ≤ q) && decide (q ≤ 3)) && (decide (0 ≤ w) && decide (w ≤ 100))) = false then (r = (-1000001) ∧ u = x) else (if (decide (0 ≤ a) && decide (a < x 5 1)) = false then (r = (-1000001) ∧ u = x) else (if (decide (0 ≤ b2) && decide (b2 < x 5 1)) = false then (r = (-1000001) ∧ u = x) else (if a = b2 then (r = (-1000001) ∧ u = x) else (if ((decide (sF nw (tn a) 2 < sF nw (tn b2) 2))) = false then (r = 0 ∧ offQ (tn q) x u) else (if (sTakes nw (tn a) (tn q) 0 && sBehind nw (tn b2) (tn a) (tn q) hNo) = true then (r = nw 3 * sGain nw n (tn b2) (tn q) w (2 ^ tn a) / 100 ∧ offQ (tn q) x u) else (r = 0 ∧ offQ (tn q) x u)))))))
theorem kX7_owes_59 : (.constant RX7 59 (-1000001) : Cond) ∈ wsX7_owes := by decide +kernel
theorem kX7_owes_25 : (.fieldLink RX7 25 "WindTaken" "ridge" "LWindTaken$Ridge;" : Cond) ∈ wsX7_owes := by decide +kernel
theorem iX7_owes_X7 : ∀ w ∈ wsX70, w ∈ wsX7_owes := by decide +kernel
theorem kX7_owes_135 : (.fieldLink RX7 135 "WindTaken$Ridge" "mills" "[LWindTaken$Mill;" : Cond) ∈ wsX7_owes := by decide +kernel
theorem iX7_owes_X3 : ∀ w ∈ wsX30, w ∈ wsX7_owes := by decide +kernel
theorem kX7_owes_189 : (.fieldLink RX7 189 "WindTaken$Mill" "age" "I" : Cond) ∈ wsX7_owes := by decide +kernel
theorem iX7_owes_X0 : ∀ w ∈ wsX00, w ∈ wsX7_owes := by decide +kernel
theorem kX7_owes_241 : (.fieldLink RX7 241 "WindTaken$Ridge" "due" "I" : Cond) ∈ wsX7_owes := by decide +kernel
abbrev rmX7_owes : Room := { frames := 5, cells := 0, slots := 0, locals := 117 }
set_option maxHeartbeats 4000000 in
set_option maxRecDepth 100000 in
theorem c_X7_owes (l : Launch) (G : GG) (B : Nat) (tt : Nat → Nat) (hW : WOK (wX G B tt)) (x : Mem) (q : Int32) (w : Int32) (a : Int32) (b2 : Int32) {n : Nat} {nw : Nat → Int32} (hR : RR n x 5 nw) : Met l yX7_owes wsX7_owes rmX7_owes (XP G (wX G B tt) [.ref (B + (0)), .int (q), .int (w), .int (a), .int (b2)] x) (va_Qi (fun r u => PT_X7_owes x q w a b2 n nw r u) (XB G (wX G B tt)) (blkA B (B + 117))) 0 0 (blkA B (B + 117)) := by
  refine Met.ofW (cc := cX7_owes) (maxL := 7) (ret := (some .int)) (by decide) rfl ?_
  intro pp ee ss mm aa bb mt cd s1 Bd hml hv
  obtain ⟨hae, hX, hK, hE⟩ := hv
  have hx := Bd.exec
  have hb := Bd.bytes
  have hr := Bd.returns
  have hts := atoms_spec (ws := wsX7_owes) Bd.pre
  have hown : ss.vm.findClass RX7 = some mm.cls := findClass_of_methodNamed Bd.named
  have hlocks := Bd.notSynchronized
  have hS : va_S (blkA B (B + 117)) ss.heap ss.heap [] := va_S.rf
  have hl := lv_entry ([.ref (B + (0)), .int (q), .int (w), .int (a), .int (b2)]) (n := 7) (Nat.le_of_ble_eq_true rfl)
  subst hae
  rw [lg_entry_eq]
  generalize (lg_sl ([.ref (B + (0)), .int (q), .int (w), .int (a), .int (b2)]) ++ List.replicate (7 - (lg_sl ([.ref (B + (0)), .int (q), .int (w), .int (a), .int (b2)])).length) Slot.unset).toArray = ls at hl ⊢
  have hl : lv_has ls 7 [(0, .ref (B + (0))), (1, .int (q)), (2, .int (w)), (3, .int (a)), (4, .int (b2))] := hl
  generalize ([.ref (B + (0)), .int (q), .int (w), .int (a), .int (b2)] : List Value).toArray = aa at hts ⊢
  show W pp l ee rmX7_owes ss mm aa bb mt cd ss.heap [] 0 0 _ (F0 mm 0 ls [])
  generalize hQ : MQ bb (va_Qi (fun r u => PT_X7_owes x q w a b2 n nw r u) (XB G (wX G B tt)) (blkA B (B + 117))) aa ss 0 0 (blkA B (B + 117)) = Q
  have hn8 := hR.1
  refine lv_iload_n hx hb dX7_owes_0 rfl (lv_at hl 1 rfl) ?_
  refine lv_iload_n hx hb dX7_owes_1 rfl (lv_at hl 2 rfl) ?_
  refine x_ip (w := (wX G B tt)) (x := x) (v := bI ((decide (0 ≤ q) && decide (q ≤ 3)) && (decide (0 ≤ w) && decide (w ≤ 100)))) (va_runS (As := [.int (q), .int (w)]) (rest := []) ⟨hx, hb, hml, hown, hts⟩ (c_X7_isWind (l := l) (G := G) (B := B) (tt := tt) (hW := hW) (x := x) (q := q) (v := w)) (va_cwS 2 hts gX7_owes_X7_isWind rfl rfl rfl (by decide +kernel) ⟨Nat.le_of_ble_eq_true rfl, Nat.le_of_ble_eq_true rfl⟩) (x_ps (w := (wX G B tt)) hW hX hK hE hS [.int (q), .int (w)]) rfl rfl hl.1 rfl (lv_room (Nat.le_of_ble_eq_true rfl)) dX7_owes_2 ⟨Nat.zero_le _, Nat.zero_le _⟩) hS (fun H_1 lo_2 hX hS => ?_)
  refine x_ifeq (tgt := 37) hx hb dX7_owes_5 (by decide) (fun c_3 => ?_) (fun c_3 => ?_)
  · refine lv_ldc (v := (-1000001)) hx hb hown (hts _ kX7_owes_59) dX7_owes_37 ?_
    rw [← hQ]
    refine x_iret (v := (-1000001)) hx hb hr hX hS hlocks dX7_owes_39 ?_
    show PT_X7_owes _ _ _ _ _ _ _ _ _
    unfold PT_X7_owes
    rw [if_pos c_3]
    exact ⟨rfl, rfl⟩
  · obtain ⟨hqe, hq4⟩ := windQ c_3
    refine lv_aload_n hx hb dX7_owes_8 rfl (lv_at hl 0 rfl) ?_
    refine x_get (w := (wX G B tt)) (a := 0) (v := .ref (B + (5))) hx hb hts iX7_owes_X7 hown hK hX (Nat.le_of_ble_eq_true rfl) (shX_mn (G := G) (B := B)) rfl 2 (by decide) (hts _ kX7_owes_25) (fun _ h9 => h9) rfl dX7_owes_9 ?_
    refine lv_iload_n hx hb dX7_owes_12 rfl (lv_at hl 3 rfl) ?_
    refine x_ip (w := (wX G B tt)) (x := x) (v := bI (decide (0 ≤ a) && decide (a < x 5 1))) (va_runV (As := [.int (a)]) (rest := []) ⟨hx, hb, hml, hown, hts⟩ (c_X3_has (l := l) (G := G) (B := B) (tt := tt) (hW := hW) (x := x) (ρ := 5) (hρ := rg5) (v := a)) (cwV 1 hts gX7_owes_X3_has rfl rfl rfl (by decide +kernel) ⟨Nat.le_of_ble_eq_true rfl, Nat.le_of_ble_eq_true rfl⟩) (x_pv (w := (wX G B tt)) (a := 5) hW hX hK hE hS [.int (a)] (rg_lt rg5) (shX_ri (G := G) (B := B) rg5) rfl) rfl rfl hl.1 rfl (lv_room (Nat.le_of_ble_eq_true rfl)) dX7_owes_13 ⟨Nat.zero_le _, Nat.zero_le _⟩) hS (fun H_4 lo_5 hX hS => ?_)
    refine x_ifeq (tgt := 37) hx hb dX7_owes_16 (by decide) (fun c_6 => ?_) (fun c_6 => ?_)
    · refine lv_ldc (v := (-1000001)) hx hb hown (hts _ kX7_owes_59) dX7_owes_37 ?_
      rw [← hQ]
      refine x_iret (v := (-1000001)) hx hb hr hX hS hlocks dX7_owes_39 ?_
      show PT_X7_owes _ _ _ _ _ _ _ _ _
      unfold PT_X7_owes
      rw [if_neg (ne_of_true c_3), if_pos c_6]
      exact ⟨rfl, rfl⟩
    · obtain ⟨hae, han⟩ := hasM hR.cnt hn8 c_6
      have hsa := shla hae (show tn a < 8 by omega)
      refine lv_aload_n hx hb dX7_owes_19 rfl (lv_at hl 0 rfl) ?_
      refine x_get (w := (wX G B tt)) (a := 0) (v := .ref (B + (5))) hx hb hts iX7_owes_X7 hown hK hX (Nat.le_of_ble_eq_true rfl) (shX_mn (G := G) (B := B)) rfl 2 (by decide) (hts _ kX7_owes_25) (fun _ h9 => h9) rfl dX7_owes_20 ?_
      refine lv_iload hx hb dX7_owes_23 (lv_at hl 4 rfl) ?_
      refine x_ip (w := (wX G B tt)) (x := x) (v := bI (decide (0 ≤ b2) && decide (b2 < x 5 1))) (va_runV (As := [.int (b2)]) (rest := []) ⟨hx, hb, hml, hown, hts⟩ (c_X3_has (l := l) (G := G) (B := B) (tt := tt) (hW := hW) (x := x) (ρ := 5) (hρ := rg5) (v := b2)) (cwV 1 hts gX7_owes_X3_has rfl rfl rfl (by decide +kernel) ⟨Nat.le_of_ble_eq_true rfl, Nat.le_of_ble_eq_true rfl⟩) (x_pv (w := (wX G B tt)) (a := 5) hW hX hK hE hS [.int (b2)] (rg_lt rg5) (shX_ri (G := G) (B := B) rg5) rfl) rfl rfl hl.1 rfl (lv_room (Nat.le_of_ble_eq_true rfl)) dX7_owes_25 ⟨Nat.zero_le _, Nat.zero_le _⟩) hS (fun H_7 lo_8 hX hS => ?_)
      refine x_ifeq (tgt := 37) hx hb dX7_owes_28 (by decide) (fun c_9 => ?_) (fun c_9 => ?_)
      · refine lv_ldc (v := (-1000001)) hx hb hown (hts _ kX7_owes_59) dX7_owes_37 ?_
        rw [← hQ]
        refine x_iret (v := (-1000001)) hx hb hr hX hS hlocks dX7_owes_39 ?_
        show PT_X7_owes _ _ _ _ _ _ _ _ _
        unfold PT_X7_owes
        rw [if_neg (ne_of_true c_3), if_neg (ne_of_true c_6), if_pos c_9]
        exact ⟨rfl, rfl⟩
      · obtain ⟨hb2e, hb2n⟩ := hasM hR.cnt hn8 c_9
        refine lv_iload_n hx hb dX7_owes_31 rfl (lv_at hl 3 rfl) ?_
        refine lv_iload hx hb dX7_owes_32 (lv_at hl 4 rfl) ?_
        refine lv_icmp_ne (tgt := 40) hx hb dX7_owes_34 (by decide) (fun c_10 => ?_) (fun c_10 => ?_)
        · have nc_10 : ¬ (tn a) = (tn b2) := fun q => c_10 ((n_eq (a := tn a) (b := tn b2) hae hb2e (by omega) (by omega)).mpr q)
          refine lv_aload_n hx hb dX7_owes_40 rfl (lv_at hl 0 rfl) ?_
          refine lv_iload_n hx hb dX7_owes_41 rfl (lv_at hl 1 rfl) ?_
          refine lv_iload_n hx hb dX7_owes_42 rfl (lv_at hl 2 rfl) ?_
          refine W.eq (g2 := F0 mm 43 ls [.int (w), .int (nI (tn q)), .ref (B + (0))]) (congrArg (fun z9 : Int32 => F0 mm 43 ls [.int (w), .int (z9), .ref (B + (0))]) hqe) ?_
          refine x_rf (w := (wX G B tt)) (va_runV (As := [.int (nI (tn q)), .int (w)]) (rest := []) ⟨hx, hb, hml, hown, hts⟩ (c_X7_windOf (l := l) (G := G) (B := B) (tt := tt) (hW := hW) (x := x) (q := tn q) (w := w) (n := n) (nw := nw) (hR := hR) (hq := (by omega))) (cwV 2 hts gX7_owes_X7_windOf rfl rfl rfl (by decide +kernel) ⟨Nat.le_of_ble_eq_true rfl, Nat.le_of_ble_eq_true rfl⟩) (x_pv (w := (wX G B tt)) (a := 0) hW hX hK hE hS [.int (nI (tn q)), .int (w)] (Nat.le_of_ble_eq_true rfl) (shX_mn (G := G) (B := B)) rfl) rfl rfl hl.1 rfl (lv_room (Nat.le_of_ble_eq_true rfl)) dX7_owes_43 ⟨Nat.zero_le _, Nat.zero_le _⟩) hS (fun x_13 H_11 lo_12 h_43 hX hS => ?_)
          try dsimp only at h_43
          obtain ⟨hof, hSV, hBL, hRq⟩ := h_43
          have hR1 := hR.off rc5 hof
          refine lv_astore (lv' := [(5, .ref (B + (65 + 13 * (tn q)))), (0, .ref (B + (0))), (1, .int (q)), (2, .int (w)), (3, .int (a)), (4, .int (b2))]) hx hb dX7_owes_46 hl (by decide) rfl (fun ls hl => ?_)
          refine lv_aload_n hx hb dX7_owes_48 rfl (lv_at hl 1 rfl) ?_
          refine x_get (w := (wX G B tt)) (a := 0) (v := .ref (B + (5))) hx hb hts iX7_owes_X7 hown hK hX (Nat.le_of_ble_eq_true rfl) (shX_mn (G := G) (B := B)) rfl 2 (by decide) (hts _ kX7_owes_25) (fun _ h9 => h9) rfl dX7_owes_49 ?_
          refine x_get (w := (wX G B tt)) (a := 5) (v := .ref (B + (5 + 1))) hx hb hts iX7_owes_X3 hown hK hX (rg_lt rg5) (shX_ri (G := G) (B := B) rg5) rfl 0 (by decide) (hts _ kX7_owes_135) (fun _ h9 => h9) rfl dX7_owes_52 ?_
          refine lv_iload hx hb dX7_owes_55 (lv_at hl 5 rfl) ?_
          refine x_aald (w := (wX G B tt)) (a := 5 + 1) (n := 8) (j := tn b2) (q := B + (5 + 1 + 1 + (tn b2))) (t0 := 2) hx hb hK hX (rg_lt1 rg5) (shX_ma (G := G) (B := B) (f := x_13 (5 + 1)) rg5) rfl hb2e (by omega) (by decide) rfl dX7_owes_57 ?_
          refine x_get (w := (wX G B tt)) (a := 5 + 1 + 1 + (tn b2)) (v := .int (x_13 (5 + 1 + 1 + (tn b2)) 6)) hx hb hts iX7_owes_X0 hown hK hX (rg_ltm rg5 (by omega)) (shX_mi (G := G) (B := B) rg5 (by omega)) rfl 6 (by decide) (hts _ kX7_owes_189) (fun _ h9 => h9) rfl dX7_owes_58 ?_
          refine lv_aload_n hx hb dX7_owes_61 rfl (lv_at hl 1 rfl) ?_
          refine x_get (w := (wX G B tt)) (a := 0) (v := .ref (B + (5))) hx hb hts iX7_owes_X7 hown hK hX (Nat.le_of_ble_eq_true rfl) (shX_mn (G := G) (B := B)) rfl 2 (by decide) (hts _ kX7_owes_25) (fun _ h9 => h9) rfl dX7_owes_62 ?_
          refine x_get (w := (wX G B tt)) (a := 5) (v := .ref (B + (5 + 1))) hx hb hts iX7_owes_X3 hown hK hX (rg_lt rg5) (shX_ri (G := G) (B := B) rg5) rfl 0 (by decide) (hts _ kX7_owes_135) (fun _ h9 => h9) rfl dX7_owes_65 ?_
          refine lv_iload_n hx hb dX7_owes_68 rfl (lv_at hl 4 rfl) ?_
          refine x_aald (w := (wX G B tt)) (a := 5 + 1) (n := 8) (j := tn a) (q := B + (5 + 1 + 1 + (tn a))) (t0 := 2) hx hb hK hX (rg_lt1 rg5) (shX_ma (G := G) (B := B) (f := x_13 (5 + 1)) rg5) rfl hae (by omega) (by decide) rfl dX7_owes_69 ?_
          refine x_get (w := (wX G B tt)) (a := 5 + 1 + 1 + (tn a)) (v := .int (x_13 (5 + 1 + 1 + (tn a)) 6)) hx hb hts iX7_owes_X0 hown hK hX (rg_ltm rg5 (by omega)) (shX_mi (G := G) (B := B) rg5 (by omega)) rfl 6 (by decide) (hts _ kX7_owes_189) (fun _ h9 => h9) rfl dX7_owes_70 ?_
          have kJ_16 : ∀ (v_15 : Bool) (_ : v_15 = (if (x_13 (5 + 1 + 1 + (tn b2)) 6) ≤ (x_13 (5 + 1 + 1 + (tn a)) 6) then false else true)) (H_17 : Heap) (lo_18 : List Loc) (_ : MR G (wX G B tt) x_13 H_17) (_ : va_S (blkA B (B + 117)) ss.heap H_17 lo_18) (ls : Array Slot) (_ : lv_has ls 7 [(5, .ref (B + (65 + 13 * (tn q)))), (0, .ref (B + (0))), (1, .int (q)), (2, .int (w)), (3, .int (a)), (4, .int (b2))]), W pp l ee rmX7_owes ss mm aa bb mt cd H_17 lo_18 0 0 Q (F0 mm 81 ls [.int (bI (v_15))]) := by
            intro v_15 ev_15 H_17 lo_18 hX hS ls hl
            have hv : v_15 = decide (sF nw (tn a) 2 < sF nw (tn b2) 2) := by rw [ev_15, hR1.ag hb2n, hR1.ag han, leb]
            subst hv
            refine lv_istore (lv' := [(6, .int (bI ((decide (sF nw (tn a) 2 < sF nw (tn b2) 2))))), (5, .ref (B + (65 + 13 * (tn q)))), (0, .ref (B + (0))), (1, .int (q)), (2, .int (w)), (3, .int (a)), (4, .int (b2))]) hx hb dX7_owes_81 hl (by decide) rfl (fun ls hl => ?_)
            refine lv_iload hx hb dX7_owes_83 (lv_at hl 0 rfl) ?_
            refine x_ifeq (tgt := 99) hx hb dX7_owes_85 (by decide) (fun c_19 => ?_) (fun c_19 => ?_)
            · refine lv_iconst (v := 0) hx hb dX7_owes_99 (by decide) ?_
              rw [← hQ]
              refine x_iret (v := 0) hx hb hr hX hS hlocks dX7_owes_100 ?_
              show PT_X7_owes _ _ _ _ _ _ _ _ _
              unfold PT_X7_owes
              rw [if_neg (ne_of_true c_3), if_neg (ne_of_true c_6), if_neg (ne_of_true c_9), if_neg c_10, if_pos c_19]
              exact ⟨rfl, hof⟩
            · refine lv_aload hx hb dX7_owes_88 (lv_at hl 1 rfl) ?_
              refine lv_iload_n hx hb dX7_owes_90 rfl (lv_at hl 5 rfl) ?_
              refine lv_iload hx hb dX7_owes_91 (lv_at hl 6 rfl) ?_
              refine W.eq (g2 := F0 mm 93 ls [.int (b2), .int (nI (tn a)), .ref (B + (65 + 13 * (tn q)))]) (congrArg (fun z9 : Int32 => F0 mm 93 ls [.int (b2), .int (z9), .ref (B + (65 + 13 * (tn q)))]) hae) ?_
              refine W.eq (g2 := F0 mm 93 ls [.int (nI (tn b2)), .int (nI (tn a)), .ref (B + (65 + 13 * (tn q)))]) (congrArg (fun z9 : Int32 => F0 mm 93 ls [.int (z9), .int (nI (tn a)), .ref (B + (65 + 13 * (tn q)))]) hb2e) ?_
              refine x_ip (w := (wX G B tt)) (x := x_13) (v := bI (sTakes nw (tn a) (tn q) 0 && sBehind nw (tn b2) (tn a) (tn q) hNo)) (va_runV (As := [.int (nI (tn a)), .int (nI (tn b2))]) (rest := []) ⟨hx, hb, hml, hown, hts⟩ (c_X1_takesFrom (l := l) (G := G) (B := B) (tt := tt) (hW := hW) (x := x_13) (q := tn q) (hq := (by omega)) (a := tn a) (d := tn b2) (n := n) (nw := nw) (h := hNo) (w := w) (hn8 := hn8) (hSV := hSV) (hBL := hBL) (ha := (by omega)) (hd := (by omega))) (cwV 2 hts gX7_owes_X1_takesFrom rfl rfl rfl (by decide +kernel) ⟨Nat.le_of_ble_eq_true rfl, Nat.le_of_ble_eq_true rfl⟩) (x_pv (w := (wX G B tt)) (a := 65 + 13 * (tn q)) hW hX hK hE hS [.int (nI (tn a)), .int (nI (tn b2))] (qu_lt (by omega)) (shX_qu (G := G) (B := B) (by omega)) rfl) rfl rfl hl.1 rfl (lv_room (Nat.le_of_ble_eq_true rfl)) dX7_owes_93 ⟨Nat.zero_le _, Nat.zero_le _⟩) hS (fun H_20 lo_21 hX hS => ?_)
              refine x_ifne (tgt := 101) hx hb dX7_owes_96 (by decide) (fun c_22 => ?_) (fun c_22 => ?_)
              · refine lv_aload_n hx hb dX7_owes_101 rfl (lv_at hl 2 rfl) ?_
                refine x_get (w := (wX G B tt)) (a := 0) (v := .ref (B + (5))) hx hb hts iX7_owes_X7 hown hK hX (Nat.le_of_ble_eq_true rfl) (shX_mn (G := G) (B := B)) rfl 2 (by decide) (hts _ kX7_owes_25) (fun _ h9 => h9) rfl dX7_owes_102 ?_
                refine x_get (w := (wX G B tt)) (a := 5) (v := .int (x_13 (5) 4)) hx hb hts iX7_owes_X3 hown hK hX (rg_lt rg5) (shX_ri (G := G) (B := B) rg5) rfl 4 (by decide) (hts _ kX7_owes_241) (fun _ h9 => h9) rfl dX7_owes_105 ?_
                refine lv_aload hx hb dX7_owes_108 (lv_at hl 1 rfl) ?_
                refine lv_iload hx hb dX7_owes_110 (lv_at hl 6 rfl) ?_
                refine lv_iconst (v := 1) hx hb dX7_owes_112 (by decide) ?_
                refine lv_iload_n hx hb dX7_owes_113 rfl (lv_at hl 5 rfl) ?_
                refine lv_ishl hx hb dX7_owes_114 ?_
                refine W.eq (g2 := F0 mm 115 ls [.int (1 <<< (a &&& 31)), .int (nI (tn b2)), .ref (B + (65 + 13 * (tn q))), .int (x_13 (5) 4)]) (congrArg (fun z9 : Int32 => F0 mm 115 ls [.int (1 <<< (a &&& 31)), .int (z9), .ref (B + (65 + 13 * (tn q))), .int (x_13 (5) 4)]) hb2e) ?_
                refine W.eq (g2 := F0 mm 115 ls [.int (nI (2 ^ tn a)), .int (nI (tn b2)), .ref (B + (65 + 13 * (tn q))), .int (x_13 (5) 4)]) (congrArg (fun z9 : Int32 => F0 mm 115 ls [.int (z9), .int (nI (tn b2)), .ref (B + (65 + 13 * (tn q))), .int (x_13 (5) 4)]) hsa) ?_
                refine x_ip (w := (wX G B tt)) (x := x_13) (v := jmax (sGr nw n (tn b2) (tn q) w (2 ^ tn a) hNo - sGr nw n (tn b2) (tn q) w 0 hNo) 0) (va_runV (As := [.int (nI (tn b2)), .int (nI (2 ^ tn a))]) (rest := [.int (x_13 (5) 4)]) ⟨hx, hb, hml, hown, hts⟩ (c_X1_gainBy (l := l) (G := G) (B := B) (tt := tt) (hW := hW) (x := x_13) (q := tn q) (hq := (by omega)) (m := tn b2) (s := 2 ^ tn a) (n := n) (nw := nw) (h := hNo) (w := w) (hRq := hRq) (hSV := hSV) (hBL := hBL) (hm := (by omega))) (cwV 2 hts gX7_owes_X1_gainBy rfl rfl rfl (by decide +kernel) ⟨Nat.le_of_ble_eq_true rfl, Nat.le_of_ble_eq_true rfl⟩) (x_pv (w := (wX G B tt)) (a := 65 + 13 * (tn q)) hW hX hK hE hS [.int (nI (tn b2)), .int (nI (2 ^ tn a))] (qu_lt (by omega)) (shX_qu (G := G) (B := B) (by omega)) rfl) rfl rfl hl.1 rfl (lv_room (Nat.le_of_ble_eq_true rfl)) dX7_owes_115 ⟨Nat.zero_le _, Nat.zero_le _⟩) hS (fun H_23 lo_24 hX hS => ?_)
                refine lv_imul hx hb dX7_owes_118 ?_
                refine lv_bipush (v := 100) hx hb dX7_owes_119 (by decide) ?_
                refine lv_idiv hx hb dX7_owes_121 (by decide) ?_
                rw [← hQ]
                refine x_iret (v := ((x_13 (5) 4) * (jmax (sGr nw n (tn b2) (tn q) w (2 ^ tn a) hNo - sGr nw n (tn b2) (tn q) w 0 hNo) 0)) / 100) hx hb hr hX hS hlocks dX7_owes_122 ?_
                show PT_X7_owes _ _ _ _ _ _ _ _ _
                unfold PT_X7_owes
                rw [if_neg (ne_of_true c_3), if_neg (ne_of_true c_6), if_neg (ne_of_true c_9), if_neg c_10, if_neg (ne_of_true c_19), if_pos c_22]
                exact ⟨by rw [hR1.2.2.2.2.2.1]; rfl, hof⟩
              · refine lv_iconst (v := 0) hx hb dX7_owes_99 (by decide) ?_
                rw [← hQ]
                refine x_iret (v := 0) hx hb hr hX hS hlocks dX7_owes_100 ?_
                show PT_X7_owes _ _ _ _ _ _ _ _ _
                unfold PT_X7_owes
                rw [if_neg (ne_of_true c_3), if_neg (ne_of_true c_6), if_neg (ne_of_true c_9), if_neg c_10, if_neg (ne_of_true c_19), if_neg (ne_of_false c_22)]
                exact ⟨rfl, hof⟩
          refine lv_icmp_le (tgt := 80) hx hb dX7_owes_73 (by decide) (fun c_14 => ?_) (fun c_14 => ?_)
          · refine lv_iconst (v := 0) hx hb dX7_owes_80 (by decide) ?_
            exact kJ_16 (false) (by rw [if_pos c_14]) _ _ hX hS ls (lv_sub hl [0, 1, 2, 3, 4, 5] rfl)
          · refine lv_iconst (v := 1) hx hb dX7_owes_76 (by decide) ?_
            refine lv_goto (tgt := 81) hx hb dX7_owes_77 (by decide) ?_
            exact kJ_16 (true) (by rw [if_neg c_14]) _ _ hX hS ls (lv_sub hl [0, 1, 2, 3, 4, 5] rfl)
        · have nc_10 := (n_eq (a := tn a) (b := tn b2) hae hb2e (by omega) (by omega)).mp c_10
          refine lv_ldc (v := (-1000001)) hx hb hown (hts _ kX7_owes_59) dX7_owes_37 ?_
          rw [← hQ]
          refine x_iret (v := (-1000001)) hx hb hr hX hS hlocks dX7_owes_39 ?_
          show PT_X7_owes _ _ _ _ _ _ _ _ _
          unfold PT_X7_owes
          rw [if_neg (ne_of_true c_3), if_neg (ne_of_true c_6), if_neg (ne_of_true c_9), if_pos c_10]
          exact ⟨rfl, rfl⟩
