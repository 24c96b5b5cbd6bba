theorem kX3_flourInAll_18 : (.fieldLink RX3 18 "WindTaken$Ridge" "count" "I" : Cond) ∈ wsX3_flourInAll := by decide +kernel
theorem iX3_flourInAll_X3 : ∀ w ∈ wsX30, w ∈ wsX3_flourInAll := by decide +kernel
theorem kX3_flourInAll_11 : (.fieldLink RX3 11 "WindTaken$Ridge" "mills" "[LWindTaken$Mill;" : Cond) ∈ wsX3_flourInAll := by decide +kernel
theorem kX3_flourInAll_52 : (.fieldLink RX3 52 "WindTaken$Mill" "flour" "I" : Cond) ∈ wsX3_flourInAll := by decide +kernel
theorem iX3_flourInAll_X0 : ∀ w ∈ wsX00, w ∈ wsX3_flourInAll := by decide +kernel
abbrev rmX3_flourInAll : Room := { frames := 0, cells := 0, slots := 0, locals := 0 }
set_option maxHeartbeats 4000000 in
set_option maxRecDepth 100000 in
theorem c_X3_flourInAll (l : Launch) (G : GG) (B : Nat) (tt : Nat → Nat) (hW : WOK (wX G B tt)) (x : Mem) {n : Nat} {nw : Nat → Int32} (hR : RR n x 5 nw) : Met l yX3_flourInAll wsX3_flourInAll rmX3_flourInAll (XP G (wX G B tt) [.ref (B + (5))] x) (va_Qi (fun r u => r = (sumN (fun j => sF nw j 4) n) ∧ u = x) (XB G (wX G B tt)) (blkA B (B + 117))) 0 0 (blkA B (B + 117)) := by
  refine Met.ofW (cc := cX3_flourInAll) (maxL := 3) (ret := (some .int)) (by decide) rfl ?_
  intro pp ee ss mm aa bb mt cd s1 Bd hml hv
  obtain ⟨hae, hX, hK, hE⟩ := hv
  have hx := Bd.exec
  have hb := Bd.bytes
  have hr := Bd.returns
  have hts := atoms_spec (ws := wsX3_flourInAll) Bd.pre
  have hown : ss.vm.findClass RX3 = some mm.cls := findClass_of_methodNamed Bd.named
  have hlocks := Bd.notSynchronized
  have hS : va_S (blkA B (B + 117)) ss.heap ss.heap [] := va_S.rf
  have hl := lv_entry ([.ref (B + (5))]) (n := 3) (Nat.le_of_ble_eq_true rfl)
  subst hae
  rw [lg_entry_eq]
  generalize (lg_sl ([.ref (B + (5))]) ++ List.replicate (3 - (lg_sl ([.ref (B + (5))])).length) Slot.unset).toArray = ls at hl ⊢
  have hl : lv_has ls 3 [(0, .ref (B + (5)))] := hl
  generalize ([.ref (B + (5))] : List Value).toArray = aa at hts ⊢
  show W pp l ee rmX3_flourInAll ss mm aa bb mt cd ss.heap [] 0 0 _ (F0 mm 0 ls [])
  generalize hQ : MQ bb (va_Qi (fun r u => r = (sumN (fun j => sF nw j 4) n) ∧ u = x) (XB G (wX G B tt)) (blkA B (B + 117))) aa ss 0 0 (blkA B (B + 117)) = Q
  have hn8 := hR.1
  refine lv_iconst (v := 0) hx hb dX3_flourInAll_0 (by decide) ?_
  refine lv_istore_n (lv' := [(1, .int (0)), (0, .ref (B + (5)))]) hx hb dX3_flourInAll_1 rfl hl (by decide) rfl (fun ls hl => ?_)
  refine lv_iconst (v := 0) hx hb dX3_flourInAll_2 (by decide) ?_
  refine lv_istore_n (lv' := [(2, .int (0)), (1, .int (0)), (0, .ref (B + (5)))]) hx hb dX3_flourInAll_3 rfl hl (by decide) rfl (fun ls hl => ?_)
  have L_1 : ∀ (n9 : Nat) (i : Nat) (sm : Int32)  (_ : n9 = n - i) (_ : i ≤ n ∧ sm = sumN (fun j => sF nw j 4) i) (H_2 : Heap) (lo_3 : List Loc) (_ : MR G (wX G B tt) x H_2) (_ : va_S (blkA B (B + 117)) ss.heap H_2 lo_3) (ls : Array Slot) (_ : lv_has ls 3 [(2, .int (nI i)), (1, .int (sm)), (0, .ref (B + (5)))]), W pp l ee rmX3_flourInAll ss mm aa bb mt cd H_2 lo_3 0 0 Q (F0 mm 4 ls []) := by
    intro n9
    induction n9 using Nat.strongRecOn with
    | _ n9 ih => 
      have ih_4 := ih
      intro i sm hn9 hI H_2 lo_3 hX hS ls hl
      obtain ⟨hi, hsm⟩ := hI
      refine lv_iload_n hx hb dX3_flourInAll_4 rfl (lv_at hl 0 rfl) ?_
      refine lv_aload_n hx hb dX3_flourInAll_5 rfl (lv_at hl 2 rfl) ?_
      refine x_get (w := (wX G B tt)) (a := 5) (v := .int (x (5) 1)) hx hb hts iX3_flourInAll_X3 hown hK hX (rg_lt rg5) (shX_ri (G := G) (B := B) rg5) rfl 1 (by decide) (hts _ kX3_flourInAll_18) (fun _ h9 => h9) rfl dX3_flourInAll_6 ?_
      refine lv_icmp_ge (tgt := 30) hx hb dX3_flourInAll_9 (by decide) (fun c_4 => ?_) (fun c_4 => ?_)
      · have nc_4 := (n_le (a := n) (b := i) hR.cnt rfl (by omega) (by omega)).mp c_4
        refine lv_iload_n hx hb dX3_flourInAll_30 rfl (lv_at hl 1 rfl) ?_
        rw [← hQ]
        refine x_iret (v := sm) hx hb hr hX hS hlocks dX3_flourInAll_31 ?_
        have e9 : i = n := by omega
        exact ⟨by rw [hsm, e9], rfl⟩
      · have nc_4 := Nat.not_le.mp (fun q => c_4 ((n_le (a := n) (b := i) hR.cnt rfl (by omega) (by omega)).mpr q))
        refine lv_iload_n hx hb dX3_flourInAll_12 rfl (lv_at hl 1 rfl) ?_
        refine lv_aload_n hx hb dX3_flourInAll_13 rfl (lv_at hl 2 rfl) ?_
        refine x_get (w := (wX G B tt)) (a := 5) (v := .ref (B + (5 + 1))) hx hb hts iX3_flourInAll_X3 hown hK hX (rg_lt rg5) (shX_ri (G := G) (B := B) rg5) rfl 0 (by decide) (hts _ kX3_flourInAll_11) (fun _ h9 => h9) rfl dX3_flourInAll_14 ?_
        refine lv_iload_n hx hb dX3_flourInAll_17 rfl (lv_at hl 0 rfl) ?_
        refine x_aald (w := (wX G B tt)) (a := 5 + 1) (n := 8) (j := i) (q := B + (5 + 1 + 1 + i)) (t0 := 2) hx hb hK hX (rg_lt1 rg5) (shX_ma (G := G) (B := B) (f := x (5 + 1)) rg5) rfl rfl (by omega) (by decide) rfl dX3_flourInAll_18 ?_
        refine x_get (w := (wX G B tt)) (a := 5 + 1 + 1 + i) (v := .int (x (5 + 1 + 1 + i) 8)) hx hb hts iX3_flourInAll_X0 hown hK hX (rg_ltm rg5 (by omega)) (shX_mi (G := G) (B := B) rg5 (by omega)) rfl 8 (by decide) (hts _ kX3_flourInAll_52) (fun _ h9 => h9) rfl dX3_flourInAll_19 ?_
        refine lv_iadd hx hb dX3_flourInAll_22 ?_
        refine lv_istore_n (lv' := [(1, .int (sm + (x (5 + 1 + 1 + i) 8))), (2, .int (nI i)), (0, .ref (B + (5)))]) hx hb dX3_flourInAll_23 rfl hl (by decide) rfl (fun ls hl => ?_)
        refine lv_iinc (v := nI (i + 1)) (lv' := [(2, .int (nI (i + 1))), (1, .int (sm + (x (5 + 1 + 1 + i) 8))), (0, .ref (B + (5)))]) hx hb dX3_flourInAll_24 hl (k := 1) rfl (inc_nI _) (by decide) rfl (fun ls hl => ?_)
        refine lv_goto (tgt := 4) hx hb dX3_flourInAll_27 (by decide) ?_
        exact ih_4 _ (by omega) (i + 1) (sm + (x (5 + 1 + 1 + i) 8)) rfl ⟨by omega, by rw [sumN, ← hsm, ← (hR.2.2.2.2.2.2.2 i (by omega)).2.2.2.2.2.2.2.2.1]⟩ _ _ hX hS ls (lv_sub hl [0, 1, 2] rfl)
  exact L_1 _ (0) (0) rfl ⟨Nat.zero_le _, rfl⟩ _ _ hX hS ls (lv_sub hl [0, 1, 2] rfl)

theorem kX3_furledSet_18 : (.fieldLink RX3 18 "WindTaken$Ridge" "count" "I" : Cond) ∈ wsX3_furledSet := by decide +kernel
theorem iX3_furledSet_X3 : ∀ w ∈ wsX30, w ∈ wsX3_furledSet := by decide +kernel
theorem kX3_furledSet_11 : (.fieldLink RX3 11 "WindTaken$Ridge" "mills" "[LWindTaken$Mill;" : Cond) ∈ wsX3_furledSet := by decide +kernel
theorem kX3_furledSet_44 : (.fieldLink RX3 44 "WindTaken$Mill" "furled" "Z" : Cond) ∈ wsX3_furledSet := by decide +kernel
theorem iX3_furledSet_X0 : ∀ w ∈ wsX00, w ∈ wsX3_furledSet := by decide +kernel
theorem kiX3_furledSet_RX7 : (.initialized RX7 : Cond) ∈ wsX3_furledSet := by decide +kernel
theorem ksX3_furledSet_X7_bit : (.static yX7_bit : Cond) ∈ wsX3_furledSet := by decide +kernel
abbrev rmX3_furledSet : Room := { frames := 1, cells := 0, slots := 0, locals := 20 }
set_option maxHeartbeats 4000000 in
set_option maxRecDepth 100000 in
theorem c_X3_furledSet (l : Launch) (G : GG) (B : Nat) (tt : Nat → Nat) (hW : WOK (wX G B tt)) (x : Mem) {n : Nat} {nw : Nat → Int32} (hR : RR n x 5 nw) : Met l yX3_furledSet wsX3_furledSet rmX3_furledSet (XP G (wX G B tt) [.ref (B + (5))] x) (va_Qi (fun r u => r = (nI (maskN (fun j => decide (x (5 + 1 + 1 + j) 11 ≠ 0)) n)) ∧ u = x) (XB G (wX G B tt)) (blkA B (B + 117))) 0 0 (blkA B (B + 117)) := by
  refine Met.ofW (cc := cX3_furledSet) (maxL := 3) (ret := (some .int)) (by decide) rfl ?_
  intro pp ee ss mm aa bb mt cd s1 Bd hml hv
  obtain ⟨hae, hX, hK, hE⟩ := hv
  have hx := Bd.exec
  have hb := Bd.bytes
  have hr := Bd.returns
  have hts := atoms_spec (ws := wsX3_furledSet) Bd.pre
  have hown : ss.vm.findClass RX3 = some mm.cls := findClass_of_methodNamed Bd.named
  have hlocks := Bd.notSynchronized
  have hS : va_S (blkA B (B + 117)) ss.heap ss.heap [] := va_S.rf
  have hl := lv_entry ([.ref (B + (5))]) (n := 3) (Nat.le_of_ble_eq_true rfl)
  subst hae
  rw [lg_entry_eq]
  generalize (lg_sl ([.ref (B + (5))]) ++ List.replicate (3 - (lg_sl ([.ref (B + (5))])).length) Slot.unset).toArray = ls at hl ⊢
  have hl : lv_has ls 3 [(0, .ref (B + (5)))] := hl
  generalize ([.ref (B + (5))] : List Value).toArray = aa at hts ⊢
  show W pp l ee rmX3_furledSet ss mm aa bb mt cd ss.heap [] 0 0 _ (F0 mm 0 ls [])
  generalize hQ : MQ bb (va_Qi (fun r u => r = (nI (maskN (fun j => decide (x (5 + 1 + 1 + j) 11 ≠ 0)) n)) ∧ u = x) (XB G (wX G B tt)) (blkA B (B + 117))) aa ss 0 0 (blkA B (B + 117)) = Q
  have hn8 := hR.1
  refine lv_iconst (v := 0) hx hb dX3_furledSet_0 (by decide) ?_
  refine lv_istore_n (lv' := [(1, .int (0)), (0, .ref (B + (5)))]) hx hb dX3_furledSet_1 rfl hl (by decide) rfl (fun ls hl => ?_)
  refine lv_iconst (v := 0) hx hb dX3_furledSet_2 (by decide) ?_
  refine lv_istore_n (lv' := [(2, .int (0)), (1, .int (0)), (0, .ref (B + (5)))]) hx hb dX3_furledSet_3 rfl hl (by decide) rfl (fun ls hl => ?_)
  have L_1 : ∀ (n9 : Nat) (i : Nat) (sm : Int32)  (_ : n9 = n - i) (_ : i ≤ n ∧ sm = nI (maskN (fun j => decide (x (5 + 1 + 1 + j) 11 ≠ 0)) i)) (H_2 : Heap) (lo_3 : List Loc) (_ : MR G (wX G B tt) x H_2) (_ : va_S (blkA B (B + 117)) ss.heap H_2 lo_3) (ls : Array Slot) (_ : lv_has ls 3 [(2, .int (nI i)), (1, .int (sm)), (0, .ref (B + (5)))]), W pp l ee rmX3_furledSet ss mm aa bb mt cd H_2 lo_3 0 0 Q (F0 mm 4 ls []) := by
    intro n9
    induction n9 using Nat.strongRecOn with
    | _ n9 ih => 
      have ih_4 := ih
      intro i sm hn9 hI H_2 lo_3 hX hS ls hl
      obtain ⟨hi, hsm⟩ := hI
      refine lv_iload_n hx hb dX3_furledSet_4 rfl (lv_at hl 0 rfl) ?_
      refine lv_aload_n hx hb dX3_furledSet_5 rfl (lv_at hl 2 rfl) ?_
      refine x_get (w := (wX G B tt)) (a := 5) (v := .int (x (5) 1)) hx hb hts iX3_furledSet_X3 hown hK hX (rg_lt rg5) (shX_ri (G := G) (B := B) rg5) rfl 1 (by decide) (hts _ kX3_furledSet_18) (fun _ h9 => h9) rfl dX3_furledSet_6 ?_
      refine lv_icmp_ge (tgt := 35) hx hb dX3_furledSet_9 (by decide) (fun c_4 => ?_) (fun c_4 => ?_)
      · have nc_4 := (n_le (a := n) (b := i) hR.cnt rfl (by omega) (by omega)).mp c_4
        refine lv_iload_n hx hb dX3_furledSet_35 rfl (lv_at hl 1 rfl) ?_
        rw [← hQ]
        refine x_iret (v := sm) hx hb hr hX hS hlocks dX3_furledSet_36 ?_
        have e9 : i = n := by omega
        exact ⟨by rw [hsm, e9], rfl⟩
      · have nc_4 := Nat.not_le.mp (fun q => c_4 ((n_le (a := n) (b := i) hR.cnt rfl (by omega) (by omega)).mpr q))
        refine lv_iload_n hx hb dX3_furledSet_12 rfl (lv_at hl 1 rfl) ?_
        refine lv_aload_n hx hb dX3_furledSet_13 rfl (lv_at hl 2 rfl) ?_
        refine x_get (w := (wX G B tt)) (a := 5) (v := .ref (B + (5 + 1))) hx hb hts iX3_furledSet_X3 hown hK hX (rg_lt rg5) (shX_ri (G := G) (B := B) rg5) rfl 0 (by decide) (hts _ kX3_furledSet_11) (fun _ h9 => h9) rfl dX3_furledSet_14 ?_
        refine lv_iload_n hx hb dX3_furledSet_17 rfl (lv_at hl 0 rfl) ?_
        refine x_aald (w := (wX G B tt)) (a := 5 + 1) (n := 8) (j := i) (q := B + (5 + 1 + 1 + i)) (t0 := 2) hx hb hK hX (rg_lt1 rg5) (shX_ma (G := G) (B := B) (f := x (5 + 1)) rg5) rfl rfl (by omega) (by decide) rfl dX3_furledSet_18 ?_
        refine x_get (w := (wX G B tt)) (a := 5 + 1 + 1 + i) (v := .int (bI (decide (x (5 + 1 + 1 + i) 11 ≠ 0)))) hx hb hts iX3_furledSet_X0 hown hK hX (rg_ltm rg5 (by omega)) (shX_mi (G := G) (B := B) rg5 (by omega)) rfl 11 (by decide) (hts _ kX3_furledSet_44) (fun _ h9 => h9) rfl dX3_furledSet_19 ?_
        refine x_ip (w := (wX G B tt)) (x := x) (v := bI (decide (x (5 + 1 + 1 + i) 11 ≠ 0))) (va_runSN (host := "WindTaken") (As := [.int (bI (decide (x (5 + 1 + 1 + i) 11 ≠ 0)))]) (rest := [.int (sm)]) ⟨hx, hb, hml, hown, hts⟩ (c_X7_bit (l := l) (G := G) (B := B) (tt := tt) (hW := hW) (x := x) (b := decide (x (5 + 1 + 1 + i) 11 ≠ 0))) ⟨va_cnB 1 hts gX3_furledSet_X7_bit_n48 rfl rfl rfl (hK.2 _ (List.mem_of_getElem? (i := 5) rfl)) (hts _ kiX3_furledSet_RX7) (by decide +kernel) ⟨Nat.le_of_ble_eq_true rfl, Nat.le_of_ble_eq_true rfl⟩, (hts _ ksX3_furledSet_X7_bit), trivial⟩ (x_ps (w := (wX G B tt)) hW hX hK hE hS [.int (bI (decide (x (5 + 1 + 1 + i) 11 ≠ 0)))]) rfl rfl hl.1 rfl (lv_room (Nat.le_of_ble_eq_true rfl)) dX3_furledSet_22 ⟨Nat.zero_le _, Nat.zero_le _⟩) hS (fun H_5 lo_6 hX hS => ?_)
        refine lv_iload_n hx hb dX3_furledSet_25 rfl (lv_at hl 0 rfl) ?_
        refine lv_ishl hx hb dX3_furledSet_26 ?_
        refine lv_ior hx hb dX3_furledSet_27 ?_
        refine lv_istore_n (lv' := [(1, .int (sm ||| ((bI (decide (x (5 + 1 + 1 + i) 11 ≠ 0))) <<< (nI i &&& 31)))), (2, .int (nI i)), (0, .ref (B + (5)))]) hx hb dX3_furledSet_28 rfl hl (by decide) rfl (fun ls hl => ?_)
        refine lv_iinc (v := nI (i + 1)) (lv' := [(2, .int (nI (i + 1))), (1, .int (sm ||| ((bI (decide (x (5 + 1 + 1 + i) 11 ≠ 0))) <<< (nI i &&& 31)))), (0, .ref (B + (5)))]) hx hb dX3_furledSet_29 hl (k := 1) rfl (inc_nI _) (by decide) rfl (fun ls hl => ?_)
        refine lv_goto (tgt := 4) hx hb dX3_furledSet_32 (by decide) ?_
        exact ih_4 _ (by omega) (i + 1) (sm ||| ((bI (decide (x (5 + 1 + 1 + i) 11 ≠ 0))) <<< (nI i &&& 31))) rfl ⟨by omega, by rw [hsm, mask_or _ _ (by omega) rfl]⟩ _ _ hX hS ls (lv_sub hl [0, 1, 2] rfl)
  exact L_1 _ (0) (0) rfl ⟨Nat.zero_le _, rfl⟩ _ _ hX hS ls (lv_sub hl [0, 1, 2] rfl)

theorem kiX1_isAhead_RX7 : (.initialized RX7 : Cond) ∈ wsX1_isAhead := by decide +kernel
theorem ksX1_isAhead_X7_isWithin : (.static yX7_isWithin : Cond) ∈ wsX1_isAhead := by decide +kernel
abbrev rmX1_isAhead : Room := { frames := 1, cells := 0, slots := 0, locals := 22 }
set_option maxHeartbeats 4000000 in
set_option maxRecDepth 100000 in
theorem c_X1_isAhead (l : Launch) (G : GG) (B : Nat) (tt : Nat → Nat) (hW : WOK (wX G B tt)) (x : Mem) (a : Int32) (d : Int32) : Met l yX1_isAhead wsX1_isAhead rmX1_isAhead (XP G (wX G B tt) [.int (a), .int (d)] x) (va_Qi (fun r u => r = bI (ahB a d) ∧ u = x) (XB G (wX G B tt)) (blkA B (B + 117))) 0 0 (blkA B (B + 117)) := by
  refine Met.ofW (cc := cX1_isAhead) (maxL := 2) (ret := (some .boolean)) (by decide) rfl ?_
  intro pp ee ss mm aa bb mt cd s1 Bd hml hv
  obtain ⟨hae, hX, hK, hE⟩ := hv
  have hx := Bd.exec
  have hb := Bd.bytes
  have hr := Bd.returns
  have hts := atoms_spec (ws := wsX1_isAhead) Bd.pre
  have hown : ss.vm.findClass RX1 = some mm.cls := findClass_of_methodNamed Bd.named
  have hlocks := Bd.notSynchronized
  have hS : va_S (blkA B (B + 117)) ss.heap ss.heap [] := va_S.rf
  have hl := lv_entry ([.int (a), .int (d)]) (n := 2) (Nat.le_of_ble_eq_true rfl)
  subst hae
  rw [lg_entry_eq]
  generalize (lg_sl ([.int (a), .int (d)]) ++ List.replicate (2 - (lg_sl ([.int (a), .int (d)])).length) Slot.unset).toArray = ls at hl ⊢
  have hl : lv_has ls 2 [(0, .int (a)), (1, .int (d))] := hl
  generalize ([.int (a), .int (d)] : List Value).toArray = aa at hts ⊢
  show W pp l ee rmX1_isAhead ss mm aa bb mt cd ss.heap [] 0 0 _ (F0 mm 0 ls [])
  generalize hQ : MQ bb (va_Qi (fun r u => r = bI (ahB a d) ∧ u = x) (XB G (wX G B tt)) (blkA B (B + 117))) aa ss 0 0 (blkA B (B + 117)) = Q
  refine lv_iload_n hx hb dX1_isAhead_0 rfl (lv_at hl 0 rfl) ?_
  refine lv_iconst (v := 1) hx hb dX1_isAhead_1 (by decide) ?_
  refine lv_bipush (v := 6) hx hb dX1_isAhead_2 (by decide) ?_
  refine x_ip (w := (wX G B tt)) (x := x) (v := bI (decide (((1 : Int32)) ≤ a) && decide (a ≤ ((6 : Int32))))) (va_runSN (host := "WindTaken") (As := [.int (a), .int (1), .int (6)]) (rest := []) ⟨hx, hb, hml, hown, hts⟩ (c_X7_isWithin (l := l) (G := G) (B := B) (tt := tt) (hW := hW) (x := x) (v := a) (lo := 1) (hi := 6)) ⟨va_cnB 3 hts gX1_isAhead_X7_isWithin_n85 rfl rfl rfl (hK.2 _ (List.mem_of_getElem? (i := 1) rfl)) (hts _ kiX1_isAhead_RX7) (by decide +kernel) ⟨Nat.le_of_ble_eq_true rfl, Nat.le_of_ble_eq_true rfl⟩, (hts _ ksX1_isAhead_X7_isWithin), trivial⟩ (x_ps (w := (wX G B tt)) hW hX hK hE hS [.int (a), .int (1), .int (6)]) rfl rfl hl.1 rfl (lv_room (Nat.le_of_ble_eq_true rfl)) dX1_isAhead_4 ⟨Nat.zero_le _, Nat.zero_le _⟩) hS (fun H_1 lo_2 hX hS => ?_)
  have kJ_5 : ∀ (v_4 : Bool) (_ : v_4 = (if (decide (((1 : Int32)) ≤ a) && decide (a ≤ ((6 : Int32)))) = false then false else (if (decide (((-1 : Int32)) ≤ d) && decide (d ≤ ((1 : Int32)))) = false then false else true))) (H_6 : Heap) (lo_7 : List Loc) (_ : MR G (wX G B tt) x H_6) (_ : va_S (blkA B (B + 117)) ss.heap H_6 lo_7) (ls : Array Slot) (_ : lv_has ls 2 [(0, .int (a)), (1, .int (d))]), W pp l ee rmX1_isAhead ss mm aa bb mt cd H_6 lo_7 0 0 Q (F0 mm 24 ls [.int (bI (v_4))]) := by
    intro v_4 ev_4 H_6 lo_7 hX hS ls hl
    rw [← hQ]
    refine x_zret (v := bI (v_4)) (ty := .boolean) hx hb hr (bI_nar _) hX hS hlocks dX1_isAhead_24 ?_
    refine ⟨?_, rfl⟩
    rw [ev_4]
    unfold ahB
    cases decide (1 ≤ a) && decide (a ≤ 6) <;> cases decide (-1 ≤ d) && decide (d ≤ 1) <;> rfl
  refine x_ifeq (tgt := 23) hx hb dX1_isAhead_7 (by decide) (fun c_3 => ?_) (fun c_3 => ?_)
  · refine lv_iconst (v := 0) hx hb dX1_isAhead_23 (by decide) ?_
    exact kJ_5 (false) (by rw [if_pos c_3]) _ _ hX hS ls (lv_sub hl [0, 1] rfl)
  · refine lv_iload_n hx hb dX1_isAhead_10 rfl (lv_at hl 1 rfl) ?_
    refine lv_iconst (v := (-1)) hx hb dX1_isAhead_11 (by decide) ?_
    refine lv_iconst (v := 1) hx hb dX1_isAhead_12 (by decide) ?_
    refine x_ip (w := (wX G B tt)) (x := x) (v := bI (decide (((-1 : Int32)) ≤ d) && decide (d ≤ ((1 : Int32))))) (va_runSN (host := "WindTaken") (As := [.int (d), .int ((-1)), .int (1)]) (rest := []) ⟨hx, hb, hml, hown, hts⟩ (c_X7_isWithin (l := l) (G := G) (B := B) (tt := tt) (hW := hW) (x := x) (v := d) (lo := (-1)) (hi := 1)) ⟨va_cnB 3 hts gX1_isAhead_X7_isWithin_n85 rfl rfl rfl (hK.2 _ (List.mem_of_getElem? (i := 1) rfl)) (hts _ kiX1_isAhead_RX7) (by decide +kernel) ⟨Nat.le_of_ble_eq_true rfl, Nat.le_of_ble_eq_true rfl⟩, (hts _ ksX1_isAhead_X7_isWithin), trivial⟩ (x_ps (w := (wX G B tt)) hW hX hK hE hS [.int (d), .int ((-1)), .int (1)]) rfl rfl hl.1 rfl (lv_room (Nat.le_of_ble_eq_true rfl)) dX1_isAhead_13 ⟨Nat.zero_le _, Nat.zero_le _⟩) hS (fun H_8 lo_9 hX hS => ?_)
    refine x_ifeq (tgt := 23) hx hb dX1_isAhead_16 (by decide) (fun c_10 => ?_) (fun c_10 => ?_)
    · refine lv_iconst (v := 0) hx hb dX1_isAhead_23 (by decide) ?_
      exact kJ_5 (false) (by rw [if_neg (ne_of_true c_3), if_pos c_10]) _ _ hX hS ls (lv_sub hl [0, 1] rfl)
    · refine lv_iconst (v := 1) hx hb dX1_isAhead_19 (by decide) ?_
      refine lv_goto (tgt := 24) hx hb dX1_isAhead_20 (by decide) ?_
      exact kJ_5 (true) (by rw [if_neg (ne_of_true c_3), if_neg (ne_of_true c_10)]) _ _ hX hS ls (lv_sub hl [0, 1] rfl)

theorem kX1_isBehind_41 : (.fieldLink RX1 41 "WindTaken$Mill" "floors" "I" : Cond) ∈ wsX1_isBehind := by decide +kernel
theorem iX1_isBehind_X0 : ∀ w ∈ wsX00, w ∈ wsX1_isBehind := by decide +kernel
theorem kX1_isBehind_75 : (.fieldLink RX1 75 "WindTaken$Mill" "x" "I" : Cond) ∈ wsX1_isBehind := by decide +kernel
theorem kX1_isBehind_78 : (.fieldLink RX1 78 "WindTaken$Mill" "y" "I" : Cond) ∈ wsX1_isBehind := by decide +kernel
theorem kX1_isBehind_29 : (.fieldLink RX1 29 "WindTaken$Quarter" "q" "I" : Cond) ∈ wsX1_isBehind := by decide +kernel
theorem iX1_isBehind_X1 : ∀ w ∈ wsX10, w ∈ wsX1_isBehind := by decide +kernel
abbrev rmX1_isBehind : Room := { frames := 2, cells := 0, slots := 0, locals := 43 }
set_option maxHeartbeats 4000000 in
set_option maxRecDepth 100000 in
theorem c_X1_isBehind (l : Launch) (G : GG) (B : Nat) (tt : Nat → Nat) (hW : WOK (wX G B tt)) (x : Mem) {q : Nat} (hq : q < 4) {ρ : Nat} (hρ : isRg ρ) {i : Nat} (hi : i < 8) {j : Nat} (hj : j < 8) (hq3 : x (65 + 13 * q) 3 = nI q) : Met l yX1_isBehind wsX1_isBehind rmX1_isBehind (XP G (wX G B tt) [.ref (B + (65 + 13 * q)), .ref (B + (ρ + 1 + 1 + i)), .ref (B + (ρ + 1 + 1 + j))] x) (va_Qi (fun r u => r = bI (decide (x (ρ + 1 + 1 + i) 4 ≤ x (ρ + 1 + 1 + j) 4) && shB q (x (ρ + 1 + 1 + j) 2 - x (ρ + 1 + 1 + i) 2) (x (ρ + 1 + 1 + j) 3 - x (ρ + 1 + 1 + i) 3)) ∧ u = x) (XB G (wX G B tt)) (blkA B (B + 117))) 0 0 (blkA B (B + 117)) := by
  refine Met.ofW (cc := cX1_isBehind) (maxL := 5) (ret := (some .boolean)) (by decide) rfl ?_
  intro pp ee ss mm aa bb mt cd s1 Bd hml hv
  obtain ⟨hae, hX, hK, hE⟩ := hv
  have hx := Bd.exec
  have hb := Bd.bytes
  have hr := Bd.returns
  have hts := atoms_spec (ws := wsX1_isBehind) Bd.pre
  have hown : ss.vm.findClass RX1 = some mm.cls := findClass_of_methodNamed Bd.named
  have hlocks := Bd.notSynchronized
  have hS : va_S (blkA B (B + 117)) ss.heap ss.heap [] := va_S.rf
  have hl := lv_entry ([.ref (B + (65 + 13 * q)), .ref (B + (ρ + 1 + 1 + i)), .ref (B + (ρ + 1 + 1 + j))]) (n := 5) (Nat.le_of_ble_eq_true rfl)
  subst hae
  rw [lg_entry_eq]
  generalize (lg_sl ([.ref (B + (65 + 13 * q)), .ref (B + (ρ + 1 + 1 + i)), .ref (B + (ρ + 1 + 1 + j))]) ++ List.replicate (5 - (lg_sl ([.ref (B + (65 + 13 * q)), .ref (B + (ρ + 1 + 1 + i)), .ref (B + (ρ + 1 + 1 + j))])).length) Slot.unset).toArray = ls at hl ⊢
  have hl : lv_has ls 5 [(0, .ref (B + (65 + 13 * q))), (1, .ref (B + (ρ + 1 + 1 + i))), (2, .ref (B + (ρ + 1 + 1 + j)))] := hl
  generalize ([.ref (B + (65 + 13 * q)), .ref (B + (ρ + 1 + 1 + i)), .ref (B + (ρ + 1 + 1 + j))] : List Value).toArray = aa at hts ⊢
  show W pp l ee rmX1_isBehind ss mm aa bb mt cd ss.heap [] 0 0 _ (F0 mm 0 ls [])
  generalize hQ : MQ bb (va_Qi (fun r u => r = bI (decide (x (ρ + 1 + 1 + i) 4 ≤ x (ρ + 1 + 1 + j) 4) && shB q (x (ρ + 1 + 1 + j) 2 - x (ρ + 1 + 1 + i) 2) (x (ρ + 1 + 1 + j) 3 - x (ρ + 1 + 1 + i) 3)) ∧ u = x) (XB G (wX G B tt)) (blkA B (B + 117))) aa ss 0 0 (blkA B (B + 117)) = Q
  refine lv_aload_n hx hb dX1_isBehind_0 rfl (lv_at hl 2 rfl) ?_
  refine x_get (w := (wX G B tt)) (a := ρ + 1 + 1 + j) (v := .int (x (ρ + 1 + 1 + j) 4)) hx hb hts iX1_isBehind_X0 hown hK hX (rg_ltm hρ hj) (shX_mi (G := G) (B := B) hρ hj) rfl 4 (by decide) (hts _ kX1_isBehind_41) (fun _ h9 => h9) rfl dX1_isBehind_1 ?_
  refine lv_aload_n hx hb dX1_isBehind_4 rfl (lv_at hl 1 rfl) ?_
  refine x_get (w := (wX G B tt)) (a := ρ + 1 + 1 + i) (v := .int (x (ρ + 1 + 1 + i) 4)) hx hb hts iX1_isBehind_X0 hown hK hX (rg_ltm hρ hi) (shX_mi (G := G) (B := B) hρ hi) rfl 4 (by decide) (hts _ kX1_isBehind_41) (fun _ h9 => h9) rfl dX1_isBehind_5 ?_
  refine lv_icmp_ge (tgt := 13) hx hb dX1_isBehind_8 (by decide) (fun c_1 => ?_) (fun c_1 => ?_)
  · refine lv_aload_n hx hb dX1_isBehind_13 rfl (lv_at hl 2 rfl) ?_
    refine x_get (w := (wX G B tt)) (a := ρ + 1 + 1 + j) (v := .int (x (ρ + 1 + 1 + j) 2)) hx hb hts iX1_isBehind_X0 hown hK hX (rg_ltm hρ hj) (shX_mi (G := G) (B := B) hρ hj) rfl 2 (by decide) (hts _ kX1_isBehind_75) (fun _ h9 => h9) rfl dX1_isBehind_14 ?_
    refine lv_aload_n hx hb dX1_isBehind_17 rfl (lv_at hl 1 rfl) ?_
    refine x_get (w := (wX G B tt)) (a := ρ + 1 + 1 + i) (v := .int (x (ρ + 1 + 1 + i) 2)) hx hb hts iX1_isBehind_X0 hown hK hX (rg_ltm hρ hi) (shX_mi (G := G) (B := B) hρ hi) rfl 2 (by decide) (hts _ kX1_isBehind_75) (fun _ h9 => h9) rfl dX1_isBehind_18 ?_
    refine lv_isub hx hb dX1_isBehind_21 ?_
    refine lv_istore_n (lv' := [(3, .int ((x (ρ + 1 + 1 + j) 2) - (x (ρ + 1 + 1 + i) 2))), (0, .ref (B + (65 + 13 * q))), (1, .ref (B + (ρ + 1 + 1 + i))), (2, .ref (B + (ρ + 1 + 1 + j)))]) hx hb dX1_isBehind_22 rfl hl (by decide) rfl (fun ls hl => ?_)
    refine lv_aload_n hx hb dX1_isBehind_23 rfl (lv_at hl 3 rfl) ?_
    refine x_get (w := (wX G B tt)) (a := ρ + 1 + 1 + j) (v := .int (x (ρ + 1 + 1 + j) 3)) hx hb hts iX1_isBehind_X0 hown hK hX (rg_ltm hρ hj) (shX_mi (G := G) (B := B) hρ hj) rfl 3 (by decide) (hts _ kX1_isBehind_78) (fun _ h9 => h9) rfl dX1_isBehind_24 ?_
    refine lv_aload_n hx hb dX1_isBehind_27 rfl (lv_at hl 2 rfl) ?_
    refine x_get (w := (wX G B tt)) (a := ρ + 1 + 1 + i) (v := .int (x (ρ + 1 + 1 + i) 3)) hx hb hts iX1_isBehind_X0 hown hK hX (rg_ltm hρ hi) (shX_mi (G := G) (B := B) hρ hi) rfl 3 (by decide) (hts _ kX1_isBehind_78) (fun _ h9 => h9) rfl dX1_isBehind_28 ?_
    refine lv_isub hx hb dX1_isBehind_31 ?_
    refine lv_istore (lv' := [(4, .int ((x (ρ + 1 + 1 + j) 3) - (x (ρ + 1 + 1 + i) 3))), (3, .int ((x (ρ + 1 + 1 + j) 2) - (x (ρ + 1 + 1 + i) 2))), (0, .ref (B + (65 + 13 * q))), (1, .ref (B + (ρ + 1 + 1 + i))), (2, .ref (B + (ρ + 1 + 1 + j)))]) hx hb dX1_isBehind_32 hl (by decide) rfl (fun ls hl => ?_)
    refine lv_aload_n hx hb dX1_isBehind_34 rfl (lv_at hl 2 rfl) ?_
    refine x_get (w := (wX G B tt)) (a := 65 + 13 * q) (v := .int (x (65 + 13 * q) 3)) hx hb hts iX1_isBehind_X1 hown hK hX (qu_lt hq) (shX_qu (G := G) (B := B) hq) rfl 3 (by decide) (hts _ kX1_isBehind_29) (fun _ h9 => h9) rfl dX1_isBehind_35 ?_
    refine lv_topi (fun y_2 ey_2 => ?_)
    by_cases c_3 : y_2 = 0
    · subst c_3
      refine lv_tableIn (tgt := 64) (off := 26) hx hb dX1_isBehind_38 (by decide) (by decide) rfl (by decide) ?_
      have w_38 : x (65 + 13 * q) 3 = 0 := ey_2.symm
      have hq0 : 0 = q := (n_eq (a := 0) (b := q) rfl rfl (by decide) (by omega)).mp (w_38.symm.trans hq3)
      refine lv_iload hx hb dX1_isBehind_64 (lv_at hl 0 rfl) ?_
      refine lv_ineg hx hb dX1_isBehind_66 ?_
      refine lv_iload_n hx hb dX1_isBehind_67 rfl (lv_at hl 1 rfl) ?_
      refine x_ip (w := (wX G B tt)) (x := x) (v := bI (ahB (-((x (ρ + 1 + 1 + j) 3) - (x (ρ + 1 + 1 + i) 3))) ((x (ρ + 1 + 1 + j) 2) - (x (ρ + 1 + 1 + i) 2)))) (va_runS (As := [.int (-((x (ρ + 1 + 1 + j) 3) - (x (ρ + 1 + 1 + i) 3))), .int ((x (ρ + 1 + 1 + j) 2) - (x (ρ + 1 + 1 + i) 2))]) (rest := []) ⟨hx, hb, hml, hown, hts⟩ (c_X1_isAhead (l := l) (G := G) (B := B) (tt := tt) (hW := hW) (x := x) (a := -((x (ρ + 1 + 1 + j) 3) - (x (ρ + 1 + 1 + i) 3))) (d := (x (ρ + 1 + 1 + j) 2) - (x (ρ + 1 + 1 + i) 2))) (va_cwS 2 hts gX1_isBehind_X1_isAhead rfl rfl rfl (by decide +kernel) ⟨Nat.le_of_ble_eq_true rfl, Nat.le_of_ble_eq_true rfl⟩) (x_ps (w := (wX G B tt)) hW hX hK hE hS [.int (-((x (ρ + 1 + 1 + j) 3) - (x (ρ + 1 + 1 + i) 3))), .int ((x (ρ + 1 + 1 + j) 2) - (x (ρ + 1 + 1 + i) 2))]) rfl rfl hl.1 rfl (lv_room (Nat.le_of_ble_eq_true rfl)) dX1_isBehind_68 ⟨Nat.zero_le _, Nat.zero_le _⟩) hS (fun H_4 lo_5 hX hS => ?_)
      rw [← hQ]
      refine x_zret (v := bI (ahB (-((x (ρ + 1 + 1 + j) 3) - (x (ρ + 1 + 1 + i) 3))) ((x (ρ + 1 + 1 + j) 2) - (x (ρ + 1 + 1 + i) 2)))) (ty := .boolean) hx hb hr (bI_nar _) hX hS hlocks dX1_isBehind_71 ?_
      refine ⟨?_, rfl⟩
      rw [decide_eq_true c_1, Bool.true_and, ← hq0]
      rfl
    by_cases c_6 : y_2 = 1
    · subst c_6
      refine lv_tableIn (tgt := 72) (off := 34) hx hb dX1_isBehind_38 (by decide) (by decide) rfl (by decide) ?_
      have w_38 : x (65 + 13 * q) 3 = 1 := ey_2.symm
      have hq0 : 1 = q := (n_eq (a := 1) (b := q) rfl rfl (by decide) (by omega)).mp (w_38.symm.trans hq3)
      refine lv_iload_n hx hb dX1_isBehind_72 rfl (lv_at hl 1 rfl) ?_
      refine lv_iload hx hb dX1_isBehind_73 (lv_at hl 0 rfl) ?_
      refine x_ip (w := (wX G B tt)) (x := x) (v := bI (ahB ((x (ρ + 1 + 1 + j) 2) - (x (ρ + 1 + 1 + i) 2)) ((x (ρ + 1 + 1 + j) 3) - (x (ρ + 1 + 1 + i) 3)))) (va_runS (As := [.int ((x (ρ + 1 + 1 + j) 2) - (x (ρ + 1 + 1 + i) 2)), .int ((x (ρ + 1 + 1 + j) 3) - (x (ρ + 1 + 1 + i) 3))]) (rest := []) ⟨hx, hb, hml, hown, hts⟩ (c_X1_isAhead (l := l) (G := G) (B := B) (tt := tt) (hW := hW) (x := x) (a := (x (ρ + 1 + 1 + j) 2) - (x (ρ + 1 + 1 + i) 2)) (d := (x (ρ + 1 + 1 + j) 3) - (x (ρ + 1 + 1 + i) 3))) (va_cwS 2 hts gX1_isBehind_X1_isAhead rfl rfl rfl (by decide +kernel) ⟨Nat.le_of_ble_eq_true rfl, Nat.le_of_ble_eq_true rfl⟩) (x_ps (w := (wX G B tt)) hW hX hK hE hS [.int ((x (ρ + 1 + 1 + j) 2) - (x (ρ + 1 + 1 + i) 2)), .int ((x (ρ + 1 + 1 + j) 3) - (x (ρ + 1 + 1 + i) 3))]) rfl rfl hl.1 rfl (lv_room (Nat.le_of_ble_eq_true rfl)) dX1_isBehind_75 ⟨Nat.zero_le _, Nat.zero_le _⟩) hS (fun H_7 lo_8 hX hS => ?_)
      rw [← hQ]
      refine x_zret (v := bI (ahB ((x (ρ + 1 + 1 + j) 2) - (x (ρ + 1 + 1 + i) 2)) ((x (ρ + 1 + 1 + j) 3) - (x (ρ + 1 + 1 + i) 3)))) (ty := .boolean) hx hb hr (bI_nar _) hX hS hlocks dX1_isBehind_78 ?_
      refine ⟨?_, rfl⟩
      rw [decide_eq_true c_1, Bool.true_and, ← hq0]
      rfl
    by_cases c_9 : y_2 = 2
    · subst c_9
      refine lv_tableIn (tgt := 79) (off := 41) hx hb dX1_isBehind_38 (by decide) (by decide) rfl (by decide) ?_
      have w_38 : x (65 + 13 * q) 3 = 2 := ey_2.symm
      have hq0 : 2 = q := (n_eq (a := 2) (b := q) rfl rfl (by decide) (by omega)).mp (w_38.symm.trans hq3)
      refine lv_iload hx hb dX1_isBehind_79 (lv_at hl 0 rfl) ?_
      refine lv_iload_n hx hb dX1_isBehind_81 rfl (lv_at hl 1 rfl) ?_
      refine x_ip (w := (wX G B tt)) (x := x) (v := bI (ahB ((x (ρ + 1 + 1 + j) 3) - (x (ρ + 1 + 1 + i) 3)) ((x (ρ + 1 + 1 + j) 2) - (x (ρ + 1 + 1 + i) 2)))) (va_runS (As := [.int ((x (ρ + 1 + 1 + j) 3) - (x (ρ + 1 + 1 + i) 3)), .int ((x (ρ + 1 + 1 + j) 2) - (x (ρ + 1 + 1 + i) 2))]) (rest := []) ⟨hx, hb, hml, hown, hts⟩ (c_X1_isAhead (l := l) (G := G) (B := B) (tt := tt) (hW := hW) (x := x) (a := (x (ρ + 1 + 1 + j) 3) - (x (ρ + 1 + 1 + i) 3)) (d := (x (ρ + 1 + 1 + j) 2) - (x (ρ + 1 + 1 + i) 2))) (va_cwS 2 hts gX1_isBehind_X1_isAhead rfl rfl rfl (by decide +kernel) ⟨Nat.le_of_ble_eq_true rfl, Nat.le_of_ble_eq_true rfl⟩) (x_ps (w := (wX G B tt)) hW hX hK hE hS [.int ((x (ρ + 1 + 1 + j) 3) - (x (ρ + 1 + 1 + i) 3)), .int ((x (ρ + 1 + 1 + j) 2) - (x (ρ + 1 + 1 + i) 2))]) rfl rfl hl.1 rfl (lv_room (Nat.le_of_ble_eq_true rfl)) dX1_isBehind_82 ⟨Nat.zero_le _, Nat.zero_le _⟩) hS (fun H_10 lo_11 hX hS => ?_)
      rw [← hQ]
      refine x_zret (v := bI (ahB ((x (ρ + 1 + 1 + j) 3) - (x (ρ + 1 + 1 + i) 3)) ((x (ρ + 1 + 1 + j) 2) - (x (ρ + 1 + 1 + i) 2)))) (ty := .boolean) hx hb hr (bI_nar _) hX hS hlocks dX1_isBehind_85 ?_
      refine ⟨?_, rfl⟩
      rw [decide_eq_true c_1, Bool.true_and, ← hq0]
      rfl
    have w_38_0 : ¬ x (65 + 13 * q) 3 = 0 := by rw [← ey_2]; exact c_3
    have w_38_1 : ¬ x (65 + 13 * q) 3 = 1 := by rw [← ey_2]; exact c_6
    have w_38_2 : ¬ x (65 + 13 * q) 3 = 2 := by rw [← ey_2]; exact c_9
    have hq0 : 3 = q := by
      have h0 : ¬ q = 0 := fun z => w_38_0 (by rw [hq3, z]; rfl)
      have h1 : ¬ q = 1 := fun z => w_38_1 (by rw [hq3, z]; rfl)
      have h2 : ¬ q = 2 := fun z => w_38_2 (by rw [hq3, z]; rfl)
      omega
    refine lv_tableOut (tgt := 86) hx hb dX1_isBehind_38 (ts_out (fun k h1 h2 => by
      have h3 : k = 0 ∨ k = 1 ∨ k = 2 := by omega
      rcases h3 with rfl | rfl | rfl
      · exact c_3
      · exact c_6
      · exact c_9
      )) (by decide) ?_
    refine lv_iload_n hx hb dX1_isBehind_86 rfl (lv_at hl 1 rfl) ?_
    refine lv_ineg hx hb dX1_isBehind_87 ?_
    refine lv_iload hx hb dX1_isBehind_88 (lv_at hl 0 rfl) ?_
    refine x_ip (w := (wX G B tt)) (x := x) (v := bI (ahB (-((x (ρ + 1 + 1 + j) 2) - (x (ρ + 1 + 1 + i) 2))) ((x (ρ + 1 + 1 + j) 3) - (x (ρ + 1 + 1 + i) 3)))) (va_runS (As := [.int (-((x (ρ + 1 + 1 + j) 2) - (x (ρ + 1 + 1 + i) 2))), .int ((x (ρ + 1 + 1 + j) 3) - (x (ρ + 1 + 1 + i) 3))]) (rest := []) ⟨hx, hb, hml, hown, hts⟩ (c_X1_isAhead (l := l) (G := G) (B := B) (tt := tt) (hW := hW) (x := x) (a := -((x (ρ + 1 + 1 + j) 2) - (x (ρ + 1 + 1 + i) 2))) (d := (x (ρ + 1 + 1 + j) 3) - (x (ρ + 1 + 1 + i) 3))) (va_cwS 2 hts gX1_isBehind_X1_isAhead rfl rfl rfl (by decide +kernel) ⟨Nat.le_of_ble_eq_true rfl, Nat.le_of_ble_eq_true rfl⟩) (x_ps (w := (wX G B tt)) hW hX hK hE hS [.int (-((x (ρ + 1 + 1 + j) 2) - (x (ρ + 1 + 1 + i) 2))), .int ((x (ρ + 1 + 1 + j) 3) - (x (ρ + 1 + 1 + i) 3))]) rfl rfl hl.1 rfl (lv_room (Nat.le_of_ble_eq_true rfl)) dX1_isBehind_90 ⟨Nat.zero_le _, Nat.zero_le _⟩) hS (fun H_12 lo_13 hX hS => ?_)
    rw [← hQ]
    refine x_zret (v := bI (ahB (-((x (ρ + 1 + 1 + j) 2) - (x (ρ + 1 + 1 + i) 2))) ((x (ρ + 1 + 1 + j) 3) - (x (ρ + 1 + 1 + i) 3)))) (ty := .boolean) hx hb hr (bI_nar _) hX hS hlocks dX1_isBehind_93 ?_
    refine ⟨?_, rfl⟩
    rw [decide_eq_true c_1, Bool.true_and, ← hq0]
    rfl
  · refine lv_iconst (v := 0) hx hb dX1_isBehind_11 (by decide) ?_
    rw [← hQ]
    refine x_zret (v := 0) (ty := .boolean) hx hb hr rfl hX hS hlocks dX1_isBehind_12 ?_
    refine ⟨?_, rfl⟩
    rw [decide_eq_false c_1]
    rfl

theorem kJ6_bitCount_0f7a4_265 : (.constant RJ6 265 (1431655765) : Cond) ∈ wsJ6_bitCount_0f7a4 := by decide +kernel
theorem kJ6_bitCount_0f7a4_266 : (.constant RJ6 266 (858993459) : Cond) ∈ wsJ6_bitCount_0f7a4 := by decide +kernel
theorem kJ6_bitCount_0f7a4_267 : (.constant RJ6 267 (252645135) : Cond) ∈ wsJ6_bitCount_0f7a4 := by decide +kernel
abbrev rmJ6_bitCount_0f7a4 : Room := { frames := 0, cells := 0, slots := 0, locals := 0 }
set_option maxHeartbeats 4000000 in
set_option maxRecDepth 100000 in
theorem c_J6_bitCount_0f7a4 (l : Launch) (G : GG) (B : Nat) (tt : Nat → Nat) (hW : WOK (wX G B tt)) (x : Mem) (v : Int32) : Met l yJ6_bitCount_0f7a4 wsJ6_bitCount_0f7a4 rmJ6_bitCount_0f7a4 (XP G (wX G B tt) [.int (v)] x) (va_Qi (fun r u => r = (bcI v) ∧ u = x) (XB G (wX G B tt)) (blkA B (B + 117))) 0 0 (blkA B (B + 117)) := by
  refine Met.ofW (cc := cJ6_bitCount_0f7a4) (maxL := 1) (ret := (some .int)) (by decide) rfl ?_
  intro pp ee ss mm aa bb mt cd s1 Bd hml hv
  obtain ⟨hae, hX, hK, hE⟩ := hv
  have hx := Bd.exec
  have hb := Bd.bytes
  have hr := Bd.returns
  have hts := atoms_spec (ws := wsJ6_bitCount_0f7a4) Bd.pre
  have hown : ss.vm.findClass RJ6 = some mm.cls := findClass_of_methodNamed Bd.named
  have hlocks := Bd.notSynchronized
  have hS : va_S (blkA B (B + 117)) ss.heap ss.heap [] := va_S.rf
  have hl := lv_entry ([.int (v)]) (n := 1) (Nat.le_of_ble_eq_true rfl)
  subst hae
  rw [lg_entry_eq]
  generalize (lg_sl ([.int (v)]) ++ List.replicate (1 - (lg_sl ([.int (v)])).length) Slot.unset).toArray = ls at hl ⊢
  have hl : lv_has ls 1 [(0, .int (v))] := hl
  generalize ([.int (v)] : List Value).toArray = aa at hts ⊢
  show W pp l ee rmJ6_bitCount_0f7a4 ss mm aa bb mt cd ss.heap [] 0 0 _ (F0 mm 0 ls [])
  generalize hQ : MQ bb (va_Qi (fun r u => r = (bcI v) ∧ u = x) (XB G (wX G B tt)) (blkA B (B + 117))) aa ss 0 0 (blkA B (B + 117)) = Q
  refine lv_iload_n hx hb dJ6_bitCount_0f7a4_0 rfl (lv_at hl 0 rfl) ?_
  refine lv_iload_n hx hb dJ6_bitCount_0f7a4_1 rfl (lv_at hl 0 rfl) ?_
  refine lv_iconst (v := 1) hx hb dJ6_bitCount_0f7a4_2 (by decide) ?_
  refine lv_iushr (v := (v.toUInt32 >>> ((1 : Int32).toUInt32 &&& Int32.toUInt32 31)).toInt32) hx hb dJ6_bitCount_0f7a4_3 rfl ?_
  refine lv_ldcw (v := 1431655765) hx hb hown (hts _ kJ6_bitCount_0f7a4_265) dJ6_bitCount_0f7a4_4 ?_
  refine lv_iand hx hb dJ6_bitCount_0f7a4_7 ?_
  refine lv_isub hx hb dJ6_bitCount_0f7a4_8 ?_
  refine lv_istore_n (lv' := [(0, .int (v - (((v.toUInt32 >>> ((1 : Int32).toUInt32 &&& Int32.toUInt32 31)).toInt32) &&& 1431655765)))]) hx hb dJ6_bitCount_0f7a4_9 rfl hl (by decide) rfl (fun ls hl => ?_)
  refine lv_iload_n hx hb dJ6_bitCount_0f7a4_10 rfl (lv_at hl 0 rfl) ?_
  refine lv_ldcw (v := 858993459) hx hb hown (hts _ kJ6_bitCount_0f7a4_266) dJ6_bitCount_0f7a4_11 ?_
  refine lv_iand hx hb dJ6_bitCount_0f7a4_14 ?_
  refine lv_iload_n hx hb dJ6_bitCount_0f7a4_15 rfl (lv_at hl 0 rfl) ?_
  refine lv_iconst (v := 2) hx hb dJ6_bitCount_0f7a4_16 (by decide) ?_
  refine lv_iushr (v := ((v - (((v.toUInt32 >>> ((1 : Int32).toUInt32 &&& Int32.toUInt32 31)).toInt32) &&& 1431655765)).toUInt32 >>> ((2 : Int32).toUInt32 &&& Int32.toUInt32 31)).toInt32) hx hb dJ6_bitCount_0f7a4_17 rfl ?_
  refine lv_ldcw (v := 858993459) hx hb hown (hts _ kJ6_bitCount_0f7a4_266) dJ6_bitCount_0f7a4_18 ?_
  refine lv_iand hx hb dJ6_bitCount_0f7a4_21 ?_
  refine lv_iadd hx hb dJ6_bitCount_0f7a4_22 ?_
  refine lv_istore_n (lv' := [(0, .int (((v - (((v.toUInt32 >>> ((1 : Int32).toUInt32 &&& Int32.toUInt32 31)).toInt32) &&& 1431655765)) &&& 858993459) + ((((v - (((v.toUInt32 >>> ((1 : Int32).toUInt32 &&& Int32.toUInt32 31)).toInt32) &&& 1431655765)).toUInt32 >>> ((2 : Int32).toUInt32 &&& Int32.toUInt32 31)).toInt32) &&& 858993459)))]) hx hb dJ6_bitCount_0f7a4_23 rfl hl (by decide) rfl (fun ls hl => ?_)
  refine lv_iload_n hx hb dJ6_bitCount_0f7a4_24 rfl (lv_at hl 0 rfl) ?_
  refine lv_iload_n hx hb dJ6_bitCount_0f7a4_25 rfl (lv_at hl 0 rfl) ?_
  refine lv_iconst (v := 4) hx hb dJ6_bitCount_0f7a4_26 (by decide) ?_
  refine lv_iushr (v := ((((v - (((v.toUInt32 >>> ((1 : Int32).toUInt32 &&& Int32.toUInt32 31)).toInt32) &&& 1431655765)) &&& 858993459) + ((((v - (((v.toUInt32 >>> ((1 : Int32).toUInt32 &&& Int32.toUInt32 31)).toInt32) &&& 1431655765)).toUInt32 >>> ((2 : Int32).toUInt32 &&& Int32.toUInt32 31)).toInt32) &&& 858993459)).toUInt32 >>> ((4 : Int32).toUInt32 &&& Int32.toUInt32 31)).toInt32) hx hb dJ6_bitCount_0f7a4_27 rfl ?_
  refine lv_iadd hx hb dJ6_bitCount_0f7a4_28 ?_
  refine lv_ldcw (v := 252645135) hx hb hown (hts _ kJ6_bitCount_0f7a4_267) dJ6_bitCount_0f7a4_29 ?_
  refine lv_iand hx hb dJ6_bitCount_0f7a4_32 ?_
  refine lv_istore_n (lv' := [(0, .int (((((v - (((v.toUInt32 >>> ((1 : Int32).toUInt32 &&& Int32.toUInt32 31)).toInt32) &&& 1431655765)) &&& 858993459) + ((((v - (((v.toUInt32 >>> ((1 : Int32).toUInt32 &&& Int32.toUInt32 31)).toInt32) &&& 1431655765)).toUInt32 >>> ((2 : Int32).toUInt32 &&& Int32.toUInt32 31)).toInt32) &&& 858993459)) + (((((v - (((v.toUInt32 >>> ((1 : Int32).toUInt32 &&& Int32.toUInt32 31)).toInt32) &&& 1431655765)) &&& 858993459) + ((((v - (((v.toUInt32 >>> ((1 : Int32).toUInt32 &&& Int32.toUInt32 31)).toInt32) &&& 1431655765)).toUInt32 >>> ((2 : Int32).toUInt32 &&& Int32.toUInt32 31)).toInt32) &&& 858993459)).toUInt32 >>> ((4 : Int32).toUInt32 &&& Int32.toUInt32 31)).toInt32)) &&& 252645135))]) hx hb dJ6_bitCount_0f7a4_33 rfl hl (by decide) rfl (fun ls hl => ?_)
  refine lv_iload_n hx hb dJ6_bitCount_0f7a4_34 rfl (lv_at hl 0 rfl) ?_
  refine lv_iload_n hx hb dJ6_bitCount_0f7a4_35 rfl (lv_at hl 0 rfl) ?_
  refine lv_bipush (v := 8) hx hb dJ6_bitCount_0f7a4_36 (by decide) ?_
  refine lv_iushr (v := ((((((v - (((v.toUInt32 >>> ((1 : Int32).toUInt32 &&& Int32.toUInt32 31)).toInt32) &&& 1431655765)) &&& 858993459) + ((((v - (((v.toUInt32 >>> ((1 : Int32).toUInt32 &&& Int32.toUInt32 31)).toInt32) &&& 1431655765)).toUInt32 >>> ((2 : Int32).toUInt32 &&& Int32.toUInt32 31)).toInt32) &&& 858993459)) + (((((v - (((v.toUInt32 >>> ((1 : Int32).toUInt32 &&& Int32.toUInt32 31)).toInt32) &&& 1431655765)) &&& 858993459) + ((((v - (((v.toUInt32 >>> ((1 : Int32).toUInt32 &&& Int32.toUInt32 31)).toInt32) &&& 1431655765)).toUInt32 >>> ((2 : Int32).toUInt32 &&& Int32.toUInt32 31)).toInt32) &&& 858993459)).toUInt32 >>> ((4 : Int32).toUInt32 &&& Int32.toUInt32 31)).toInt32)) &&& 252645135).toUInt32 >>> ((8 : Int32).toUInt32 &&& Int32.toUInt32 31)).toInt32) hx hb dJ6_bitCount_0f7a4_38 rfl ?_
  refine lv_iadd hx hb dJ6_bitCount_0f7a4_39 ?_
  refine lv_istore_n (lv' := [(0, .int ((((((v - (((v.toUInt32 >>> ((1 : Int32).toUInt32 &&& Int32.toUInt32 31)).toInt32) &&& 1431655765)) &&& 858993459) + ((((v - (((v.toUInt32 >>> ((1 : Int32).toUInt32 &&& Int32.toUInt32 31)).toInt32) &&& 1431655765)).toUInt32 >>> ((2 : Int32).toUInt32 &&& Int32.toUInt32 31)).toInt32) &&& 858993459)) + (((((v - (((v.toUInt32 >>> ((1 : Int32).toUInt32 &&& Int32.toUInt32 31)).toInt32) &&& 1431655765)) &&& 858993459) + ((((v - (((v.toUInt32 >>> ((1 : Int32).toUInt32 &&& Int32.toUInt32 31)).toInt32) &&& 1431655765)).toUInt32 >>> ((2 : Int32).toUInt32 &&& Int32.toUInt32 31)).toInt32) &&& 858993459)).toUInt32 >>> ((4 : Int32).toUInt32 &&& Int32.toUInt32 31)).toInt32)) &&& 252645135) + (((((((v - (((v.toUInt32 >>> ((1 : Int32).toUInt32 &&& Int32.toUInt32 31)).toInt32) &&& 1431655765)) &&& 858993459) + ((((v - (((v.toUInt32 >>> ((1 : Int32).toUInt32 &&& Int32.toUInt32 31)).toInt32) &&& 1431655765)).toUInt32 >>> ((2 : Int32).toUInt32 &&& Int32.toUInt32 31)).toInt32) &&& 858993459)) + (((((v - (((v.toUInt32 >>> ((1 : Int32).toUInt32 &&& Int32.toUInt32 31)).toInt32) &&& 1431655765)) &&& 858993459) + ((((v - (((v.toUInt32 >>> ((1 : Int32).toUInt32 &&& Int32.toUInt32 31)).toInt32) &&& 1431655765)).toUInt32 >>> ((2 : Int32).toUInt32 &&& Int32.toUInt32 31)).toInt32) &&& 858993459)).toUInt32 >>> ((4 : Int32).toUInt32 &&& Int32.toUInt32 31)).toInt32)) &&& 252645135).toUInt32 >>> ((8 : Int32).toUInt32 &&& Int32.toUInt32 31)).toInt32)))]) hx hb dJ6_bitCount_0f7a4_40 rfl hl (by decide) rfl (fun ls hl => ?_)
  refine lv_iload_n hx hb dJ6_bitCount_0f7a4_41 rfl (lv_at hl 0 rfl) ?_
  refine lv_iload_n hx hb dJ6_bitCount_0f7a4_42 rfl (lv_at hl 0 rfl) ?_
  refine lv_bipush (v := 16) hx hb dJ6_bitCount_0f7a4_43 (by decide) ?_
  refine lv_iushr (v := (((((((v - (((v.toUInt32 >>> ((1 : Int32).toUInt32 &&& Int32.toUInt32 31)).toInt32) &&& 1431655765)) &&& 858993459) + ((((v - (((v.toUInt32 >>> ((1 : Int32).toUInt32 &&& Int32.toUInt32 31)).toInt32) &&& 1431655765)).toUInt32 >>> ((2 : Int32).toUInt32 &&& Int32.toUInt32 31)).toInt32) &&& 858993459)) + (((((v - (((v.toUInt32 >>> ((1 : Int32).toUInt32 &&& Int32.toUInt32 31)).toInt32) &&& 1431655765)) &&& 858993459) + ((((v - (((v.toUInt32 >>> ((1 : Int32).toUInt32 &&& Int32.toUInt32 31)).toInt32) &&& 1431655765)).toUInt32 >>> ((2 : Int32).toUInt32 &&& Int32.toUInt32 31)).toInt32) &&& 858993459)).toUInt32 >>> ((4 : Int32).toUInt32 &&& Int32.toUInt32 31)).toInt32)) &&& 252645135) + (((((((v - (((v.toUInt32 >>> ((1 : Int32).toUInt32 &&& Int32.toUInt32 31)).toInt32) &&& 1431655765)) &&& 858993459) + ((((v - (((v.toUInt32 >>> ((1 : Int32).toUInt32 &&& Int32.toUInt32 31)).toInt32) &&& 1431655765)).toUInt32 >>> ((2 : Int32).toUInt32 &&& Int32.toUInt32 31)).toInt32) &&& 858993459)) + (((((v - (((v.toUInt32 >>> ((1 : Int32).toUInt32 &&& Int32.toUInt32 31)).toInt32) &&& 1431655765)) &&& 858993459) + ((((v - (((v.toUInt32 >>> ((1 : Int32).toUInt32 &&& Int32.toUInt32 31)).toInt32) &&& 1431655765)).toUInt32 >>> ((2 : Int32).toUInt32 &&& Int32.toUInt32 31)).toInt32) &&& 858993459)).toUInt32 >>> ((4 : Int32).toUInt32 &&& Int32.toUInt32 31)).toInt32)) &&& 252645135).toUInt32 >>> ((8 : Int32).toUInt32 &&& Int32.toUInt32 31)).toInt32)).toUInt32 >>> ((16 : Int32).toUInt32 &&& Int32.toUInt32 31)).toInt32) hx hb dJ6_bitCount_0f7a4_45 rfl ?_
  refine lv_iadd hx hb dJ6_bitCount_0f7a4_46 ?_
  refine lv_istore_n (lv' := [(0, .int (((((((v - (((v.toUInt32 >>> ((1 : Int32).toUInt32 &&& Int32.toUInt32 31)).toInt32) &&& 1431655765)) &&& 858993459) + ((((v - (((v.toUInt32 >>> ((1 : Int32).toUInt32 &&& Int32.toUInt32 31)).toInt32) &&& 1431655765)).toUInt32 >>> ((2 : Int32).toUInt32 &&& Int32.toUInt32 31)).toInt32) &&& 858993459)) + (((((v - (((v.toUInt32 >>> ((1 : Int32).toUInt32 &&& Int32.toUInt32 31)).toInt32) &&& 1431655765)) &&& 858993459) + ((((v - (((v.toUInt32 >>> ((1 : Int32).toUInt32 &&& Int32.toUInt32 31)).toInt32) &&& 1431655765)).toUInt32 >>> ((2 : Int32).toUInt32 &&& Int32.toUInt32 31)).toInt32) &&& 858993459)).toUInt32 >>> ((4 : Int32).toUInt32 &&& Int32.toUInt32 31)).toInt32)) &&& 252645135) + (((((((v - (((v.toUInt32 >>> ((1 : Int32).toUInt32 &&& Int32.toUInt32 31)).toInt32) &&& 1431655765)) &&& 858993459) + ((((v - (((v.toUInt32 >>> ((1 : Int32).toUInt32 &&& Int32.toUInt32 31)).toInt32) &&& 1431655765)).toUInt32 >>> ((2 : Int32).toUInt32 &&& Int32.toUInt32 31)).toInt32) &&& 858993459)) + (((((v - (((v.toUInt32 >>> ((1 : Int32).toUInt32 &&& Int32.toUInt32 31)).toInt32) &&& 1431655765)) &&& 858993459) + ((((v - (((v.toUInt32 >>> ((1 : Int32).toUInt32 &&& Int32.toUInt32 31)).toInt32) &&& 1431655765)).toUInt32 >>> ((2 : Int32).toUInt32 &&& Int32.toUInt32 31)).toInt32) &&& 858993459)).toUInt32 >>> ((4 : Int32).toUInt32 &&& Int32.toUInt32 31)).toInt32)) &&& 252645135).toUInt32 >>> ((8 : Int32).toUInt32 &&& Int32.toUInt32 31)).toInt32)) + ((((((((v - (((v.toUInt32 >>> ((1 : Int32).toUInt32 &&& Int32.toUInt32 31)).toInt32) &&& 1431655765)) &&& 858993459) + ((((v - (((v.toUInt32 >>> ((1 : Int32).toUInt32 &&& Int32.toUInt32 31)).toInt32) &&& 1431655765)).toUInt32 >>> ((2 : Int32).toUInt32 &&& Int32.toUInt32 31)).toInt32) &&& 858993459)) + (((((v - (((v.toUInt32 >>> ((1 : Int32).toUInt32 &&& Int32.toUInt32 31)).toInt32) &&& 1431655765)) &&& 858993459) + ((((v - (((v.toUInt32 >>> ((1 : Int32).toUInt32 &&& Int32.toUInt32 31)).toInt32) &&& 1431655765)).toUInt32 >>> ((2 : Int32).toUInt32 &&& Int32.toUInt32 31)).toInt32) &&& 858993459)).toUInt32 >>> ((4 : Int32).toUInt32 &&& Int32.toUInt32 31)).toInt32)) &&& 252645135) + (((((((v - (((v.toUInt32 >>> ((1 : Int32).toUInt32 &&& Int32.toUInt32 31)).toInt32) &&& 1431655765)) &&& 858993459) + ((((v - (((v.toUInt32 >>> ((1 : Int32).toUInt32 &&& Int32.toUInt32 31)).toInt32) &&& 1431655765)).toUInt32 >>> ((2 : Int32).toUInt32 &&& Int32.toUInt32 31)).toInt32) &&& 858993459)) + (((((v - (((v.toUInt32 >>> ((1 : Int32).toUInt32 &&& Int32.toUInt32 31)).toInt32) &&& 1431655765)) &&& 858993459) + ((((v - (((v.toUInt32 >>> ((1 : Int32).toUInt32 &&& Int32.toUInt32 31)).toInt32) &&& 1431655765)).toUInt32 >>> ((2 : Int32).toUInt32 &&& Int32.toUInt32 31)).toInt32) &&& 858993459)).toUInt32 >>> ((4 : Int32).toUInt32 &&& Int32.toUInt32 31)).toInt32)) &&& 252645135).toUInt32 >>> ((8 : Int32).toUInt32 &&& Int32.toUInt32 31)).toInt32)).toUInt32 >>> ((16 : Int32).toUInt32 &&& Int32.toUInt32 31)).toInt32)))]) hx hb dJ6_bitCount_0f7a4_47 rfl hl (by decide) rfl (fun ls hl => ?_)
  refine lv_iload_n hx hb dJ6_bitCount_0f7a4_48 rfl (lv_at hl 0 rfl) ?_
  refine lv_bipush (v := 63) hx hb dJ6_bitCount_0f7a4_49 (by decide) ?_
  refine lv_iand hx hb dJ6_bitCount_0f7a4_51 ?_
  rw [← hQ]
  refine x_iret (v := (((((((v - (((v.toUInt32 >>> ((1 : Int32).toUInt32 &&& Int32.toUInt32 31)).toInt32) &&& 1431655765)) &&& 858993459) + ((((v - (((v.toUInt32 >>> ((1 : Int32).toUInt32 &&& Int32.toUInt32 31)).toInt32) &&& 1431655765)).toUInt32 >>> ((2 : Int32).toUInt32 &&& Int32.toUInt32 31)).toInt32) &&& 858993459)) + (((((v - (((v.toUInt32 >>> ((1 : Int32).toUInt32 &&& Int32.toUInt32 31)).toInt32) &&& 1431655765)) &&& 858993459) + ((((v - (((v.toUInt32 >>> ((1 : Int32).toUInt32 &&& Int32.toUInt32 31)).toInt32) &&& 1431655765)).toUInt32 >>> ((2 : Int32).toUInt32 &&& Int32.toUInt32 31)).toInt32) &&& 858993459)).toUInt32 >>> ((4 : Int32).toUInt32 &&& Int32.toUInt32 31)).toInt32)) &&& 252645135) + (((((((v - (((v.toUInt32 >>> ((1 : Int32).toUInt32 &&& Int32.toUInt32 31)).toInt32) &&& 1431655765)) &&& 858993459) + ((((v - (((v.toUInt32 >>> ((1 : Int32).toUInt32 &&& Int32.toUInt32 31)).toInt32) &&& 1431655765)).toUInt32 >>> ((2 : Int32).toUInt32 &&& Int32.toUInt32 31)).toInt32) &&& 858993459)) + (((((v - (((v.toUInt32 >>> ((1 : Int32).toUInt32 &&& Int32.toUInt32 31)).toInt32) &&& 1431655765)) &&& 858993459) + ((((v - (((v.toUInt32 >>> ((1 : Int32).toUInt32 &&& Int32.toUInt32 31)).toInt32) &&& 1431655765)).toUInt32 >>> ((2 : Int32).toUInt32 &&& Int32.toUInt32 31)).toInt32) &&& 858993459)).toUInt32 >>> ((4 : Int32).toUInt32 &&& Int32.toUInt32 31)).toInt32)) &&& 252645135).toUInt32 >>> ((8 : Int32).toUInt32 &&& Int32.toUInt32 31)).toInt32)) + ((((((((v - (((v.toUInt32 >>> ((1 : Int32).toUInt32 &&& Int32.toUInt32 31)).toInt32) &&& 1431655765)) &&& 858993459) + ((((v - (((v.toUInt32 >>> ((1 : Int32).toUInt32 &&& Int32.toUInt32 31)).toInt32) &&& 1431655765)).toUInt32 >>> ((2 : Int32).toUInt32 &&& Int32.toUInt32 31)).toInt32) &&& 858993459)) + (((((v - (((v.toUInt32 >>> ((1 : Int32).toUInt32 &&& Int32.toUInt32 31)).toInt32) &&& 1431655765)) &&& 858993459) + ((((v - (((v.toUInt32 >>> ((1 : Int32).toUInt32 &&& Int32.toUInt32 31)).toInt32) &&& 1431655765)).toUInt32 >>> ((2 : Int32).toUInt32 &&& Int32.toUInt32 31)).toInt32) &&& 858993459)).toUInt32 >>> ((4 : Int32).toUInt32 &&& Int32.toUInt32 31)).toInt32)) &&& 252645135) + (((((((v - (((v.toUInt32 >>> ((1 : Int32).toUInt32 &&& Int32.toUInt32 31)).toInt32) &&& 1431655765)) &&& 858993459) + ((((v - (((v.toUInt32 >>> ((1 : Int32).toUInt32 &&& Int32.toUInt32 31)).toInt32) &&& 1431655765)).toUInt32 >>> ((2 : Int32).toUInt32 &&& Int32.toUInt32 31)).toInt32) &&& 858993459)) + (((((v - (((v.toUInt32 >>> ((1 : Int32).toUInt32 &&& Int32.toUInt32 31)).toInt32) &&& 1431655765)) &&& 858993459) + ((((v - (((v.toUInt32 >>> ((1 : Int32).toUInt32 &&& Int32.toUInt32 31)).toInt32) &&& 1431655765)).toUInt32 >>> ((2 : Int32).toUInt32 &&& Int32.toUInt32 31)).toInt32) &&& 858993459)).toUInt32 >>> ((4 : Int32).toUInt32 &&& Int32.toUInt32 31)).toInt32)) &&& 252645135).toUInt32 >>> ((8 : Int32).toUInt32 &&& Int32.toUInt32 31)).toInt32)).toUInt32 >>> ((16 : Int32).toUInt32 &&& Int32.toUInt32 31)).toInt32)) &&& 63) hx hb hr hX hS hlocks dJ6_bitCount_0f7a4_52 ?_
  exact ⟨rfl, rfl⟩

theorem kX1_windLeft_15 : (.fieldLink RX1 15 "WindTaken$Quarter" "after" "[I" : Cond) ∈ wsX1_windLeft := by decide +kernel
theorem iX1_windLeft_X1 : ∀ w ∈ wsX10, w ∈ wsX1_windLeft := by decide +kernel
theorem kX1_windLeft_9 : (.fieldLink RX1 9 "WindTaken$Quarter" "behind" "[I" : Cond) ∈ wsX1_windLeft := by decide +kernel
theorem kX1_windLeft_55 : (.fieldLink RX1 55 "WindTaken$Quarter" "taking" "I" : Cond) ∈ wsX1_windLeft := by decide +kernel
abbrev rmX1_windLeft : Room := { frames := 1, cells := 0, slots := 0, locals := 20 }
set_option maxHeartbeats 4000000 in
set_option maxRecDepth 100000 in
theorem c_X1_windLeft (l : Launch) (G : GG) (B : Nat) (tt : Nat → Nat) (hW : WOK (wX G B tt)) (x : Mem) {q : Nat} (hq : q < 4) {m : Nat} {s : Nat} {n : Nat} {nw : Nat → Int32} {h : Int32} {w : Int32} (hn8 : n ≤ 8) (hSV : SV n nw x q h) (hBL : BL nw x q w) (hm : m < n) : Met l yX1_windLeft wsX1_windLeft rmX1_windLeft (XP G (wX G B tt) [.ref (B + (65 + 13 * q)), .int (nI m), .int (nI s)] x) (va_Qi (fun r u => r = (sLeft nw n m q w s h) ∧ u = x) (XB G (wX G B tt)) (blkA B (B + 117))) 0 0 (blkA B (B + 117)) := by
  refine Met.ofW (cc := cX1_windLeft) (maxL := 3) (ret := (some .int)) (by decide) rfl ?_
  intro pp ee ss mm aa bb mt cd s1 Bd hml hv
  obtain ⟨hae, hX, hK, hE⟩ := hv
  have hx := Bd.exec
  have hb := Bd.bytes
  have hr := Bd.returns
  have hts := atoms_spec (ws := wsX1_windLeft) Bd.pre
  have hown : ss.vm.findClass RX1 = some mm.cls := findClass_of_methodNamed Bd.named
  have hlocks := Bd.notSynchronized
  have hS : va_S (blkA B (B + 117)) ss.heap ss.heap [] := va_S.rf
  have hl := lv_entry ([.ref (B + (65 + 13 * q)), .int (nI m), .int (nI s)]) (n := 3) (Nat.le_of_ble_eq_true rfl)
  subst hae
  rw [lg_entry_eq]
  generalize (lg_sl ([.ref (B + (65 + 13 * q)), .int (nI m), .int (nI s)]) ++ List.replicate (3 - (lg_sl ([.ref (B + (65 + 13 * q)), .int (nI m), .int (nI s)])).length) Slot.unset).toArray = ls at hl ⊢
  have hl : lv_has ls 3 [(0, .ref (B + (65 + 13 * q))), (1, .int (nI m)), (2, .int (nI s))] := hl
  generalize ([.ref (B + (65 + 13 * q)), .int (nI m), .int (nI s)] : List Value).toArray = aa at hts ⊢
  show W pp l ee rmX1_windLeft ss mm aa bb mt cd ss.heap [] 0 0 _ (F0 mm 0 ls [])
  generalize hQ : MQ bb (va_Qi (fun r u => r = (sLeft nw n m q w s h) ∧ u = x) (XB G (wX G B tt)) (blkA B (B + 117))) aa ss 0 0 (blkA B (B + 117)) = Q
  have hbc : bcI ((x (65 + 13 * q + 1) m &&& x (65 + 13 * q) 5) &&& (nI s ^^^ (-1))) = nI (cntN (fun o => sBehind nw m o q h && sTakes nw o q s) n) := by
    rw [hSV.2.2 m hm, hSV.2.1, mask_and, mask_not _ _ hn8, bc_mask _ hn8]
    congr 1
    refine cntN_congr n fun j hj => ?_
    rw [sTakes_s nw j q s]
    cases sBehind nw m j q h <;> simp
  have hcl := cntN_le (fun o => sBehind nw m o q h && sTakes nw o q s) n
  refine lv_aload_n hx hb dX1_windLeft_0 rfl (lv_at hl 0 rfl) ?_
  refine x_get (w := (wX G B tt)) (a := 65 + 13 * q) (v := .ref (B + (65 + 13 * q + 2))) hx hb hts iX1_windLeft_X1 hown hK hX (qu_lt hq) (shX_qu (G := G) (B := B) hq) rfl 1 (by decide) (hts _ kX1_windLeft_15) (fun _ h9 => h9) rfl dX1_windLeft_1 ?_
  refine lv_aload_n hx hb dX1_windLeft_4 rfl (lv_at hl 0 rfl) ?_
  refine x_get (w := (wX G B tt)) (a := 65 + 13 * q) (v := .ref (B + (65 + 13 * q + 1))) hx hb hts iX1_windLeft_X1 hown hK hX (qu_lt hq) (shX_qu (G := G) (B := B) hq) rfl 0 (by decide) (hts _ kX1_windLeft_9) (fun _ h9 => h9) rfl dX1_windLeft_5 ?_
  refine lv_iload_n hx hb dX1_windLeft_8 rfl (lv_at hl 1 rfl) ?_
  refine x_iald (w := (wX G B tt)) (a := 65 + 13 * q + 1) (n := 8) (j := m) hx hb hK hX (bh_lt hq) (shX_bh (G := G) (B := B) (f := x (65 + 13 * q + 1)) hq) rfl (by omega) (by decide) dX1_windLeft_9 ?_
  refine lv_aload_n hx hb dX1_windLeft_10 rfl (lv_at hl 0 rfl) ?_
  refine x_get (w := (wX G B tt)) (a := 65 + 13 * q) (v := .int (x (65 + 13 * q) 5)) hx hb hts iX1_windLeft_X1 hown hK hX (qu_lt hq) (shX_qu (G := G) (B := B) hq) rfl 5 (by decide) (hts _ kX1_windLeft_55) (fun _ h9 => h9) rfl dX1_windLeft_11 ?_
  refine lv_iand hx hb dX1_windLeft_14 ?_
  refine lv_iload_n hx hb dX1_windLeft_15 rfl (lv_at hl 2 rfl) ?_
  refine lv_iconst (v := (-1)) hx hb dX1_windLeft_16 (by decide) ?_
  refine lv_ixor hx hb dX1_windLeft_17 ?_
  refine lv_iand hx hb dX1_windLeft_18 ?_
  refine x_ip (w := (wX G B tt)) (x := x) (v := bcI (((x (65 + 13 * q + 1) m) &&& (x (65 + 13 * q) 5)) &&& (nI s ^^^ ((-1))))) (va_runS (As := [.int (((x (65 + 13 * q + 1) m) &&& (x (65 + 13 * q) 5)) &&& (nI s ^^^ ((-1))))]) (rest := [.ref (B + (65 + 13 * q + 2))]) ⟨hx, hb, hml, hown, hts⟩ (c_J6_bitCount_0f7a4 (l := l) (G := G) (B := B) (tt := tt) (hW := hW) (x := x) (v := ((x (65 + 13 * q + 1) m) &&& (x (65 + 13 * q) 5)) &&& (nI s ^^^ ((-1))))) (va_cwS 1 hts gX1_windLeft_J6_bitCount_0f7a4 rfl rfl rfl (by decide +kernel) ⟨Nat.le_of_ble_eq_true rfl, Nat.le_of_ble_eq_true rfl⟩) (x_ps (w := (wX G B tt)) hW hX hK hE hS [.int (((x (65 + 13 * q + 1) m) &&& (x (65 + 13 * q) 5)) &&& (nI s ^^^ ((-1))))]) rfl rfl hl.1 rfl (lv_room (Nat.le_of_ble_eq_true rfl)) dX1_windLeft_19 ⟨Nat.zero_le _, Nat.zero_le _⟩) hS (fun H_1 lo_2 hX hS => ?_)
  refine x_iald (w := (wX G B tt)) (a := 65 + 13 * q + 2) (n := 9) (j := cntN (fun o => sBehind nw m o q h && sTakes nw o q s) n) hx hb hK hX (af_lt hq) (shX_af (G := G) (B := B) (f := x (65 + 13 * q + 2)) hq) hbc (by omega) (by decide) dX1_windLeft_22 ?_
  rw [← hQ]
  refine x_iret (v := x (65 + 13 * q + 2) (cntN (fun o => sBehind nw m o q h && sTakes nw o q s) n)) hx hb hr hX hS hlocks dX1_windLeft_23 ?_
  exact ⟨hBL _ (by omega), rfl⟩

theorem kX1_strengthOf_52 : (.fieldLink RX1 52 "WindTaken$Quarter" "turning" "I" : Cond) ∈ wsX1_strengthOf := by decide +kernel
theorem iX1_strengthOf_X1 : ∀ w ∈ wsX10, w ∈ wsX1_strengthOf := by decide +kernel
theorem kX1_strengthOf_21 : (.fieldLink RX1 21 "WindTaken$Quarter" "ridge" "LWindTaken$Ridge;" : Cond) ∈ wsX1_strengthOf := by decide +kernel
theorem kX1_strengthOf_37 : (.fieldLink RX1 37 "WindTaken$Ridge" "mills" "[LWindTaken$Mill;" : Cond) ∈ wsX1_strengthOf := by decide +kernel
theorem iX1_strengthOf_X3 : ∀ w ∈ wsX30, w ∈ wsX1_strengthOf := by decide +kernel
theorem kX1_strengthOf_68 : (.fieldLink RX1 68 "WindTaken$Mill" "kind" "I" : Cond) ∈ wsX1_strengthOf := by decide +kernel
theorem iX1_strengthOf_X0 : ∀ w ∈ wsX00, w ∈ wsX1_strengthOf := by decide +kernel
theorem kX1_strengthOf_98 : (.fieldLink RX1 98 "WindTaken$Mill" "sails" "I" : Cond) ∈ wsX1_strengthOf := by decide +kernel
abbrev rmX1_strengthOf : Room := { frames := 2, cells := 0, slots := 0, locals := 42 }
set_option maxHeartbeats 4000000 in
set_option maxRecDepth 100000 in
theorem c_X1_strengthOf (l : Launch) (G : GG) (B : Nat) (tt : Nat → Nat) (hW : WOK (wX G B tt)) (x : Mem) {q : Nat} (hq : q < 4) {m : Nat} {s : Nat} {n : Nat} {nw : Nat → Int32} {h : Int32} {w : Int32} (hRq : RQ n x q nw) (hSV : SV n nw x q h) (hBL : BL nw x q w) (hm : m < n) : Met l yX1_strengthOf wsX1_strengthOf rmX1_strengthOf (XP G (wX G B tt) [.ref (B + (65 + 13 * q)), .int (nI m), .int (nI s)] x) (va_Qi (fun r u => r = (sFree nw n m q w s h) ∧ u = x) (XB G (wX G B tt)) (blkA B (B + 117))) 0 0 (blkA B (B + 117)) := by
  refine Met.ofW (cc := cX1_strengthOf) (maxL := 5) (ret := (some .int)) (by decide) rfl ?_
  intro pp ee ss mm aa bb mt cd s1 Bd hml hv
  obtain ⟨hae, hX, hK, hE⟩ := hv
  have hx := Bd.exec
  have hb := Bd.bytes
  have hr := Bd.returns
  have hts := atoms_spec (ws := wsX1_strengthOf) Bd.pre
  have hown : ss.vm.findClass RX1 = some mm.cls := findClass_of_methodNamed Bd.named
  have hlocks := Bd.notSynchronized
  have hS : va_S (blkA B (B + 117)) ss.heap ss.heap [] := va_S.rf
  have hl := lv_entry ([.ref (B + (65 + 13 * q)), .int (nI m), .int (nI s)]) (n := 5) (Nat.le_of_ble_eq_true rfl)
  subst hae
  rw [lg_entry_eq]
  generalize (lg_sl ([.ref (B + (65 + 13 * q)), .int (nI m), .int (nI s)]) ++ List.replicate (5 - (lg_sl ([.ref (B + (65 + 13 * q)), .int (nI m), .int (nI s)])).length) Slot.unset).toArray = ls at hl ⊢
  have hl : lv_has ls 5 [(0, .ref (B + (65 + 13 * q))), (1, .int (nI m)), (2, .int (nI s))] := hl
  generalize ([.ref (B + (65 + 13 * q)), .int (nI m), .int (nI s)] : List Value).toArray = aa at hts ⊢
  show W pp l ee rmX1_strengthOf ss mm aa bb mt cd ss.heap [] 0 0 _ (F0 mm 0 ls [])
  generalize hQ : MQ bb (va_Qi (fun r u => r = (sFree nw n m q w s h) ∧ u = x) (XB G (wX G B tt)) (blkA B (B + 117))) aa ss 0 0 (blkA B (B + 117)) = Q
  have hn8 := hRq.1
  have hts9 : (x (65 + 13 * q) 4 &&& (nI s ^^^ (-1))) &&& ((1 : Int32) <<< (nI m &&& 31)) = 0 ↔ ¬ sTurns nw m q s = true := by
    rw [hSV.1, mask_not _ _ hn8, mask_tst _ hn8 (by omega), sTurns_s nw m q s]
    simp [hm]
  refine lv_aload_n hx hb dX1_strengthOf_0 rfl (lv_at hl 0 rfl) ?_
  refine x_get (w := (wX G B tt)) (a := 65 + 13 * q) (v := .int (x (65 + 13 * q) 4)) hx hb hts iX1_strengthOf_X1 hown hK hX (qu_lt hq) (shX_qu (G := G) (B := B) hq) rfl 4 (by decide) (hts _ kX1_strengthOf_52) (fun _ h9 => h9) rfl dX1_strengthOf_1 ?_
  refine lv_iload_n hx hb dX1_strengthOf_4 rfl (lv_at hl 2 rfl) ?_
  refine lv_iconst (v := (-1)) hx hb dX1_strengthOf_5 (by decide) ?_
  refine lv_ixor hx hb dX1_strengthOf_6 ?_
  refine lv_iand hx hb dX1_strengthOf_7 ?_
  refine lv_iconst (v := 1) hx hb dX1_strengthOf_8 (by decide) ?_
  refine lv_iload_n hx hb dX1_strengthOf_9 rfl (lv_at hl 1 rfl) ?_
  refine lv_ishl hx hb dX1_strengthOf_10 ?_
  refine lv_iand hx hb dX1_strengthOf_11 ?_
  refine lv_if_ne (tgt := 17) hx hb dX1_strengthOf_12 (by decide) (fun c_1 => ?_) (fun c_1 => ?_)
  · refine lv_aload_n hx hb dX1_strengthOf_17 rfl (lv_at hl 0 rfl) ?_
    refine x_get (w := (wX G B tt)) (a := 65 + 13 * q) (v := .ref (B + (65 + 13 * q + 3))) hx hb hts iX1_strengthOf_X1 hown hK hX (qu_lt hq) (shX_qu (G := G) (B := B) hq) rfl 2 (by decide) (hts _ kX1_strengthOf_21) (fun _ h9 => h9) rfl dX1_strengthOf_18 ?_
    refine x_get (w := (wX G B tt)) (a := 65 + 13 * q + 3) (v := .ref (B + ((65 + 13 * q + 3) + 1))) hx hb hts iX1_strengthOf_X3 hown hK hX (rg_lt (rgQ hq)) (shX_ri (G := G) (B := B) (rgQ hq)) rfl 0 (by decide) (hts _ kX1_strengthOf_37) (fun _ h9 => h9) rfl dX1_strengthOf_21 ?_
    refine lv_iload_n hx hb dX1_strengthOf_24 rfl (lv_at hl 1 rfl) ?_
    refine x_aald (w := (wX G B tt)) (a := (65 + 13 * q + 3) + 1) (n := 8) (j := m) (q := B + ((65 + 13 * q + 3) + 1 + 1 + m)) (t0 := 2) hx hb hK hX (rg_lt1 (rgQ hq)) (shX_ma (G := G) (B := B) (f := x ((65 + 13 * q + 3) + 1)) (rgQ hq)) rfl rfl (by omega) (by decide) rfl dX1_strengthOf_25 ?_
    refine lv_astore_n (lv' := [(3, .ref (B + ((65 + 13 * q + 3) + 1 + 1 + m))), (0, .ref (B + (65 + 13 * q))), (1, .int (nI m)), (2, .int (nI s))]) hx hb dX1_strengthOf_26 rfl hl (by decide) rfl (fun ls hl => ?_)
    refine lv_aload_n hx hb dX1_strengthOf_27 rfl (lv_at hl 0 rfl) ?_
    refine x_get (w := (wX G B tt)) (a := (65 + 13 * q + 3) + 1 + 1 + m) (v := .int (x ((65 + 13 * q + 3) + 1 + 1 + m) 1)) hx hb hts iX1_strengthOf_X0 hown hK hX (rg_ltm (rgQ hq) (by omega)) (shX_mi (G := G) (B := B) (rgQ hq) (by omega)) rfl 1 (by decide) (hts _ kX1_strengthOf_68) (fun _ h9 => h9) rfl dX1_strengthOf_28 ?_
    refine lv_iconst (v := 4) hx hb dX1_strengthOf_31 (by decide) ?_
    refine lv_icmp_ne (tgt := 42) hx hb dX1_strengthOf_32 (by decide) (fun c_2 => ?_) (fun c_2 => ?_)
    · refine lv_aload_n hx hb dX1_strengthOf_42 rfl (lv_at hl 1 rfl) ?_
      refine lv_iload_n hx hb dX1_strengthOf_43 rfl (lv_at hl 2 rfl) ?_
      refine lv_iload_n hx hb dX1_strengthOf_44 rfl (lv_at hl 3 rfl) ?_
      refine x_ip (w := (wX G B tt)) (x := x) (v := sLeft nw n m q w s h) (va_runV (As := [.int (nI m), .int (nI s)]) (rest := []) ⟨hx, hb, hml, hown, hts⟩ (c_X1_windLeft (l := l) (G := G) (B := B) (tt := tt) (hW := hW) (x := x) (q := q) (hq := hq) (m := m) (s := s) (n := n) (nw := nw) (h := h) (w := w) (hn8 := hn8) (hSV := hSV) (hBL := hBL) (hm := (by omega))) (cwV 2 hts gX1_strengthOf_X1_windLeft rfl rfl rfl (by decide +kernel) ⟨Nat.le_of_ble_eq_true rfl, Nat.le_of_ble_eq_true rfl⟩) (x_pv (w := (wX G B tt)) (a := 65 + 13 * q) hW hX hK hE hS [.int (nI m), .int (nI s)] (qu_lt hq) (shX_qu (G := G) (B := B) hq) rfl) rfl rfl hl.1 rfl (lv_room (Nat.le_of_ble_eq_true rfl)) dX1_strengthOf_45 ⟨Nat.zero_le _, Nat.zero_le _⟩) hS (fun H_3 lo_4 hX hS => ?_)
      refine lv_aload_n hx hb dX1_strengthOf_48 rfl (lv_at hl 0 rfl) ?_
      refine x_get (w := (wX G B tt)) (a := (65 + 13 * q + 3) + 1 + 1 + m) (v := .int (x ((65 + 13 * q + 3) + 1 + 1 + m) 5)) hx hb hts iX1_strengthOf_X0 hown hK hX (rg_ltm (rgQ hq) (by omega)) (shX_mi (G := G) (B := B) (rgQ hq) (by omega)) rfl 5 (by decide) (hts _ kX1_strengthOf_98) (fun _ h9 => h9) rfl dX1_strengthOf_49 ?_
      refine lv_imul hx hb dX1_strengthOf_52 ?_
      refine lv_istore (lv' := [(4, .int ((sLeft nw n m q w s h) * (x ((65 + 13 * q + 3) + 1 + 1 + m) 5))), (3, .ref (B + ((65 + 13 * q + 3) + 1 + 1 + m))), (0, .ref (B + (65 + 13 * q))), (1, .int (nI m)), (2, .int (nI s))]) hx hb dX1_strengthOf_53 hl (by decide) rfl (fun ls hl => ?_)
      refine lv_aload_n hx hb dX1_strengthOf_55 rfl (lv_at hl 1 rfl) ?_
      refine x_get (w := (wX G B tt)) (a := (65 + 13 * q + 3) + 1 + 1 + m) (v := .int (x ((65 + 13 * q + 3) + 1 + 1 + m) 1)) hx hb hts iX1_strengthOf_X0 hown hK hX (rg_ltm (rgQ hq) (by omega)) (shX_mi (G := G) (B := B) (rgQ hq) (by omega)) rfl 1 (by decide) (hts _ kX1_strengthOf_68) (fun _ h9 => h9) rfl dX1_strengthOf_56 ?_
      refine lv_iconst (v := 3) hx hb dX1_strengthOf_59 (by decide) ?_
      have kJ_7 : ∀ (v_6 : Int32) (_ : v_6 = (if (x ((65 + 13 * q + 3) + 1 + 1 + m) 1) = 3 then (((sLeft nw n m q w s h) * (x ((65 + 13 * q + 3) + 1 + 1 + m) 5)) / 20) else (((sLeft nw n m q w s h) * (x ((65 + 13 * q + 3) + 1 + 1 + m) 5)) / 10))) (H_8 : Heap) (lo_9 : List Loc) (_ : MR G (wX G B tt) x H_8) (_ : va_S (blkA B (B + 117)) ss.heap H_8 lo_9) (ls : Array Slot) (_ : lv_has ls 5 [(4, .int ((sLeft nw n m q w s h) * (x ((65 + 13 * q + 3) + 1 + 1 + m) 5))), (3, .ref (B + ((65 + 13 * q + 3) + 1 + 1 + m))), (0, .ref (B + (65 + 13 * q))), (1, .int (nI m)), (2, .int (nI s))]), W pp l ee rmX1_strengthOf ss mm aa bb mt cd H_8 lo_9 0 0 Q (F0 mm 76 ls [.int (v_6)]) := by
        intro v_6 ev_6 H_8 lo_9 hX hS ls hl
        rw [← hQ]
        refine x_iret (v := v_6) hx hb hr hX hS hlocks dX1_strengthOf_76 ?_
        exact ⟨by unfold sFree; rw [if_pos (Classical.not_not.mp (fun z => c_1 (hts9.mpr z))), if_neg (by rw [← hRq.kd hm]; exact c_2), ev_6, hRq.sa hm, hRq.kd hm]; split <;> rfl, rfl⟩
      refine lv_icmp_ne (tgt := 71) hx hb dX1_strengthOf_60 (by decide) (fun c_5 => ?_) (fun c_5 => ?_)
      · refine lv_iload hx hb dX1_strengthOf_71 (lv_at hl 0 rfl) ?_
        refine lv_bipush (v := 10) hx hb dX1_strengthOf_73 (by decide) ?_
        refine lv_idiv hx hb dX1_strengthOf_75 (by decide) ?_
        exact kJ_7 (((sLeft nw n m q w s h) * (x ((65 + 13 * q + 3) + 1 + 1 + m) 5)) / 10) (by rw [if_neg c_5]) _ _ hX hS ls (lv_sub hl [0, 1, 2, 3, 4] rfl)
      · refine lv_iload hx hb dX1_strengthOf_63 (lv_at hl 0 rfl) ?_
        refine lv_bipush (v := 20) hx hb dX1_strengthOf_65 (by decide) ?_
        refine lv_idiv hx hb dX1_strengthOf_67 (by decide) ?_
        refine lv_goto (tgt := 76) hx hb dX1_strengthOf_68 (by decide) ?_
        exact kJ_7 (((sLeft nw n m q w s h) * (x ((65 + 13 * q + 3) + 1 + 1 + m) 5)) / 20) (by rw [if_pos c_5]) _ _ hX hS ls (lv_sub hl [0, 1, 2, 3, 4] rfl)
    · refine lv_iconst (v := 5) hx hb dX1_strengthOf_35 (by decide) ?_
      refine lv_aload_n hx hb dX1_strengthOf_36 rfl (lv_at hl 0 rfl) ?_
      refine x_get (w := (wX G B tt)) (a := (65 + 13 * q + 3) + 1 + 1 + m) (v := .int (x ((65 + 13 * q + 3) + 1 + 1 + m) 5)) hx hb hts iX1_strengthOf_X0 hown hK hX (rg_ltm (rgQ hq) (by omega)) (shX_mi (G := G) (B := B) (rgQ hq) (by omega)) rfl 5 (by decide) (hts _ kX1_strengthOf_98) (fun _ h9 => h9) rfl dX1_strengthOf_37 ?_
      refine lv_imul hx hb dX1_strengthOf_40 ?_
      rw [← hQ]
      refine x_iret (v := 5 * (x ((65 + 13 * q + 3) + 1 + 1 + m) 5)) hx hb hr hX hS hlocks dX1_strengthOf_41 ?_
      exact ⟨by unfold sFree; rw [if_pos (Classical.not_not.mp (fun z => c_1 (hts9.mpr z))), if_pos (by rw [← hRq.kd hm]; exact c_2), hRq.sa hm], rfl⟩
  · refine lv_iconst (v := 0) hx hb dX1_strengthOf_15 (by decide) ?_
    rw [← hQ]
    refine x_iret (v := 0) hx hb hr hX hS hlocks dX1_strengthOf_16 ?_
    exact ⟨by unfold sFree; rw [if_neg (hts9.mp c_1)], rfl⟩

theorem kX1_strengthOfAll_21 : (.fieldLink RX1 21 "WindTaken$Quarter" "ridge" "LWindTaken$Ridge;" : Cond) ∈ wsX1_strengthOfAll := by decide +kernel
theorem iX1_strengthOfAll_X1 : ∀ w ∈ wsX10, w ∈ wsX1_strengthOfAll := by decide +kernel
theorem kX1_strengthOfAll_58 : (.fieldLink RX1 58 "WindTaken$Ridge" "count" "I" : Cond) ∈ wsX1_strengthOfAll := by decide +kernel
theorem iX1_strengthOfAll_X3 : ∀ w ∈ wsX30, w ∈ wsX1_strengthOfAll := by decide +kernel
abbrev rmX1_strengthOfAll : Room := { frames := 3, cells := 0, slots := 0, locals := 66 }
set_option maxHeartbeats 4000000 in
set_option maxRecDepth 100000 in
theorem c_X1_strengthOfAll (l : Launch) (G : GG) (B : Nat) (tt : Nat → Nat) (hW : WOK (wX G B tt)) (x : Mem) {q : Nat} (hq : q < 4) {n : Nat} {nw : Nat → Int32} {h : Int32} {w : Int32} (hRq : RQ n x q nw) (hSV : SV n nw x q h) (hBL : BL nw x q w) : Met l yX1_strengthOfAll wsX1_strengthOfAll rmX1_strengthOfAll (XP G (wX G B tt) [.ref (B + (65 + 13 * q))] x) (va_Qi (fun r u => r = (sumN (fun m => sFree nw n m q w 0 h) n) ∧ u = x) (XB G (wX G B tt)) (blkA B (B + 117))) 0 0 (blkA B (B + 117)) := by
  refine Met.ofW (cc := cX1_strengthOfAll) (maxL := 3) (ret := (some .int)) (by decide) rfl ?_
  intro pp ee ss mm aa bb mt cd s1 Bd hml hv
  obtain ⟨hae, hX, hK, hE⟩ := hv
  have hx := Bd.exec
  have hb := Bd.bytes
  have hr := Bd.returns
  have hts := atoms_spec (ws := wsX1_strengthOfAll) Bd.pre
  have hown : ss.vm.findClass RX1 = some mm.cls := findClass_of_methodNamed Bd.named
  have hlocks := Bd.notSynchronized
  have hS : va_S (blkA B (B + 117)) ss.heap ss.heap [] := va_S.rf
  have hl := lv_entry ([.ref (B + (65 + 13 * q))]) (n := 3) (Nat.le_of_ble_eq_true rfl)
  subst hae
  rw [lg_entry_eq]
  generalize (lg_sl ([.ref (B + (65 + 13 * q))]) ++ List.replicate (3 - (lg_sl ([.ref (B + (65 + 13 * q))])).length) Slot.unset).toArray = ls at hl ⊢
  have hl : lv_has ls 3 [(0, .ref (B + (65 + 13 * q)))] := hl
  generalize ([.ref (B + (65 + 13 * q))] : List Value).toArray = aa at hts ⊢
  show W pp l ee rmX1_strengthOfAll ss mm aa bb mt cd ss.heap [] 0 0 _ (F0 mm 0 ls [])
  generalize hQ : MQ bb (va_Qi (fun r u => r = (sumN (fun m => sFree nw n m q w 0 h) n) ∧ u = x) (XB G (wX G B tt)) (blkA B (B + 117))) aa ss 0 0 (blkA B (B + 117)) = Q
  have hn8 := hRq.1
  refine lv_iconst (v := 0) hx hb dX1_strengthOfAll_0 (by decide) ?_
  refine lv_istore_n (lv' := [(1, .int (0)), (0, .ref (B + (65 + 13 * q)))]) hx hb dX1_strengthOfAll_1 rfl hl (by decide) rfl (fun ls hl => ?_)
  refine lv_iconst (v := 0) hx hb dX1_strengthOfAll_2 (by decide) ?_
  refine lv_istore_n (lv' := [(2, .int (0)), (1, .int (0)), (0, .ref (B + (65 + 13 * q)))]) hx hb dX1_strengthOfAll_3 rfl hl (by decide) rfl (fun ls hl => ?_)
  have L_1 : ∀ (n9 : Nat) (i : Nat) (sm : Int32)  (_ : n9 = n - i) (_ : i ≤ n ∧ sm = sumN (fun m => sFree nw n m q w 0 h) i) (H_2 : Heap) (lo_3 : List Loc) (_ : MR G (wX G B tt) x H_2) (_ : va_S (blkA B (B + 117)) ss.heap H_2 lo_3) (ls : Array Slot) (_ : lv_has ls 3 [(2, .int (nI i)), (1, .int (sm)), (0, .ref (B + (65 + 13 * q)))]), W pp l ee rmX1_strengthOfAll ss mm aa bb mt cd H_2 lo_3 0 0 Q (F0 mm 4 ls []) := by
    intro n9
    induction n9 using Nat.strongRecOn with
    | _ n9 ih => 
      have ih_4 := ih
      intro i sm hn9 hI H_2 lo_3 hX hS ls hl
      obtain ⟨hi, hsm⟩ := hI
      refine lv_iload_n hx hb dX1_strengthOfAll_4 rfl (lv_at hl 0 rfl) ?_
      refine lv_aload_n hx hb dX1_strengthOfAll_5 rfl (lv_at hl 2 rfl) ?_
      refine x_get (w := (wX G B tt)) (a := 65 + 13 * q) (v := .ref (B + (65 + 13 * q + 3))) hx hb hts iX1_strengthOfAll_X1 hown hK hX (qu_lt hq) (shX_qu (G := G) (B := B) hq) rfl 2 (by decide) (hts _ kX1_strengthOfAll_21) (fun _ h9 => h9) rfl dX1_strengthOfAll_6 ?_
      refine x_get (w := (wX G B tt)) (a := 65 + 13 * q + 3) (v := .int (x (65 + 13 * q + 3) 1)) hx hb hts iX1_strengthOfAll_X3 hown hK hX (rg_lt (rgQ hq)) (shX_ri (G := G) (B := B) (rgQ hq)) rfl 1 (by decide) (hts _ kX1_strengthOfAll_58) (fun _ h9 => h9) rfl dX1_strengthOfAll_9 ?_
      refine lv_icmp_ge (tgt := 30) hx hb dX1_strengthOfAll_12 (by decide) (fun c_4 => ?_) (fun c_4 => ?_)
      · have nc_4 := (n_le (a := n) (b := i) hRq.cnt rfl (by omega) (by omega)).mp c_4
        refine lv_iload_n hx hb dX1_strengthOfAll_30 rfl (lv_at hl 1 rfl) ?_
        rw [← hQ]
        refine x_iret (v := sm) hx hb hr hX hS hlocks dX1_strengthOfAll_31 ?_
        have e9 : i = n := by omega
        exact ⟨by rw [hsm, e9], rfl⟩
      · have nc_4 := Nat.not_le.mp (fun q => c_4 ((n_le (a := n) (b := i) hRq.cnt rfl (by omega) (by omega)).mpr q))
        refine lv_iload_n hx hb dX1_strengthOfAll_15 rfl (lv_at hl 1 rfl) ?_
        refine lv_aload_n hx hb dX1_strengthOfAll_16 rfl (lv_at hl 2 rfl) ?_
        refine lv_iload_n hx hb dX1_strengthOfAll_17 rfl (lv_at hl 0 rfl) ?_
        refine lv_iconst (v := 0) hx hb dX1_strengthOfAll_18 (by decide) ?_
        refine x_ip (w := (wX G B tt)) (x := x) (v := sFree nw n i q w 0 h) (va_runV (As := [.int (nI i), .int (0)]) (rest := [.int (sm)]) ⟨hx, hb, hml, hown, hts⟩ (c_X1_strengthOf (l := l) (G := G) (B := B) (tt := tt) (hW := hW) (x := x) (q := q) (hq := hq) (m := i) (s := 0) (n := n) (nw := nw) (h := h) (w := w) (hRq := hRq) (hSV := hSV) (hBL := hBL) (hm := (by omega))) (cwV 2 hts gX1_strengthOfAll_X1_strengthOf rfl rfl rfl (by decide +kernel) ⟨Nat.le_of_ble_eq_true rfl, Nat.le_of_ble_eq_true rfl⟩) (x_pv (w := (wX G B tt)) (a := 65 + 13 * q) hW hX hK hE hS [.int (nI i), .int (0)] (qu_lt hq) (shX_qu (G := G) (B := B) hq) rfl) rfl rfl hl.1 rfl (lv_room (Nat.le_of_ble_eq_true rfl)) dX1_strengthOfAll_19 ⟨Nat.zero_le _, Nat.zero_le _⟩) hS (fun H_5 lo_6 hX hS => ?_)
        refine lv_iadd hx hb dX1_strengthOfAll_22 ?_
        refine lv_istore_n (lv' := [(1, .int (sm + (sFree nw n i q w 0 h))), (2, .int (nI i)), (0, .ref (B + (65 + 13 * q)))]) hx hb dX1_strengthOfAll_23 rfl hl (by decide) rfl (fun ls hl => ?_)
        refine lv_iinc (v := nI (i + 1)) (lv' := [(2, .int (nI (i + 1))), (1, .int (sm + (sFree nw n i q w 0 h))), (0, .ref (B + (65 + 13 * q)))]) hx hb dX1_strengthOfAll_24 hl (k := 1) rfl (inc_nI _) (by decide) rfl (fun ls hl => ?_)
        refine lv_goto (tgt := 4) hx hb dX1_strengthOfAll_27 (by decide) ?_
        exact ih_4 _ (by omega) (i + 1) (sm + (sFree nw n i q w 0 h)) rfl ⟨by omega, by rw [sumN, ← hsm]⟩ _ _ hX hS ls (lv_sub hl [0, 1, 2] rfl)
  exact L_1 _ (0) (0) rfl ⟨Nat.zero_le _, rfl⟩ _ _ hX hS ls (lv_sub hl [0, 1, 2] rfl)

theorem kX1_grindsBy_21 : (.fieldLink RX1 21 "WindTaken$Quarter" "ridge" "LWindTaken$Ridge;" : Cond) ∈ wsX1_grindsBy := by decide +kernel
theorem iX1_grindsBy_X1 : ∀ w ∈ wsX10, w ∈ wsX1_grindsBy := by decide +kernel
theorem kX1_grindsBy_37 : (.fieldLink RX1 37 "WindTaken$Ridge" "mills" "[LWindTaken$Mill;" : Cond) ∈ wsX1_grindsBy := by decide +kernel
theorem iX1_grindsBy_X3 : ∀ w ∈ wsX30, w ∈ wsX1_grindsBy := by decide +kernel
theorem kX1_grindsBy_107 : (.fieldLink RX1 107 "WindTaken$Mill" "corn" "I" : Cond) ∈ wsX1_grindsBy := by decide +kernel
theorem iX1_grindsBy_X0 : ∀ w ∈ wsX00, w ∈ wsX1_grindsBy := by decide +kernel
theorem kX1_grindsBy_46 : (.methodLink RX1 46 Lib.Math.min.name : Cond) ∈ wsX1_grindsBy := by decide +kernel
theorem ksX1_grindsBy_min : (.static Lib.Math.min.name : Cond) ∈ wsX1_grindsBy := by decide +kernel
theorem kiX1_grindsBy_Math : (.initialized "java/lang/Math" : Cond) ∈ wsX1_grindsBy := by decide +kernel
theorem kcX1_grindsBy_min : (.code Lib.Math.min.name Lib.Math.min.code 2 (some .int) : Cond) ∈ wsX1_grindsBy := by decide +kernel
abbrev rmX1_grindsBy : Room := { frames := 3, cells := 0, slots := 0, locals := 66 }
set_option maxHeartbeats 4000000 in
set_option maxRecDepth 100000 in
theorem c_X1_grindsBy (l : Launch) (G : GG) (B : Nat) (tt : Nat → Nat) (hW : WOK (wX G B tt)) (x : Mem) {q : Nat} (hq : q < 4) {m : Nat} {s : Nat} {n : Nat} {nw : Nat → Int32} {h : Int32} {w : Int32} (hRq : RQ n x q nw) (hSV : SV n nw x q h) (hBL : BL nw x q w) (hm : m < n) : Met l yX1_grindsBy wsX1_grindsBy rmX1_grindsBy (XP G (wX G B tt) [.ref (B + (65 + 13 * q)), .int (nI m), .int (nI s)] x) (va_Qi (fun r u => r = (sGr nw n m q w s h) ∧ u = x) (XB G (wX G B tt)) (blkA B (B + 117))) 0 0 (blkA B (B + 117)) := by
  refine Met.ofW (cc := cX1_grindsBy) (maxL := 3) (ret := (some .int)) (by decide) rfl ?_
  intro pp ee ss mm aa bb mt cd s1 Bd hml hv
  obtain ⟨hae, hX, hK, hE⟩ := hv
  have hx := Bd.exec
  have hb := Bd.bytes
  have hr := Bd.returns
  have hts := atoms_spec (ws := wsX1_grindsBy) Bd.pre
  have hown : ss.vm.findClass RX1 = some mm.cls := findClass_of_methodNamed Bd.named
  have hlocks := Bd.notSynchronized
  have hS : va_S (blkA B (B + 117)) ss.heap ss.heap [] := va_S.rf
  have hl := lv_entry ([.ref (B + (65 + 13 * q)), .int (nI m), .int (nI s)]) (n := 3) (Nat.le_of_ble_eq_true rfl)
  subst hae
  rw [lg_entry_eq]
  generalize (lg_sl ([.ref (B + (65 + 13 * q)), .int (nI m), .int (nI s)]) ++ List.replicate (3 - (lg_sl ([.ref (B + (65 + 13 * q)), .int (nI m), .int (nI s)])).length) Slot.unset).toArray = ls at hl ⊢
  have hl : lv_has ls 3 [(0, .ref (B + (65 + 13 * q))), (1, .int (nI m)), (2, .int (nI s))] := hl
  generalize ([.ref (B + (65 + 13 * q)), .int (nI m), .int (nI s)] : List Value).toArray = aa at hts ⊢
  show W pp l ee rmX1_grindsBy ss mm aa bb mt cd ss.heap [] 0 0 _ (F0 mm 0 ls [])
  generalize hQ : MQ bb (va_Qi (fun r u => r = (sGr nw n m q w s h) ∧ u = x) (XB G (wX G B tt)) (blkA B (B + 117))) aa ss 0 0 (blkA B (B + 117)) = Q
  have hn8 := hRq.1
  refine lv_aload_n hx hb dX1_grindsBy_0 rfl (lv_at hl 0 rfl) ?_
  refine lv_iload_n hx hb dX1_grindsBy_1 rfl (lv_at hl 1 rfl) ?_
  refine lv_iload_n hx hb dX1_grindsBy_2 rfl (lv_at hl 2 rfl) ?_
  refine x_ip (w := (wX G B tt)) (x := x) (v := sFree nw n m q w s h) (va_runV (As := [.int (nI m), .int (nI s)]) (rest := []) ⟨hx, hb, hml, hown, hts⟩ (c_X1_strengthOf (l := l) (G := G) (B := B) (tt := tt) (hW := hW) (x := x) (q := q) (hq := hq) (m := m) (s := s) (n := n) (nw := nw) (h := h) (w := w) (hRq := hRq) (hSV := hSV) (hBL := hBL) (hm := (by omega))) (cwV 2 hts gX1_grindsBy_X1_strengthOf rfl rfl rfl (by decide +kernel) ⟨Nat.le_of_ble_eq_true rfl, Nat.le_of_ble_eq_true rfl⟩) (x_pv (w := (wX G B tt)) (a := 65 + 13 * q) hW hX hK hE hS [.int (nI m), .int (nI s)] (qu_lt hq) (shX_qu (G := G) (B := B) hq) rfl) rfl rfl hl.1 rfl (lv_room (Nat.le_of_ble_eq_true rfl)) dX1_grindsBy_3 ⟨Nat.zero_le _, Nat.zero_le _⟩) hS (fun H_1 lo_2 hX hS => ?_)
  refine lv_aload_n hx hb dX1_grindsBy_6 rfl (lv_at hl 0 rfl) ?_
  refine x_get (w := (wX G B tt)) (a := 65 + 13 * q) (v := .ref (B + (65 + 13 * q + 3))) hx hb hts iX1_grindsBy_X1 hown hK hX (qu_lt hq) (shX_qu (G := G) (B := B) hq) rfl 2 (by decide) (hts _ kX1_grindsBy_21) (fun _ h9 => h9) rfl dX1_grindsBy_7 ?_
  refine x_get (w := (wX G B tt)) (a := 65 + 13 * q + 3) (v := .ref (B + ((65 + 13 * q + 3) + 1))) hx hb hts iX1_grindsBy_X3 hown hK hX (rg_lt (rgQ hq)) (shX_ri (G := G) (B := B) (rgQ hq)) rfl 0 (by decide) (hts _ kX1_grindsBy_37) (fun _ h9 => h9) rfl dX1_grindsBy_10 ?_
  refine lv_iload_n hx hb dX1_grindsBy_13 rfl (lv_at hl 1 rfl) ?_
  refine x_aald (w := (wX G B tt)) (a := (65 + 13 * q + 3) + 1) (n := 8) (j := m) (q := B + ((65 + 13 * q + 3) + 1 + 1 + m)) (t0 := 2) hx hb hK hX (rg_lt1 (rgQ hq)) (shX_ma (G := G) (B := B) (f := x ((65 + 13 * q + 3) + 1)) (rgQ hq)) rfl rfl (by omega) (by decide) rfl dX1_grindsBy_14 ?_
  refine x_get (w := (wX G B tt)) (a := (65 + 13 * q + 3) + 1 + 1 + m) (v := .int (x ((65 + 13 * q + 3) + 1 + 1 + m) 7)) hx hb hts iX1_grindsBy_X0 hown hK hX (rg_ltm (rgQ hq) (by omega)) (shX_mi (G := G) (B := B) (rgQ hq) (by omega)) rfl 7 (by decide) (hts _ kX1_grindsBy_107) (fun _ h9 => h9) rfl dX1_grindsBy_15 ?_
  refine x_mmin hx hb (by rw [hml]; exact hl.1.symm) hown (hts _ kX1_grindsBy_46) (hts _ ksX1_grindsBy_min) (hts _ kiX1_grindsBy_Math) (hts _ kcX1_grindsBy_min) ⟨Nat.le_of_ble_eq_true rfl, Nat.le_of_ble_eq_true rfl, Nat.zero_le _, Nat.zero_le _⟩ dX1_grindsBy_18 ?_
  rw [← hQ]
  refine x_iret (v := jmin (sFree nw n m q w s h) (x ((65 + 13 * q + 3) + 1 + 1 + m) 7)) hx hb hr hX hS hlocks dX1_grindsBy_21 ?_
  exact ⟨by rw [hRq.co hm]; rfl, rfl⟩

theorem kX1_madeBy_21 : (.fieldLink RX1 21 "WindTaken$Quarter" "ridge" "LWindTaken$Ridge;" : Cond) ∈ wsX1_madeBy := by decide +kernel
theorem iX1_madeBy_X1 : ∀ w ∈ wsX10, w ∈ wsX1_madeBy := by decide +kernel
theorem kX1_madeBy_58 : (.fieldLink RX1 58 "WindTaken$Ridge" "count" "I" : Cond) ∈ wsX1_madeBy := by decide +kernel
theorem iX1_madeBy_X3 : ∀ w ∈ wsX30, w ∈ wsX1_madeBy := by decide +kernel
abbrev rmX1_madeBy : Room := { frames := 4, cells := 0, slots := 0, locals := 88 }
set_option maxHeartbeats 4000000 in
set_option maxRecDepth 100000 in
theorem c_X1_madeBy (l : Launch) (G : GG) (B : Nat) (tt : Nat → Nat) (hW : WOK (wX G B tt)) (x : Mem) {q : Nat} (hq : q < 4) {s : Nat} {n : Nat} {nw : Nat → Int32} {h : Int32} {w : Int32} (hRq : RQ n x q nw) (hSV : SV n nw x q h) (hBL : BL nw x q w) : Met l yX1_madeBy wsX1_madeBy rmX1_madeBy (XP G (wX G B tt) [.ref (B + (65 + 13 * q)), .int (nI s)] x) (va_Qi (fun r u => r = (sumN (fun m => sGr nw n m q w s h) n) ∧ u = x) (XB G (wX G B tt)) (blkA B (B + 117))) 0 0 (blkA B (B + 117)) := by
  refine Met.ofW (cc := cX1_madeBy) (maxL := 4) (ret := (some .int)) (by decide) rfl ?_
  intro pp ee ss mm aa bb mt cd s1 Bd hml hv
  obtain ⟨hae, hX, hK, hE⟩ := hv
  have hx := Bd.exec
  have hb := Bd.bytes
  have hr := Bd.returns
  have hts := atoms_spec (ws := wsX1_madeBy) Bd.pre
  have hown : ss.vm.findClass RX1 = some mm.cls := findClass_of_methodNamed Bd.named
  have hlocks := Bd.notSynchronized
  have hS : va_S (blkA B (B + 117)) ss.heap ss.heap [] := va_S.rf
  have hl := lv_entry ([.ref (B + (65 + 13 * q)), .int (nI s)]) (n := 4) (Nat.le_of_ble_eq_true rfl)
  subst hae
  rw [lg_entry_eq]
  generalize (lg_sl ([.ref (B + (65 + 13 * q)), .int (nI s)]) ++ List.replicate (4 - (lg_sl ([.ref (B + (65 + 13 * q)), .int (nI s)])).length) Slot.unset).toArray = ls at hl ⊢
  have hl : lv_has ls 4 [(0, .ref (B + (65 + 13 * q))), (1, .int (nI s))] := hl
  generalize ([.ref (B + (65 + 13 * q)), .int (nI s)] : List Value).toArray = aa at hts ⊢
  show W pp l ee rmX1_madeBy ss mm aa bb mt cd ss.heap [] 0 0 _ (F0 mm 0 ls [])
  generalize hQ : MQ bb (va_Qi (fun r u => r = (sumN (fun m => sGr nw n m q w s h) n) ∧ u = x) (XB G (wX G B tt)) (blkA B (B + 117))) aa ss 0 0 (blkA B (B + 117)) = Q
  have hn8 := hRq.1
  refine lv_iconst (v := 0) hx hb dX1_madeBy_0 (by decide) ?_
  refine lv_istore_n (lv' := [(2, .int (0)), (0, .ref (B + (65 + 13 * q))), (1, .int (nI s))]) hx hb dX1_madeBy_1 rfl hl (by decide) rfl (fun ls hl => ?_)
  refine lv_iconst (v := 0) hx hb dX1_madeBy_2 (by decide) ?_
  refine lv_istore_n (lv' := [(3, .int (0)), (2, .int (0)), (0, .ref (B + (65 + 13 * q))), (1, .int (nI s))]) hx hb dX1_madeBy_3 rfl hl (by decide) rfl (fun ls hl => ?_)
  have L_1 : ∀ (n9 : Nat) (i : Nat) (sm : Int32)  (_ : n9 = n - i) (_ : i ≤ n ∧ sm = sumN (fun m => sGr nw n m q w s h) i) (H_2 : Heap) (lo_3 : List Loc) (_ : MR G (wX G B tt) x H_2) (_ : va_S (blkA B (B + 117)) ss.heap H_2 lo_3) (ls : Array Slot) (_ : lv_has ls 4 [(3, .int (nI i)), (2, .int (sm)), (0, .ref (B + (65 + 13 * q))), (1, .int (nI s))]), W pp l ee rmX1_madeBy ss mm aa bb mt cd H_2 lo_3 0 0 Q (F0 mm 4 ls []) := by
    intro n9
    induction n9 using Nat.strongRecOn with
    | _ n9 ih => 
      have ih_4 := ih
      intro i sm hn9 hI H_2 lo_3 hX hS ls hl
      obtain ⟨hi, hsm⟩ := hI
      refine lv_iload_n hx hb dX1_madeBy_4 rfl (lv_at hl 0 rfl) ?_
      refine lv_aload_n hx hb dX1_madeBy_5 rfl (lv_at hl 2 rfl) ?_
      refine x_get (w := (wX G B tt)) (a := 65 + 13 * q) (v := .ref (B + (65 + 13 * q + 3))) hx hb hts iX1_madeBy_X1 hown hK hX (qu_lt hq) (shX_qu (G := G) (B := B) hq) rfl 2 (by decide) (hts _ kX1_madeBy_21) (fun _ h9 => h9) rfl dX1_madeBy_6 ?_
      refine x_get (w := (wX G B tt)) (a := 65 + 13 * q + 3) (v := .int (x (65 + 13 * q + 3) 1)) hx hb hts iX1_madeBy_X3 hown hK hX (rg_lt (rgQ hq)) (shX_ri (G := G) (B := B) (rgQ hq)) rfl 1 (by decide) (hts _ kX1_madeBy_58) (fun _ h9 => h9) rfl dX1_madeBy_9 ?_
      refine lv_icmp_ge (tgt := 30) hx hb dX1_madeBy_12 (by decide) (fun c_4 => ?_) (fun c_4 => ?_)
      · have nc_4 := (n_le (a := n) (b := i) hRq.cnt rfl (by omega) (by omega)).mp c_4
        refine lv_iload_n hx hb dX1_madeBy_30 rfl (lv_at hl 1 rfl) ?_
        rw [← hQ]
        refine x_iret (v := sm) hx hb hr hX hS hlocks dX1_madeBy_31 ?_
        have e9 : i = n := by omega
        exact ⟨by rw [hsm, e9], rfl⟩
      · have nc_4 := Nat.not_le.mp (fun q => c_4 ((n_le (a := n) (b := i) hRq.cnt rfl (by omega) (by omega)).mpr q))
        refine lv_iload_n hx hb dX1_madeBy_15 rfl (lv_at hl 1 rfl) ?_
        refine lv_aload_n hx hb dX1_madeBy_16 rfl (lv_at hl 2 rfl) ?_
        refine lv_iload_n hx hb dX1_madeBy_17 rfl (lv_at hl 0 rfl) ?_
        refine lv_iload_n hx hb dX1_madeBy_18 rfl (lv_at hl 3 rfl) ?_
        refine x_ip (w := (wX G B tt)) (x := x) (v := sGr nw n i q w s h) (va_runV (As := [.int (nI i), .int (nI s)]) (rest := [.int (sm)]) ⟨hx, hb, hml, hown, hts⟩ (c_X1_grindsBy (l := l) (G := G) (B := B) (tt := tt) (hW := hW) (x := x) (q := q) (hq := hq) (m := i) (s := s) (n := n) (nw := nw) (h := h) (w := w) (hRq := hRq) (hSV := hSV) (hBL := hBL) (hm := (by omega))) (cwV 2 hts gX1_madeBy_X1_grindsBy rfl rfl rfl (by decide +kernel) ⟨Nat.le_of_ble_eq_true rfl, Nat.le_of_ble_eq_true rfl⟩) (x_pv (w := (wX G B tt)) (a := 65 + 13 * q) hW hX hK hE hS [.int (nI i), .int (nI s)] (qu_lt hq) (shX_qu (G := G) (B := B) hq) rfl) rfl rfl hl.1 rfl (lv_room (Nat.le_of_ble_eq_true rfl)) dX1_madeBy_19 ⟨Nat.zero_le _, Nat.zero_le _⟩) hS (fun H_5 lo_6 hX hS => ?_)
        refine lv_iadd hx hb dX1_madeBy_22 ?_
        refine lv_istore_n (lv' := [(2, .int (sm + (sGr nw n i q w s h))), (3, .int (nI i)), (0, .ref (B + (65 + 13 * q))), (1, .int (nI s))]) hx hb dX1_madeBy_23 rfl hl (by decide) rfl (fun ls hl => ?_)
        refine lv_iinc (v := nI (i + 1)) (lv' := [(3, .int (nI (i + 1))), (2, .int (sm + (sGr nw n i q w s h))), (0, .ref (B + (65 + 13 * q))), (1, .int (nI s))]) hx hb dX1_madeBy_24 hl (k := 1) rfl (inc_nI _) (by decide) rfl (fun ls hl => ?_)
        refine lv_goto (tgt := 4) hx hb dX1_madeBy_27 (by decide) ?_
        exact ih_4 _ (by omega) (i + 1) (sm + (sGr nw n i q w s h)) rfl ⟨by omega, by rw [sumN, ← hsm]⟩ _ _ hX hS ls (lv_sub hl [0, 1, 2, 3] rfl)
  exact L_1 _ (0) (0) rfl ⟨Nat.zero_le _, rfl⟩ _ _ hX hS ls (lv_sub hl [0, 1, 2, 3] rfl)

theorem kX1_gainBy_113 : (.methodLink RX1 113 Lib.Math.max.name : Cond) ∈ wsX1_gainBy := by decide +kernel
theorem ksX1_gainBy_max : (.static Lib.Math.max.name : Cond) ∈ wsX1_gainBy := by decide +kernel
theorem kiX1_gainBy_Math : (.initialized "java/lang/Math" : Cond) ∈ wsX1_gainBy := by decide +kernel
theorem kcX1_gainBy_max : (.code Lib.Math.max.name Lib.Math.max.code 2 (some .int) : Cond) ∈ wsX1_gainBy := by decide +kernel
abbrev rmX1_gainBy : Room := { frames := 4, cells := 0, slots := 0, locals := 88 }
set_option maxHeartbeats 4000000 in
set_option maxRecDepth 100000 in
theorem c_X1_gainBy (l : Launch) (G : GG) (B : Nat) (tt : Nat → Nat) (hW : WOK (wX G B tt)) (x : Mem) {q : Nat} (hq : q < 4) {m : Nat} {s : Nat} {n : Nat} {nw : Nat → Int32} {h : Int32} {w : Int32} (hRq : RQ n x q nw) (hSV : SV n nw x q h) (hBL : BL nw x q w) (hm : m < n) : Met l yX1_gainBy wsX1_gainBy rmX1_gainBy (XP G (wX G B tt) [.ref (B + (65 + 13 * q)), .int (nI m), .int (nI s)] x) (va_Qi (fun r u => r = (jmax (sGr nw n m q w s h - sGr nw n m q w 0 h) 0) ∧ u = x) (XB G (wX G B tt)) (blkA B (B + 117))) 0 0 (blkA B (B + 117)) := by
  refine Met.ofW (cc := cX1_gainBy) (maxL := 3) (ret := (some .int)) (by decide) rfl ?_
  intro pp ee ss mm aa bb mt cd s1 Bd hml hv
  obtain ⟨hae, hX, hK, hE⟩ := hv
  have hx := Bd.exec
  have hb := Bd.bytes
  have hr := Bd.returns
  have hts := atoms_spec (ws := wsX1_gainBy) Bd.pre
  have hown : ss.vm.findClass RX1 = some mm.cls := findClass_of_methodNamed Bd.named
  have hlocks := Bd.notSynchronized
  have hS : va_S (blkA B (B + 117)) ss.heap ss.heap [] := va_S.rf
  have hl := lv_entry ([.ref (B + (65 + 13 * q)), .int (nI m), .int (nI s)]) (n := 3) (Nat.le_of_ble_eq_true rfl)
  subst hae
  rw [lg_entry_eq]
  generalize (lg_sl ([.ref (B + (65 + 13 * q)), .int (nI m), .int (nI s)]) ++ List.replicate (3 - (lg_sl ([.ref (B + (65 + 13 * q)), .int (nI m), .int (nI s)])).length) Slot.unset).toArray = ls at hl ⊢
  have hl : lv_has ls 3 [(0, .ref (B + (65 + 13 * q))), (1, .int (nI m)), (2, .int (nI s))] := hl
  generalize ([.ref (B + (65 + 13 * q)), .int (nI m), .int (nI s)] : List Value).toArray = aa at hts ⊢
  show W pp l ee rmX1_gainBy ss mm aa bb mt cd ss.heap [] 0 0 _ (F0 mm 0 ls [])
  generalize hQ : MQ bb (va_Qi (fun r u => r = (jmax (sGr nw n m q w s h - sGr nw n m q w 0 h) 0) ∧ u = x) (XB G (wX G B tt)) (blkA B (B + 117))) aa ss 0 0 (blkA B (B + 117)) = Q
  refine lv_aload_n hx hb dX1_gainBy_0 rfl (lv_at hl 0 rfl) ?_
  refine lv_iload_n hx hb dX1_gainBy_1 rfl (lv_at hl 1 rfl) ?_
  refine lv_iload_n hx hb dX1_gainBy_2 rfl (lv_at hl 2 rfl) ?_
  refine x_ip (w := (wX G B tt)) (x := x) (v := sGr nw n m q w s h) (va_runV (As := [.int (nI m), .int (nI s)]) (rest := []) ⟨hx, hb, hml, hown, hts⟩ (c_X1_grindsBy (l := l) (G := G) (B := B) (tt := tt) (hW := hW) (x := x) (q := q) (hq := hq) (m := m) (s := s) (n := n) (nw := nw) (h := h) (w := w) (hRq := hRq) (hSV := hSV) (hBL := hBL) (hm := (by omega))) (cwV 2 hts gX1_gainBy_X1_grindsBy rfl rfl rfl (by decide +kernel) ⟨Nat.le_of_ble_eq_true rfl, Nat.le_of_ble_eq_true rfl⟩) (x_pv (w := (wX G B tt)) (a := 65 + 13 * q) hW hX hK hE hS [.int (nI m), .int (nI s)] (qu_lt hq) (shX_qu (G := G) (B := B) hq) rfl) rfl rfl hl.1 rfl (lv_room (Nat.le_of_ble_eq_true rfl)) dX1_gainBy_3 ⟨Nat.zero_le _, Nat.zero_le _⟩) hS (fun H_1 lo_2 hX hS => ?_)
  refine lv_aload_n hx hb dX1_gainBy_6 rfl (lv_at hl 0 rfl) ?_
  refine lv_iload_n hx hb dX1_gainBy_7 rfl (lv_at hl 1 rfl) ?_
  refine lv_iconst (v := 0) hx hb dX1_gainBy_8 (by decide) ?_
  refine x_ip (w := (wX G B tt)) (x := x) (v := sGr nw n m q w 0 h) (va_runV (As := [.int (nI m), .int (0)]) (rest := [.int (sGr nw n m q w s h)]) ⟨hx, hb, hml, hown, hts⟩ (c_X1_grindsBy (l := l) (G := G) (B := B) (tt := tt) (hW := hW) (x := x) (q := q) (hq := hq) (m := m) (s := 0) (n := n) (nw := nw) (h := h) (w := w) (hRq := hRq) (hSV := hSV) (hBL := hBL) (hm := (by omega))) (cwV 2 hts gX1_gainBy_X1_grindsBy rfl rfl rfl (by decide +kernel) ⟨Nat.le_of_ble_eq_true rfl, Nat.le_of_ble_eq_true rfl⟩) (x_pv (w := (wX G B tt)) (a := 65 + 13 * q) hW hX hK hE hS [.int (nI m), .int (0)] (qu_lt hq) (shX_qu (G := G) (B := B) hq) rfl) rfl rfl hl.1 rfl (lv_room (Nat.le_of_ble_eq_true rfl)) dX1_gainBy_9 ⟨Nat.zero_le _, Nat.zero_le _⟩) hS (fun H_3 lo_4 hX hS => ?_)
  refine lv_isub hx hb dX1_gainBy_12 ?_
  refine lv_iconst (v := 0) hx hb dX1_gainBy_13 (by decide) ?_
  refine x_mmax hx hb (by rw [hml]; exact hl.1.symm) hown (hts _ kX1_gainBy_113) (hts _ ksX1_gainBy_max) (hts _ kiX1_gainBy_Math) (hts _ kcX1_gainBy_max) ⟨Nat.le_of_ble_eq_true rfl, Nat.le_of_ble_eq_true rfl, Nat.zero_le _, Nat.zero_le _⟩ dX1_gainBy_14 ?_
  rw [← hQ]
  refine x_iret (v := jmax ((sGr nw n m q w s h) - (sGr nw n m q w 0 h)) 0) hx hb hr hX hS hlocks dX1_gainBy_17 ?_
  refine ⟨?_, rfl⟩
  first | rfl | simp []

theorem kX1_lossBy_113 : (.methodLink RX1 113 Lib.Math.max.name : Cond) ∈ wsX1_lossBy := by decide +kernel
theorem ksX1_lossBy_max : (.static Lib.Math.max.name : Cond) ∈ wsX1_lossBy := by decide +kernel
theorem kiX1_lossBy_Math : (.initialized "java/lang/Math" : Cond) ∈ wsX1_lossBy := by decide +kernel
theorem kcX1_lossBy_max : (.code Lib.Math.max.name Lib.Math.max.code 2 (some .int) : Cond) ∈ wsX1_lossBy := by decide +kernel
abbrev rmX1_lossBy : Room := { frames := 4, cells := 0, slots := 0, locals := 88 }
set_option maxHeartbeats 4000000 in
set_option maxRecDepth 100000 in
theorem c_X1_lossBy (l : Launch) (G : GG) (B : Nat) (tt : Nat → Nat) (hW : WOK (wX G B tt)) (x : Mem) {q : Nat} (hq : q < 4) {m : Nat} {s : Nat} {n : Nat} {nw : Nat → Int32} {h : Int32} {w : Int32} (hRq : RQ n x q nw) (hSV : SV n nw x q h) (hBL : BL nw x q w) (hm : m < n) : Met l yX1_lossBy wsX1_lossBy rmX1_lossBy (XP G (wX G B tt) [.ref (B + (65 + 13 * q)), .int (nI m), .int (nI s)] x) (va_Qi (fun r u => r = (jmax (sGr nw n m q w 0 h - sGr nw n m q w s h) 0) ∧ u = x) (XB G (wX G B tt)) (blkA B (B + 117))) 0 0 (blkA B (B + 117)) := by
  refine Met.ofW (cc := cX1_lossBy) (maxL := 3) (ret := (some .int)) (by decide) rfl ?_
  intro pp ee ss mm aa bb mt cd s1 Bd hml hv
  obtain ⟨hae, hX, hK, hE⟩ := hv
  have hx := Bd.exec
  have hb := Bd.bytes
  have hr := Bd.returns
  have hts := atoms_spec (ws := wsX1_lossBy) Bd.pre
  have hown : ss.vm.findClass RX1 = some mm.cls := findClass_of_methodNamed Bd.named
  have hlocks := Bd.notSynchronized
  have hS : va_S (blkA B (B + 117)) ss.heap ss.heap [] := va_S.rf
  have hl := lv_entry ([.ref (B + (65 + 13 * q)), .int (nI m), .int (nI s)]) (n := 3) (Nat.le_of_ble_eq_true rfl)
  subst hae
  rw [lg_entry_eq]
  generalize (lg_sl ([.ref (B + (65 + 13 * q)), .int (nI m), .int (nI s)]) ++ List.replicate (3 - (lg_sl ([.ref (B + (65 + 13 * q)), .int (nI m), .int (nI s)])).length) Slot.unset).toArray = ls at hl ⊢
  have hl : lv_has ls 3 [(0, .ref (B + (65 + 13 * q))), (1, .int (nI m)), (2, .int (nI s))] := hl
  generalize ([.ref (B + (65 + 13 * q)), .int (nI m), .int (nI s)] : List Value).toArray = aa at hts ⊢
  show W pp l ee rmX1_lossBy ss mm aa bb mt cd ss.heap [] 0 0 _ (F0 mm 0 ls [])
  generalize hQ : MQ bb (va_Qi (fun r u => r = (jmax (sGr nw n m q w 0 h - sGr nw n m q w s h) 0) ∧ u = x) (XB G (wX G B tt)) (blkA B (B + 117))) aa ss 0 0 (blkA B (B + 117)) = Q
  refine lv_aload_n hx hb dX1_lossBy_0 rfl (lv_at hl 0 rfl) ?_
  refine lv_iload_n hx hb dX1_lossBy_1 rfl (lv_at hl 1 rfl) ?_
  refine lv_iconst (v := 0) hx hb dX1_lossBy_2 (by decide) ?_
  refine x_ip (w := (wX G B tt)) (x := x) (v := sGr nw n m q w 0 h) (va_runV (As := [.int (nI m), .int (0)]) (rest := []) ⟨hx, hb, hml, hown, hts⟩ (c_X1_grindsBy (l := l) (G := G) (B := B) (tt := tt) (hW := hW) (x := x) (q := q) (hq := hq) (m := m) (s := 0) (n := n) (nw := nw) (h := h) (w := w) (hRq := hRq) (hSV := hSV) (hBL := hBL) (hm := (by omega))) (cwV 2 hts gX1_lossBy_X1_grindsBy rfl rfl rfl (by decide +kernel) ⟨Nat.le_of_ble_eq_true rfl, Nat.le_of_ble_eq_true rfl⟩) (x_pv (w := (wX G B tt)) (a := 65 + 13 * q) hW hX hK hE hS [.int (nI m), .int (0)] (qu_lt hq) (shX_qu (G := G) (B := B) hq) rfl) rfl rfl hl.1 rfl (lv_room (Nat.le_of_ble_eq_true rfl)) dX1_lossBy_3 ⟨Nat.zero_le _, Nat.zero_le _⟩) hS (fun H_1 lo_2 hX hS => ?_)
  refine lv_aload_n hx hb dX1_lossBy_6 rfl (lv_at hl 0 rfl) ?_
  refine lv_iload_n hx hb dX1_lossBy_7 rfl (lv_at hl 1 rfl) ?_
  refine lv_iload_n hx hb dX1_lossBy_8 rfl (lv_at hl 2 rfl) ?_
  refine x_ip (w := (wX G B tt)) (x := x) (v := sGr nw n m q w s h) (va_runV (As := [.int (nI m), .int (nI s)]) (rest := [.int (sGr nw n m q w 0 h)]) ⟨hx, hb, hml, hown, hts⟩ (c_X1_grindsBy (l := l) (G := G) (B := B) (tt := tt) (hW := hW) (x := x) (q := q) (hq := hq) (m := m) (s := s) (n := n) (nw := nw) (h := h) (w := w) (hRq := hRq) (hSV := hSV) (hBL := hBL) (hm := (by omega))) (cwV 2 hts gX1_lossBy_X1_grindsBy rfl rfl rfl (by decide +kernel) ⟨Nat.le_of_ble_eq_true rfl, Nat.le_of_ble_eq_true rfl⟩) (x_pv (w := (wX G B tt)) (a := 65 + 13 * q) hW hX hK hE hS [.int (nI m), .int (nI s)] (qu_lt hq) (shX_qu (G := G) (B := B) hq) rfl) rfl rfl hl.1 rfl (lv_room (Nat.le_of_ble_eq_true rfl)) dX1_lossBy_9 ⟨Nat.zero_le _, Nat.zero_le _⟩) hS (fun H_3 lo_4 hX hS => ?_)
  refine lv_isub hx hb dX1_lossBy_12 ?_
  refine lv_iconst (v := 0) hx hb dX1_lossBy_13 (by decide) ?_
  refine x_mmax hx hb (by rw [hml]; exact hl.1.symm) hown (hts _ kX1_lossBy_113) (hts _ ksX1_lossBy_max) (hts _ kiX1_lossBy_Math) (hts _ kcX1_lossBy_max) ⟨Nat.le_of_ble_eq_true rfl, Nat.le_of_ble_eq_true rfl, Nat.zero_le _, Nat.zero_le _⟩ dX1_lossBy_14 ?_
  rw [← hQ]
  refine x_iret (v := jmax ((sGr nw n m q w 0 h) - (sGr nw n m q w s h)) 0) hx hb hr hX hS hlocks dX1_lossBy_17 ?_
  refine ⟨?_, rfl⟩
  first | rfl | simp []

theorem kX1_wearOf_55 : (.fieldLink RX1 55 "WindTaken$Quarter" "taking" "I" : Cond) ∈ wsX1_wearOf := by decide +kernel
theorem iX1_wearOf_X1 : ∀ w ∈ wsX10, w ∈ wsX1_wearOf := by decide +kernel
abbrev rmX1_wearOf : Room := { frames := 2, cells := 0, slots := 0, locals := 42 }
set_option maxHeartbeats 4000000 in
set_option maxRecDepth 100000 in
theorem c_X1_wearOf (l : Launch) (G : GG) (B : Nat) (tt : Nat → Nat) (hW : WOK (wX G B tt)) (x : Mem) {q : Nat} (hq : q < 4) {m : Nat} {n : Nat} {nw : Nat → Int32} {h : Int32} {w : Int32} (hn8 : n ≤ 8) (hSV : SV n nw x q h) (hBL : BL nw x q w) (hm : m < n) : Met l yX1_wearOf wsX1_wearOf rmX1_wearOf (XP G (wX G B tt) [.ref (B + (65 + 13 * q)), .int (nI m)] x) (va_Qi (fun r u => r = (if sTakes nw m q 0 then sLeft nw n m q w 0 h / 10 else 0) ∧ u = x) (XB G (wX G B tt)) (blkA B (B + 117))) 0 0 (blkA B (B + 117)) := by
  refine Met.ofW (cc := cX1_wearOf) (maxL := 2) (ret := (some .int)) (by decide) rfl ?_
  intro pp ee ss mm aa bb mt cd s1 Bd hml hv
  obtain ⟨hae, hX, hK, hE⟩ := hv
  have hx := Bd.exec
  have hb := Bd.bytes
  have hr := Bd.returns
  have hts := atoms_spec (ws := wsX1_wearOf) Bd.pre
  have hown : ss.vm.findClass RX1 = some mm.cls := findClass_of_methodNamed Bd.named
  have hlocks := Bd.notSynchronized
  have hS : va_S (blkA B (B + 117)) ss.heap ss.heap [] := va_S.rf
  have hl := lv_entry ([.ref (B + (65 + 13 * q)), .int (nI m)]) (n := 2) (Nat.le_of_ble_eq_true rfl)
  subst hae
  rw [lg_entry_eq]
  generalize (lg_sl ([.ref (B + (65 + 13 * q)), .int (nI m)]) ++ List.replicate (2 - (lg_sl ([.ref (B + (65 + 13 * q)), .int (nI m)])).length) Slot.unset).toArray = ls at hl ⊢
  have hl : lv_has ls 2 [(0, .ref (B + (65 + 13 * q))), (1, .int (nI m))] := hl
  generalize ([.ref (B + (65 + 13 * q)), .int (nI m)] : List Value).toArray = aa at hts ⊢
  show W pp l ee rmX1_wearOf ss mm aa bb mt cd ss.heap [] 0 0 _ (F0 mm 0 ls [])
  generalize hQ : MQ bb (va_Qi (fun r u => r = (if sTakes nw m q 0 then sLeft nw n m q w 0 h / 10 else 0) ∧ u = x) (XB G (wX G B tt)) (blkA B (B + 117))) aa ss 0 0 (blkA B (B + 117)) = Q
  have htk : x (65 + 13 * q) 5 &&& ((1 : Int32) <<< (nI m &&& 31)) = 0 ↔ ¬ sTakes nw m q 0 = true := by
    rw [hSV.2.1, mask_tst _ hn8 (by omega)]
    simp [hm]
  refine lv_aload_n hx hb dX1_wearOf_0 rfl (lv_at hl 0 rfl) ?_
  refine x_get (w := (wX G B tt)) (a := 65 + 13 * q) (v := .int (x (65 + 13 * q) 5)) hx hb hts iX1_wearOf_X1 hown hK hX (qu_lt hq) (shX_qu (G := G) (B := B) hq) rfl 5 (by decide) (hts _ kX1_wearOf_55) (fun _ h9 => h9) rfl dX1_wearOf_1 ?_
  refine lv_iconst (v := 1) hx hb dX1_wearOf_4 (by decide) ?_
  refine lv_iload_n hx hb dX1_wearOf_5 rfl (lv_at hl 1 rfl) ?_
  refine lv_ishl hx hb dX1_wearOf_6 ?_
  refine lv_iand hx hb dX1_wearOf_7 ?_
  have kJ_3 : ∀ (v_2 : Int32) (_ : v_2 = (if ((x (65 + 13 * q) 5) &&& (1 <<< (nI m &&& 31))) = 0 then (0 : Int32) else ((sLeft nw n m q w 0 h) / 10))) (H_4 : Heap) (lo_5 : List Loc) (_ : MR G (wX G B tt) x H_4) (_ : va_S (blkA B (B + 117)) ss.heap H_4 lo_5) (ls : Array Slot) (_ : lv_has ls 2 [(0, .ref (B + (65 + 13 * q))), (1, .int (nI m))]), W pp l ee rmX1_wearOf ss mm aa bb mt cd H_4 lo_5 0 0 Q (F0 mm 24 ls [.int (v_2)]) := by
    intro v_2 ev_2 H_4 lo_5 hX hS ls hl
    rw [← hQ]
    refine x_iret (v := v_2) hx hb hr hX hS hlocks dX1_wearOf_24 ?_
    refine ⟨?_, rfl⟩
    rw [ev_2]
    by_cases h9 : sTakes nw m q 0 = true
    · rw [if_pos h9, if_neg (fun z => htk.mp z h9)]
    · rw [if_neg h9, if_pos (htk.mpr h9)]
  refine lv_if_ne (tgt := 15) hx hb dX1_wearOf_8 (by decide) (fun c_1 => ?_) (fun c_1 => ?_)
  · refine lv_aload_n hx hb dX1_wearOf_15 rfl (lv_at hl 0 rfl) ?_
    refine lv_iload_n hx hb dX1_wearOf_16 rfl (lv_at hl 1 rfl) ?_
    refine lv_iconst (v := 0) hx hb dX1_wearOf_17 (by decide) ?_
    refine x_ip (w := (wX G B tt)) (x := x) (v := sLeft nw n m q w 0 h) (va_runV (As := [.int (nI m), .int (0)]) (rest := []) ⟨hx, hb, hml, hown, hts⟩ (c_X1_windLeft (l := l) (G := G) (B := B) (tt := tt) (hW := hW) (x := x) (q := q) (hq := hq) (m := m) (s := 0) (n := n) (nw := nw) (h := h) (w := w) (hn8 := hn8) (hSV := hSV) (hBL := hBL) (hm := (by omega))) (cwV 2 hts gX1_wearOf_X1_windLeft rfl rfl rfl (by decide +kernel) ⟨Nat.le_of_ble_eq_true rfl, Nat.le_of_ble_eq_true rfl⟩) (x_pv (w := (wX G B tt)) (a := 65 + 13 * q) hW hX hK hE hS [.int (nI m), .int (0)] (qu_lt hq) (shX_qu (G := G) (B := B) hq) rfl) rfl rfl hl.1 rfl (lv_room (Nat.le_of_ble_eq_true rfl)) dX1_wearOf_18 ⟨Nat.zero_le _, Nat.zero_le _⟩) hS (fun H_6 lo_7 hX hS => ?_)
    refine lv_bipush (v := 10) hx hb dX1_wearOf_21 (by decide) ?_
    refine lv_idiv hx hb dX1_wearOf_23 (by decide) ?_
    exact kJ_3 ((sLeft nw n m q w 0 h) / 10) (by rw [if_neg c_1]) _ _ hX hS ls (lv_sub hl [0, 1] rfl)
  · refine lv_iconst (v := 0) hx hb dX1_wearOf_11 (by decide) ?_
    refine lv_goto (tgt := 24) hx hb dX1_wearOf_12 (by decide) ?_
    exact kJ_3 (0) (by rw [if_pos c_1]) _ _ hX hS ls (lv_sub hl [0, 1] rfl)

theorem kX1_takesFrom_55 : (.fieldLink RX1 55 "WindTaken$Quarter" "taking" "I" : Cond) ∈ wsX1_takesFrom := by decide +kernel
theorem iX1_takesFrom_X1 : ∀ w ∈ wsX10, w ∈ wsX1_takesFrom := by decide +kernel
theorem kX1_takesFrom_9 : (.fieldLink RX1 9 "WindTaken$Quarter" "behind" "[I" : Cond) ∈ wsX1_takesFrom := by decide +kernel
abbrev rmX1_takesFrom : Room := { frames := 0, cells := 0, slots := 0, locals := 0 }
set_option maxHeartbeats 4000000 in
set_option maxRecDepth 100000 in
theorem c_X1_takesFrom (l : Launch) (G : GG) (B : Nat) (tt : Nat → Nat) (hW : WOK (wX G B tt)) (x : Mem) {q : Nat} (hq : q < 4) {a : Nat} {d : Nat} {n : Nat} {nw : Nat → Int32} {h : Int32} {w : Int32} (hn8 : n ≤ 8) (hSV : SV n nw x q h) (hBL : BL nw x q w) (ha : a < n) (hd : d < n) : Met l yX1_takesFrom wsX1_takesFrom rmX1_takesFrom (XP G (wX G B tt) [.ref (B + (65 + 13 * q)), .int (nI a), .int (nI d)] x) (va_Qi (fun r u => r = bI (sTakes nw a q 0 && sBehind nw d a q h) ∧ u = x) (XB G (wX G B tt)) (blkA B (B + 117))) 0 0 (blkA B (B + 117)) := by
  refine Met.ofW (cc := cX1_takesFrom) (maxL := 3) (ret := (some .boolean)) (by decide) rfl ?_
  intro pp ee ss mm aa bb mt cd s1 Bd hml hv
  obtain ⟨hae, hX, hK, hE⟩ := hv
  have hx := Bd.exec
  have hb := Bd.bytes
  have hr := Bd.returns
  have hts := atoms_spec (ws := wsX1_takesFrom) Bd.pre
  have hown : ss.vm.findClass RX1 = some mm.cls := findClass_of_methodNamed Bd.named
  have hlocks := Bd.notSynchronized
  have hS : va_S (blkA B (B + 117)) ss.heap ss.heap [] := va_S.rf
  have hl := lv_entry ([.ref (B + (65 + 13 * q)), .int (nI a), .int (nI d)]) (n := 3) (Nat.le_of_ble_eq_true rfl)
  subst hae
  rw [lg_entry_eq]
  generalize (lg_sl ([.ref (B + (65 + 13 * q)), .int (nI a), .int (nI d)]) ++ List.replicate (3 - (lg_sl ([.ref (B + (65 + 13 * q)), .int (nI a), .int (nI d)])).length) Slot.unset).toArray = ls at hl ⊢
  have hl : lv_has ls 3 [(0, .ref (B + (65 + 13 * q))), (1, .int (nI a)), (2, .int (nI d))] := hl
  generalize ([.ref (B + (65 + 13 * q)), .int (nI a), .int (nI d)] : List Value).toArray = aa at hts ⊢
  show W pp l ee rmX1_takesFrom ss mm aa bb mt cd ss.heap [] 0 0 _ (F0 mm 0 ls [])
  generalize hQ : MQ bb (va_Qi (fun r u => r = bI (sTakes nw a q 0 && sBehind nw d a q h) ∧ u = x) (XB G (wX G B tt)) (blkA B (B + 117))) aa ss 0 0 (blkA B (B + 117)) = Q
  have htk : (x (65 + 13 * q) 5 &&& x (65 + 13 * q + 1) d) &&& ((1 : Int32) <<< (nI a &&& 31)) = 0 ↔ ¬ (sTakes nw a q 0 && sBehind nw d a q h) = true := by
    rw [hSV.2.1, hSV.2.2 d hd, mask_and, mask_tst _ hn8 (by omega)]
    simp [ha]
  refine lv_aload_n hx hb dX1_takesFrom_0 rfl (lv_at hl 0 rfl) ?_
  refine x_get (w := (wX G B tt)) (a := 65 + 13 * q) (v := .int (x (65 + 13 * q) 5)) hx hb hts iX1_takesFrom_X1 hown hK hX (qu_lt hq) (shX_qu (G := G) (B := B) hq) rfl 5 (by decide) (hts _ kX1_takesFrom_55) (fun _ h9 => h9) rfl dX1_takesFrom_1 ?_
  refine lv_aload_n hx hb dX1_takesFrom_4 rfl (lv_at hl 0 rfl) ?_
  refine x_get (w := (wX G B tt)) (a := 65 + 13 * q) (v := .ref (B + (65 + 13 * q + 1))) hx hb hts iX1_takesFrom_X1 hown hK hX (qu_lt hq) (shX_qu (G := G) (B := B) hq) rfl 0 (by decide) (hts _ kX1_takesFrom_9) (fun _ h9 => h9) rfl dX1_takesFrom_5 ?_
  refine lv_iload_n hx hb dX1_takesFrom_8 rfl (lv_at hl 2 rfl) ?_
  refine x_iald (w := (wX G B tt)) (a := 65 + 13 * q + 1) (n := 8) (j := d) hx hb hK hX (bh_lt hq) (shX_bh (G := G) (B := B) (f := x (65 + 13 * q + 1)) hq) rfl (by omega) (by decide) dX1_takesFrom_9 ?_
  refine lv_iand hx hb dX1_takesFrom_10 ?_
  refine lv_iconst (v := 1) hx hb dX1_takesFrom_11 (by decide) ?_
  refine lv_iload_n hx hb dX1_takesFrom_12 rfl (lv_at hl 1 rfl) ?_
  refine lv_ishl hx hb dX1_takesFrom_13 ?_
  refine lv_iand hx hb dX1_takesFrom_14 ?_
  have kJ_3 : ∀ (v_2 : Bool) (_ : v_2 = (if (((x (65 + 13 * q) 5) &&& (x (65 + 13 * q + 1) d)) &&& (1 <<< (nI a &&& 31))) = 0 then false else true)) (H_4 : Heap) (lo_5 : List Loc) (_ : MR G (wX G B tt) x H_4) (_ : va_S (blkA B (B + 117)) ss.heap H_4 lo_5) (ls : Array Slot) (_ : lv_has ls 3 [(0, .ref (B + (65 + 13 * q))), (1, .int (nI a)), (2, .int (nI d))]), W pp l ee rmX1_takesFrom ss mm aa bb mt cd H_4 lo_5 0 0 Q (F0 mm 23 ls [.int (bI (v_2))]) := by
    intro v_2 ev_2 H_4 lo_5 hX hS ls hl
    rw [← hQ]
    refine x_zret (v := bI (v_2)) (ty := .boolean) hx hb hr (bI_nar _) hX hS hlocks dX1_takesFrom_23 ?_
    refine ⟨?_, rfl⟩
    rw [ev_2]
    congr 1
    cases h9 : (sTakes nw a q 0 && sBehind nw d a q h)
    · rw [if_pos (htk.mpr (by rw [h9]; decide))]
    · rw [if_neg (fun z => htk.mp z h9)]
  refine lv_if_eq (tgt := 22) hx hb dX1_takesFrom_15 (by decide) (fun c_1 => ?_) (fun c_1 => ?_)
  · refine lv_iconst (v := 0) hx hb dX1_takesFrom_22 (by decide) ?_
    exact kJ_3 (false) (by rw [if_pos c_1]) _ _ hX hS ls (lv_sub hl [0, 1, 2] rfl)
  · refine lv_iconst (v := 1) hx hb dX1_takesFrom_18 (by decide) ?_
    refine lv_goto (tgt := 23) hx hb dX1_takesFrom_19 (by decide) ?_
    exact kJ_3 (true) (by rw [if_neg c_1]) _ _ hX hS ls (lv_sub hl [0, 1, 2] rfl)
