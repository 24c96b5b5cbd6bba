def PT_X7_hours (x : Mem) (a : Int32) (i : Int32) (nh : Int32) (n : Nat) (nw : Nat → Int32) (r : Int32) (u : Mem) : Prop := (if (decide (x 5 1 = 0)) = false then (if (decide (0 ≤ a) && decide (a ≤ 7)) = false then (r = (-1000001) ∧ u = x) else (if (decide (((1 : Int32)) ≤ nh) && decide (nh ≤ ((24 : Int32)))) = true then (if (decide (x (29 + 2 * (tn a)) 2 = -1)) = false then (if (decide (0 ≤ i) && (decide (0 ≤ nh) && decide (nh ≤ x (29 + 2 * (tn a)) 2 - i))) = true then (if hrsB (x (29 + 2 * tn a + 1)) (tn i) (tn nh) = true then (r = hrsS nw n (x (29 + 2 * tn a + 1)) (tn i) (tn nh) ∧ ∃ y, (RR n y 5 (hrsNw nw n (x (29 + 2 * tn a + 1)) (tn i) (tn nh)) ∧ offH x y) ∧ u = mst y 0 8 0) else (r = (-1000001) ∧ u = x)) else (r = -1000010 - 2 ∧ u = mst x 0 8 2)) else (r = -1000010 - 1 ∧ u = mst x 0 8 1)) else (r = (-1000001) ∧ u = x))) else (r = (-1000002) ∧ u = x))
theorem kX7_hours_25 : (.fieldLink RX7 25 "WindTaken" "ridge" "LWindTaken$Ridge;" : Cond) ∈ wsX7_hours := by decide +kernel
theorem iX7_hours_X7 : ∀ w ∈ wsX70, w ∈ wsX7_hours := by decide +kernel
theorem kX7_hours_59 : (.constant RX7 59 (-1000001) : Cond) ∈ wsX7_hours := by decide +kernel
theorem kX7_hours_11 : (.fieldLink RX7 11 "WindTaken" "rows" "[LWindTaken$Row;" : Cond) ∈ wsX7_hours := by decide +kernel
theorem kX7_hours_87 : (.fieldLink RX7 87 "WindTaken$Row" "items" "[I" : Cond) ∈ wsX7_hours := by decide +kernel
theorem iX7_hours_X4 : ∀ w ∈ wsX40, w ∈ wsX7_hours := by decide +kernel
theorem kX7_hours_155 : (.constant RX7 155 (-1000002) : Cond) ∈ wsX7_hours := by decide +kernel
abbrev rmX7_hours : Room := { frames := 6, cells := 0, slots := 0, locals := 144 }
set_option maxHeartbeats 4000000 in
set_option maxRecDepth 100000 in
theorem c_X7_hours (l : Launch) (G : GG) (B : Nat) (tt : Nat → Nat) (hW : WOK (wX G B tt)) (x : Mem) (a : Int32) (i : Int32) (nh : Int32) {n : Nat} {nw : Nat → Int32} (hR : RR n x 5 nw) (hRo : ROK x) : Met l yX7_hours wsX7_hours rmX7_hours (XP G (wX G B tt) [.ref (B + (0)), .int (a), .int (i), .int (nh)] x) (va_Qi (fun r u => PT_X7_hours x a i nh n nw r u) (XB G (wX G B tt)) (blkA B (B + 117))) 0 0 (blkA B (B + 117)) := by
  refine Met.ofW (cc := cX7_hours) (maxL := 7) (ret := (some .int)) (by decide) rfl ?_
  intro pp ee ss mm aa bb mt cd s1 Bd hml hv
  obtain ⟨hae, hX, hK, hE⟩ := hv
  have hx := Bd.exec
  have hb := Bd.bytes
  have hr := Bd.returns
  have hts := atoms_spec (ws := wsX7_hours) Bd.pre
  have hown : ss.vm.findClass RX7 = some mm.cls := findClass_of_methodNamed Bd.named
  have hlocks := Bd.notSynchronized
  have hS : va_S (blkA B (B + 117)) ss.heap ss.heap [] := va_S.rf
  have hl := lv_entry ([.ref (B + (0)), .int (a), .int (i), .int (nh)]) (n := 7) (Nat.le_of_ble_eq_true rfl)
  subst hae
  rw [lg_entry_eq]
  generalize (lg_sl ([.ref (B + (0)), .int (a), .int (i), .int (nh)]) ++ List.replicate (7 - (lg_sl ([.ref (B + (0)), .int (a), .int (i), .int (nh)])).length) Slot.unset).toArray = ls at hl ⊢
  have hl : lv_has ls 7 [(0, .ref (B + (0))), (1, .int (a)), (2, .int (i)), (3, .int (nh))] := hl
  generalize ([.ref (B + (0)), .int (a), .int (i), .int (nh)] : List Value).toArray = aa at hts ⊢
  show W pp l ee rmX7_hours ss mm aa bb mt cd ss.heap [] 0 0 _ (F0 mm 0 ls [])
  generalize hQ : MQ bb (va_Qi (fun r u => PT_X7_hours x a i nh n nw r u) (XB G (wX G B tt)) (blkA B (B + 117))) aa ss 0 0 (blkA B (B + 117)) = Q
  have hn8 := hR.1
  refine lv_aload_n hx hb dX7_hours_0 rfl (lv_at hl 0 rfl) ?_
  refine x_get (w := (wX G B tt)) (a := 0) (v := .ref (B + (5))) hx hb hts iX7_hours_X7 hown hK hX (Nat.le_of_ble_eq_true rfl) (shX_mn (G := G) (B := B)) rfl 2 (by decide) (hts _ kX7_hours_25) (fun _ h9 => h9) rfl dX7_hours_1 ?_
  refine x_ip (w := (wX G B tt)) (x := x) (v := bI (decide (x 5 1 = 0))) (va_runV (As := []) (rest := []) ⟨hx, hb, hml, hown, hts⟩ (c_X3_isNone (l := l) (G := G) (B := B) (tt := tt) (hW := hW) (x := x) (ρ := 5) (hρ := rg5)) (cwV 0 hts gX7_hours_X3_isNone rfl rfl rfl (by decide +kernel) ⟨Nat.le_of_ble_eq_true rfl, Nat.le_of_ble_eq_true rfl⟩) (x_pv (w := (wX G B tt)) (a := 5) hW hX hK hE hS [] (rg_lt rg5) (shX_ri (G := G) (B := B) rg5) rfl) rfl rfl hl.1 rfl (lv_room (Nat.le_of_ble_eq_true rfl)) dX7_hours_4 ⟨Nat.zero_le _, Nat.zero_le _⟩) hS (fun H_1 lo_2 hX hS => ?_)
  refine x_ifeq (tgt := 13) hx hb dX7_hours_7 (by decide) (fun c_3 => ?_) (fun c_3 => ?_)
  · refine lv_iload_n hx hb dX7_hours_13 rfl (lv_at hl 1 rfl) ?_
    refine x_ip (w := (wX G B tt)) (x := x) (v := bI (decide (0 ≤ a) && decide (a ≤ 7))) (va_runS (As := [.int (a)]) (rest := []) ⟨hx, hb, hml, hown, hts⟩ (c_X7_isRow (l := l) (G := G) (B := B) (tt := tt) (hW := hW) (x := x) (v := a)) (va_cwS 1 hts gX7_hours_X7_isRow rfl rfl rfl (by decide +kernel) ⟨Nat.le_of_ble_eq_true rfl, Nat.le_of_ble_eq_true rfl⟩) (x_ps (w := (wX G B tt)) hW hX hK hE hS [.int (a)]) rfl rfl hl.1 rfl (lv_room (Nat.le_of_ble_eq_true rfl)) dX7_hours_14 ⟨Nat.zero_le _, Nat.zero_le _⟩) hS (fun H_4 lo_5 hX hS => ?_)
    refine x_ifeq (tgt := 30) hx hb dX7_hours_17 (by decide) (fun c_6 => ?_) (fun c_6 => ?_)
    · refine lv_ldc (v := (-1000001)) hx hb hown (hts _ kX7_hours_59) dX7_hours_30 ?_
      rw [← hQ]
      refine x_iret (v := (-1000001)) hx hb hr hX hS hlocks dX7_hours_32 ?_
      show PT_X7_hours _ _ _ _ _ _ _ _
      unfold PT_X7_hours
      rw [if_pos c_3, if_pos c_6]
      exact ⟨rfl, rfl⟩
    · obtain ⟨hae, ha8⟩ := rowN c_6
      refine lv_iload_n hx hb dX7_hours_20 rfl (lv_at hl 3 rfl) ?_
      refine lv_iconst (v := 1) hx hb dX7_hours_21 (by decide) ?_
      refine lv_bipush (v := 24) hx hb dX7_hours_22 (by decide) ?_
      refine x_ip (w := (wX G B tt)) (x := x) (v := bI (decide (((1 : Int32)) ≤ nh) && decide (nh ≤ ((24 : Int32))))) (va_runS (As := [.int (nh), .int (1), .int (24)]) (rest := []) ⟨hx, hb, hml, hown, hts⟩ (c_X7_isWithin (l := l) (G := G) (B := B) (tt := tt) (hW := hW) (x := x) (v := nh) (lo := 1) (hi := 24)) (va_cwS 3 hts gX7_hours_X7_isWithin rfl rfl rfl (by decide +kernel) ⟨Nat.le_of_ble_eq_true rfl, Nat.le_of_ble_eq_true rfl⟩) (x_ps (w := (wX G B tt)) hW hX hK hE hS [.int (nh), .int (1), .int (24)]) rfl rfl hl.1 rfl (lv_room (Nat.le_of_ble_eq_true rfl)) dX7_hours_24 ⟨Nat.zero_le _, Nat.zero_le _⟩) hS (fun H_7 lo_8 hX hS => ?_)
      refine x_ifne (tgt := 33) hx hb dX7_hours_27 (by decide) (fun c_9 => ?_) (fun c_9 => ?_)
      · obtain ⟨hne, hn1, hn24⟩ := within1 (k := 24) rfl (by decide) c_9
        refine lv_aload_n hx hb dX7_hours_33 rfl (lv_at hl 0 rfl) ?_
        refine x_get (w := (wX G B tt)) (a := 0) (v := .ref (B + (1))) hx hb hts iX7_hours_X7 hown hK hX (Nat.le_of_ble_eq_true rfl) (shX_mn (G := G) (B := B)) rfl 0 (by decide) (hts _ kX7_hours_11) (fun _ h9 => h9) rfl dX7_hours_34 ?_
        refine lv_iload_n hx hb dX7_hours_37 rfl (lv_at hl 1 rfl) ?_
        refine x_aald (w := (wX G B tt)) (a := 1) (n := 8) (j := tn a) (q := B + (29 + 2 * (tn a))) (t0 := 5) hx hb hK hX (Nat.le_of_ble_eq_true rfl) (shX_ra (G := G) (B := B) (f := x (1))) rfl hae (by omega) (by decide) rfl dX7_hours_38 ?_
        refine lv_astore (lv' := [(4, .ref (B + (29 + 2 * (tn a)))), (0, .ref (B + (0))), (1, .int (a)), (2, .int (i)), (3, .int (nh))]) hx hb dX7_hours_39 hl (by decide) rfl (fun ls hl => ?_)
        refine lv_aload hx hb dX7_hours_41 (lv_at hl 0 rfl) ?_
        refine x_ip (w := (wX G B tt)) (x := x) (v := bI (decide (x (29 + 2 * (tn a)) 2 = -1))) (va_runV (As := []) (rest := []) ⟨hx, hb, hml, hown, hts⟩ (c_X4_isMissing (l := l) (G := G) (B := B) (tt := tt) (hW := hW) (x := x) (ro := tn a) (hro := (by omega))) (cwV 0 hts gX7_hours_X4_isMissing rfl rfl rfl (by decide +kernel) ⟨Nat.le_of_ble_eq_true rfl, Nat.le_of_ble_eq_true rfl⟩) (x_pv (w := (wX G B tt)) (a := 29 + 2 * (tn a)) hW hX hK hE hS [] (rw_lt (by omega)) (shX_rw (G := G) (B := B) (by omega)) rfl) rfl rfl hl.1 rfl (lv_room (Nat.le_of_ble_eq_true rfl)) dX7_hours_43 ⟨Nat.zero_le _, Nat.zero_le _⟩) hS (fun H_10 lo_11 hX hS => ?_)
        refine x_ifeq (tgt := 55) hx hb dX7_hours_46 (by decide) (fun c_12 => ?_) (fun c_12 => ?_)
        · have hmi := c_12
          refine lv_aload hx hb dX7_hours_55 (lv_at hl 0 rfl) ?_
          refine lv_iload_n hx hb dX7_hours_57 rfl (lv_at hl 3 rfl) ?_
          refine lv_iload_n hx hb dX7_hours_58 rfl (lv_at hl 4 rfl) ?_
          refine x_ip (w := (wX G B tt)) (x := x) (v := bI (decide (0 ≤ i) && (decide (0 ≤ nh) && decide (nh ≤ x (29 + 2 * (tn a)) 2 - i)))) (va_runV (As := [.int (i), .int (nh)]) (rest := []) ⟨hx, hb, hml, hown, hts⟩ (c_X4_covers (l := l) (G := G) (B := B) (tt := tt) (hW := hW) (x := x) (ro := tn a) (hro := (by omega)) (i := i) (n := nh)) (cwV 2 hts gX7_hours_X4_covers rfl rfl rfl (by decide +kernel) ⟨Nat.le_of_ble_eq_true rfl, Nat.le_of_ble_eq_true rfl⟩) (x_pv (w := (wX G B tt)) (a := 29 + 2 * (tn a)) hW hX hK hE hS [.int (i), .int (nh)] (rw_lt (by omega)) (shX_rw (G := G) (B := B) (by omega)) rfl) rfl rfl hl.1 rfl (lv_room (Nat.le_of_ble_eq_true rfl)) dX7_hours_59 ⟨Nat.zero_le _, Nat.zero_le _⟩) hS (fun H_13 lo_14 hX hS => ?_)
          refine x_ifne (tgt := 71) hx hb dX7_hours_62 (by decide) (fun c_15 => ?_) (fun c_15 => ?_)
          · obtain ⟨hie, hke, hik⟩ := covN hRo ha8 hmi c_15
            refine lv_iload_n hx hb dX7_hours_71 rfl (lv_at hl 3 rfl) ?_
            refine W.eq (g2 := F0 mm 72 ls [.int (nI (tn i))]) (congrArg (fun z9 : Int32 => F0 mm 72 ls [.int (z9)]) hie) ?_
            refine lv_istore (lv' := [(5, .int (nI (tn i))), (4, .ref (B + (29 + 2 * (tn a)))), (0, .ref (B + (0))), (1, .int (a)), (2, .int (i)), (3, .int (nh))]) hx hb dX7_hours_72 hl (by decide) rfl (fun ls hl => ?_)
            have L_16 : ∀ (n9 : Nat) (k : Nat)  (_ : n9 = tn i + tn nh - k) (_ : tn i ≤ k ∧ k ≤ tn i + tn nh ∧ ∀ j, tn i ≤ j → j < k → isWnd ((x (29 + 2 * tn a + 1)) j) = true) (H_17 : Heap) (lo_18 : List Loc) (_ : MR G (wX G B tt) x H_17) (_ : va_S (blkA B (B + 117)) ss.heap H_17 lo_18) (ls : Array Slot) (_ : lv_has ls 7 [(5, .int (nI k)), (4, .ref (B + (29 + 2 * (tn a)))), (0, .ref (B + (0))), (1, .int (a)), (2, .int (i)), (3, .int (nh))]), W pp l ee rmX7_hours ss mm aa bb mt cd H_17 lo_18 0 0 Q (F0 mm 74 ls []) := by
              intro n9
              induction n9 using Nat.strongRecOn with
              | _ n9 ih => 
                have ih_74 := ih
                intro k hn9 hI H_17 lo_18 hX hS ls hl
                obtain ⟨hk1, hk2, hkp⟩ := hI
                refine lv_iload hx hb dX7_hours_74 (lv_at hl 0 rfl) ?_
                refine lv_iload_n hx hb dX7_hours_76 rfl (lv_at hl 4 rfl) ?_
                refine lv_iload_n hx hb dX7_hours_77 rfl (lv_at hl 5 rfl) ?_
                refine lv_iadd hx hb dX7_hours_78 ?_
                refine lv_icmp_ge (tgt := 119) hx hb dX7_hours_79 (by decide) (fun c_19 => ?_) (fun c_19 => ?_)
                · have nc_19 := (n_le (a := tn i + (tn nh)) (b := k) (n_add hie hne) rfl (by omega) (by omega)).mp c_19
                  have hyes := hrsB_yes hkp (show k = tn i + tn nh by omega)
                  refine lv_iconst (v := 0) hx hb dX7_hours_119 (by decide) ?_
                  refine lv_istore (lv' := [(5, .int (0)), (4, .ref (B + (29 + 2 * (tn a)))), (0, .ref (B + (0))), (1, .int (a)), (2, .int (i)), (3, .int (nh))]) hx hb dX7_hours_120 hl (by decide) rfl (fun ls hl => ?_)
                  refine lv_iload_n hx hb dX7_hours_122 rfl (lv_at hl 4 rfl) ?_
                  refine W.eq (g2 := F0 mm 123 ls [.int (nI (tn i))]) (congrArg (fun z9 : Int32 => F0 mm 123 ls [.int (z9)]) hie) ?_
                  refine lv_istore (lv' := [(6, .int (nI (tn i))), (5, .int (0)), (4, .ref (B + (29 + 2 * (tn a)))), (0, .ref (B + (0))), (1, .int (a)), (2, .int (i)), (3, .int (nh))]) hx hb dX7_hours_123 hl (by decide) rfl (fun ls hl => ?_)
                  have L_20 : ∀ (n9 : Nat) (k : Nat) (sm : Int32)  (u : Mem) (_ : n9 = tn i + tn nh - k) (_ : tn i ≤ k ∧ k ≤ tn i + tn nh ∧ sm = hrsS nw n (x (29 + 2 * tn a + 1)) (tn i) (k - tn i) ∧ RR n u 5 (hrsNw nw n (x (29 + 2 * tn a + 1)) (tn i) (k - tn i)) ∧ offH x u) (H_21 : Heap) (lo_22 : List Loc) (_ : MR G (wX G B tt) u H_21) (_ : va_S (blkA B (B + 117)) ss.heap H_21 lo_22) (ls : Array Slot) (_ : lv_has ls 7 [(6, .int (nI k)), (5, .int (sm)), (4, .ref (B + (29 + 2 * (tn a)))), (0, .ref (B + (0))), (1, .int (a)), (2, .int (i)), (3, .int (nh))]), W pp l ee rmX7_hours ss mm aa bb mt cd H_21 lo_22 0 0 Q (F0 mm 125 ls []) := by
                    intro n9
                    induction n9 using Nat.strongRecOn with
                    | _ n9 ih => 
                      have ih_125 := ih
                      intro k sm u hn9 hI H_21 lo_22 hX hS ls hl
                      obtain ⟨hk1, hk2, hsm, hRu, hof⟩ := hI
                      refine lv_iload hx hb dX7_hours_125 (lv_at hl 0 rfl) ?_
                      refine lv_iload_n hx hb dX7_hours_127 rfl (lv_at hl 5 rfl) ?_
                      refine lv_iload_n hx hb dX7_hours_128 rfl (lv_at hl 6 rfl) ?_
                      refine lv_iadd hx hb dX7_hours_129 ?_
                      refine lv_icmp_ge (tgt := 170) hx hb dX7_hours_130 (by decide) (fun c_23 => ?_) (fun c_23 => ?_)
                      · have nc_23 := (n_le (a := tn i + (tn nh)) (b := k) (n_add hie hne) rfl (by omega) (by omega)).mp c_23
                        have e9 : k - tn i = tn nh := by omega
                        rw [e9] at hsm hRu
                        refine lv_aload_n hx hb dX7_hours_170 rfl (lv_at hl 3 rfl) ?_
                        refine lv_iload hx hb dX7_hours_171 (lv_at hl 1 rfl) ?_
                        refine x_if (w := (wX G B tt)) (va_runV (As := [.int (sm)]) (rest := []) ⟨hx, hb, hml, hown, hts⟩ (c_X7_unfound (l := l) (G := G) (B := B) (tt := tt) (hW := hW) (x := u) (a := sm)) (cwV 1 hts gX7_hours_X7_unfound rfl rfl rfl (by decide +kernel) ⟨Nat.le_of_ble_eq_true rfl, Nat.le_of_ble_eq_true rfl⟩) (x_pv (w := (wX G B tt)) (a := 0) hW hX hK hE hS [.int (sm)] (Nat.le_of_ble_eq_true rfl) (shX_mn (G := G) (B := B)) rfl) rfl rfl hl.1 rfl (lv_room (Nat.le_of_ble_eq_true rfl)) dX7_hours_173 ⟨Nat.zero_le _, Nat.zero_le _⟩) hS (fun r_26 x_27 H_24 lo_25 h_173 hX hS => ?_)
                        try dsimp only at h_173
                        rw [← hQ]
                        refine x_iret (v := r_26) hx hb hr hX hS hlocks dX7_hours_176 ?_
                        show PT_X7_hours _ _ _ _ _ _ _ _
                        unfold PT_X7_hours
                        rw [if_pos c_3, if_neg (ne_of_true c_6), if_pos c_9, if_pos c_12, if_pos c_15, if_pos hyes]
                        exact ⟨by rw [h_173.1, hsm], _, ⟨hRu, hof⟩, h_173.2⟩
                      · have nc_23 := Nat.not_le.mp (fun q => c_23 ((n_le (a := tn i + (tn nh)) (b := k) (n_add hie hne) rfl (by omega) (by omega)).mpr q))
                        obtain ⟨hqe, hq4⟩ := hrsB_at (k := k) hyes (by omega) (by omega)
                        have hu9 : u (29 + 2 * tn a + 1) = x (29 + 2 * tn a + 1) := hof _ (by omega) (by omega)
                        refine lv_iload hx hb dX7_hours_133 (lv_at hl 1 rfl) ?_
                        refine lv_aload_n hx hb dX7_hours_135 rfl (lv_at hl 3 rfl) ?_
                        refine lv_aload hx hb dX7_hours_136 (lv_at hl 2 rfl) ?_
                        refine x_get (w := (wX G B tt)) (a := 29 + 2 * (tn a)) (v := .ref (B + (29 + 2 * (tn a) + 1))) hx hb hts iX7_hours_X4 hown hK hX (rw_lt (by omega)) (shX_rw (G := G) (B := B) (by omega)) rfl 0 (by decide) (hts _ kX7_hours_87) (fun _ h9 => h9) rfl dX7_hours_138 ?_
                        refine lv_iload hx hb dX7_hours_141 (lv_at hl 0 rfl) ?_
                        refine x_iald (w := (wX G B tt)) (a := 29 + 2 * (tn a) + 1) (n := 40) (j := k) hx hb hK hX (it_lt (by omega)) (shX_it (G := G) (B := B) (f := u (29 + 2 * (tn a) + 1)) (by omega)) rfl (by omega) (by decide) dX7_hours_143 ?_
                        refine x_ip (w := (wX G B tt)) (x := u) (v := if 0 ≤ (u (29 + 2 * (tn a) + 1) k) then (u (29 + 2 * (tn a) + 1) k) / 1000 else -1) (va_runS (As := [.int (u (29 + 2 * (tn a) + 1) k)]) (rest := [.ref (B + (0)), .int (sm)]) ⟨hx, hb, hml, hown, hts⟩ (c_X7_quarterOf (l := l) (G := G) (B := B) (tt := tt) (hW := hW) (x := u) (v := u (29 + 2 * (tn a) + 1) k)) (va_cwS 1 hts gX7_hours_X7_quarterOf rfl rfl rfl (by decide +kernel) ⟨Nat.le_of_ble_eq_true rfl, Nat.le_of_ble_eq_true rfl⟩) (x_ps (w := (wX G B tt)) hW hX hK hE hS [.int (u (29 + 2 * (tn a) + 1) k)]) rfl rfl hl.1 rfl (lv_room (Nat.le_of_ble_eq_true rfl)) dX7_hours_144 ⟨Nat.zero_le _, Nat.zero_le _⟩) hS (fun H_28 lo_29 hX hS => ?_)
                        refine W.eq (g2 := F0 mm 147 ls [.int (nI (tn (qOf ((x (29 + 2 * tn a + 1)) k)))), .ref (B + (0)), .int (sm)]) (congrArg (fun z9 : Int32 => F0 mm 147 ls [.int (z9), .ref (B + (0)), .int (sm)]) (show qOf (u (29 + 2 * tn a + 1) k) = nI (tn (qOf ((x (29 + 2 * tn a + 1)) k))) by rw [hu9]; exact hqe)) ?_
                        refine lv_aload hx hb dX7_hours_147 (lv_at hl 2 rfl) ?_
                        refine x_get (w := (wX G B tt)) (a := 29 + 2 * (tn a)) (v := .ref (B + (29 + 2 * (tn a) + 1))) hx hb hts iX7_hours_X4 hown hK hX (rw_lt (by omega)) (shX_rw (G := G) (B := B) (by omega)) rfl 0 (by decide) (hts _ kX7_hours_87) (fun _ h9 => h9) rfl dX7_hours_149 ?_
                        refine lv_iload hx hb dX7_hours_152 (lv_at hl 0 rfl) ?_
                        refine x_iald (w := (wX G B tt)) (a := 29 + 2 * (tn a) + 1) (n := 40) (j := k) hx hb hK hX (it_lt (by omega)) (shX_it (G := G) (B := B) (f := u (29 + 2 * (tn a) + 1)) (by omega)) rfl (by omega) (by decide) dX7_hours_154 ?_
                        refine x_ip (w := (wX G B tt)) (x := u) (v := (u (29 + 2 * (tn a) + 1) k) - (u (29 + 2 * (tn a) + 1) k) / 1000 * 1000) (va_runS (As := [.int (u (29 + 2 * (tn a) + 1) k)]) (rest := [.int (nI (tn (qOf ((x (29 + 2 * tn a + 1)) k)))), .ref (B + (0)), .int (sm)]) ⟨hx, hb, hml, hown, hts⟩ (c_X7_strengthOf (l := l) (G := G) (B := B) (tt := tt) (hW := hW) (x := u) (v := u (29 + 2 * (tn a) + 1) k)) (va_cwS 1 hts gX7_hours_X7_strengthOf rfl rfl rfl (by decide +kernel) ⟨Nat.le_of_ble_eq_true rfl, Nat.le_of_ble_eq_true rfl⟩) (x_ps (w := (wX G B tt)) hW hX hK hE hS [.int (u (29 + 2 * (tn a) + 1) k)]) rfl rfl hl.1 rfl (lv_room (Nat.le_of_ble_eq_true rfl)) dX7_hours_155 ⟨Nat.zero_le _, Nat.zero_le _⟩) hS (fun H_30 lo_31 hX hS => ?_)
                        refine x_if (w := (wX G B tt)) (va_runV (As := [.int (nI (tn (qOf ((x (29 + 2 * tn a + 1)) k)))), .int ((u (29 + 2 * (tn a) + 1) k) - (u (29 + 2 * (tn a) + 1) k) / 1000 * 1000)]) (rest := [.int (sm)]) ⟨hx, hb, hml, hown, hts⟩ (c_X7_pass (l := l) (G := G) (B := B) (tt := tt) (hW := hW) (x := u) (q := tn (qOf ((x (29 + 2 * tn a + 1)) k))) (w := (u (29 + 2 * (tn a) + 1) k) - (u (29 + 2 * (tn a) + 1) k) / 1000 * 1000) (n := n) (nw := (hrsNw nw n (x (29 + 2 * tn a + 1)) (tn i) (k - tn i))) (hR := hRu) (hq := (by omega))) (cwV 2 hts gX7_hours_X7_pass rfl rfl rfl (by decide +kernel) ⟨Nat.le_of_ble_eq_true rfl, Nat.le_of_ble_eq_true rfl⟩) (x_pv (w := (wX G B tt)) (a := 0) hW hX hK hE hS [.int (nI (tn (qOf ((x (29 + 2 * tn a + 1)) k)))), .int ((u (29 + 2 * (tn a) + 1) k) - (u (29 + 2 * (tn a) + 1) k) / 1000 * 1000)] (Nat.le_of_ble_eq_true rfl) (shX_mn (G := G) (B := B)) rfl) rfl rfl hl.1 rfl (lv_room (Nat.le_of_ble_eq_true rfl)) dX7_hours_158 ⟨Nat.zero_le _, Nat.zero_le _⟩) hS (fun r_34 x_35 H_32 lo_33 h_158 hX hS => ?_)
                        try dsimp only at h_158
                        rw [hu9] at h_158
                        refine lv_iadd hx hb dX7_hours_161 ?_
                        refine lv_istore (lv' := [(5, .int (sm + r_34)), (6, .int (nI k)), (4, .ref (B + (29 + 2 * (tn a)))), (0, .ref (B + (0))), (1, .int (a)), (2, .int (i)), (3, .int (nh))]) hx hb dX7_hours_162 hl (by decide) rfl (fun ls hl => ?_)
                        refine lv_iinc (v := nI (k + 1)) (lv' := [(6, .int (nI (k + 1))), (5, .int (sm + r_34)), (4, .ref (B + (29 + 2 * (tn a)))), (0, .ref (B + (0))), (1, .int (a)), (2, .int (i)), (3, .int (nh))]) hx hb dX7_hours_164 hl (k := 1) rfl (inc_nI _) (by decide) rfl (fun ls hl => ?_)
                        refine lv_goto (tgt := 125) hx hb dX7_hours_167 (by decide) ?_
                        have hd : k + 1 - tn i = (k - tn i) + 1 := by omega
                        have hd2 : tn i + (k - tn i) = k := by omega
                        exact ih_125 _ (by omega) (k + 1) (sm + r_34) (x_35) rfl ⟨by omega, by omega, by rw [hd, hrsS, hd2, hsm, h_158.1]; rfl, by rw [hd, hrsNw, hd2]; exact h_158.2.1, hof.st h_158.2.2 hq4⟩ _ _ hX hS ls (lv_sub hl [0, 1, 2, 3, 4, 5, 6] rfl)
                  exact L_20 _ (tn i) (0) (x) rfl ⟨Nat.le_refl _, by omega, by rw [Nat.sub_self]; rfl, by rw [Nat.sub_self]; exact hR, fun a9 _ _ => rfl⟩ _ _ hX hS ls (lv_sub hl [0, 1, 2, 3, 4, 5, 6] rfl)
                · have nc_19 := Nat.not_le.mp (fun q => c_19 ((n_le (a := tn i + (tn nh)) (b := k) (n_add hie hne) rfl (by omega) (by omega)).mpr q))
                  refine lv_aload hx hb dX7_hours_82 (lv_at hl 1 rfl) ?_
                  refine x_get (w := (wX G B tt)) (a := 29 + 2 * (tn a)) (v := .ref (B + (29 + 2 * (tn a) + 1))) hx hb hts iX7_hours_X4 hown hK hX (rw_lt (by omega)) (shX_rw (G := G) (B := B) (by omega)) rfl 0 (by decide) (hts _ kX7_hours_87) (fun _ h9 => h9) rfl dX7_hours_84 ?_
                  refine lv_iload hx hb dX7_hours_87 (lv_at hl 0 rfl) ?_
                  refine x_iald (w := (wX G B tt)) (a := 29 + 2 * (tn a) + 1) (n := 40) (j := k) hx hb hK hX (it_lt (by omega)) (shX_it (G := G) (B := B) (f := x (29 + 2 * (tn a) + 1)) (by omega)) rfl (by omega) (by decide) dX7_hours_89 ?_
                  refine x_ip (w := (wX G B tt)) (x := x) (v := if 0 ≤ (x (29 + 2 * (tn a) + 1) k) then (x (29 + 2 * (tn a) + 1) k) / 1000 else -1) (va_runS (As := [.int (x (29 + 2 * (tn a) + 1) k)]) (rest := []) ⟨hx, hb, hml, hown, hts⟩ (c_X7_quarterOf (l := l) (G := G) (B := B) (tt := tt) (hW := hW) (x := x) (v := x (29 + 2 * (tn a) + 1) k)) (va_cwS 1 hts gX7_hours_X7_quarterOf rfl rfl rfl (by decide +kernel) ⟨Nat.le_of_ble_eq_true rfl, Nat.le_of_ble_eq_true rfl⟩) (x_ps (w := (wX G B tt)) hW hX hK hE hS [.int (x (29 + 2 * (tn a) + 1) k)]) rfl rfl hl.1 rfl (lv_room (Nat.le_of_ble_eq_true rfl)) dX7_hours_90 ⟨Nat.zero_le _, Nat.zero_le _⟩) hS (fun H_36 lo_37 hX hS => ?_)
                  refine lv_aload hx hb dX7_hours_93 (lv_at hl 1 rfl) ?_
                  refine x_get (w := (wX G B tt)) (a := 29 + 2 * (tn a)) (v := .ref (B + (29 + 2 * (tn a) + 1))) hx hb hts iX7_hours_X4 hown hK hX (rw_lt (by omega)) (shX_rw (G := G) (B := B) (by omega)) rfl 0 (by decide) (hts _ kX7_hours_87) (fun _ h9 => h9) rfl dX7_hours_95 ?_
                  refine lv_iload hx hb dX7_hours_98 (lv_at hl 0 rfl) ?_
                  refine x_iald (w := (wX G B tt)) (a := 29 + 2 * (tn a) + 1) (n := 40) (j := k) hx hb hK hX (it_lt (by omega)) (shX_it (G := G) (B := B) (f := x (29 + 2 * (tn a) + 1)) (by omega)) rfl (by omega) (by decide) dX7_hours_100 ?_
                  refine x_ip (w := (wX G B tt)) (x := x) (v := (x (29 + 2 * (tn a) + 1) k) - (x (29 + 2 * (tn a) + 1) k) / 1000 * 1000) (va_runS (As := [.int (x (29 + 2 * (tn a) + 1) k)]) (rest := [.int (if 0 ≤ (x (29 + 2 * (tn a) + 1) k) then (x (29 + 2 * (tn a) + 1) k) / 1000 else -1)]) ⟨hx, hb, hml, hown, hts⟩ (c_X7_strengthOf (l := l) (G := G) (B := B) (tt := tt) (hW := hW) (x := x) (v := x (29 + 2 * (tn a) + 1) k)) (va_cwS 1 hts gX7_hours_X7_strengthOf rfl rfl rfl (by decide +kernel) ⟨Nat.le_of_ble_eq_true rfl, Nat.le_of_ble_eq_true rfl⟩) (x_ps (w := (wX G B tt)) hW hX hK hE hS [.int (x (29 + 2 * (tn a) + 1) k)]) rfl rfl hl.1 rfl (lv_room (Nat.le_of_ble_eq_true rfl)) dX7_hours_101 ⟨Nat.zero_le _, Nat.zero_le _⟩) hS (fun H_38 lo_39 hX hS => ?_)
                  refine x_ip (w := (wX G B tt)) (x := x) (v := bI ((decide (0 ≤ (if 0 ≤ (x (29 + 2 * (tn a) + 1) k) then (x (29 + 2 * (tn a) + 1) k) / 1000 else -1)) && decide ((if 0 ≤ (x (29 + 2 * (tn a) + 1) k) then (x (29 + 2 * (tn a) + 1) k) / 1000 else -1) ≤ 3)) && (decide (0 ≤ ((x (29 + 2 * (tn a) + 1) k) - (x (29 + 2 * (tn a) + 1) k) / 1000 * 1000)) && decide (((x (29 + 2 * (tn a) + 1) k) - (x (29 + 2 * (tn a) + 1) k) / 1000 * 1000) ≤ 100)))) (va_runS (As := [.int (if 0 ≤ (x (29 + 2 * (tn a) + 1) k) then (x (29 + 2 * (tn a) + 1) k) / 1000 else -1), .int ((x (29 + 2 * (tn a) + 1) k) - (x (29 + 2 * (tn a) + 1) k) / 1000 * 1000)]) (rest := []) ⟨hx, hb, hml, hown, hts⟩ (c_X7_isWind (l := l) (G := G) (B := B) (tt := tt) (hW := hW) (x := x) (q := if 0 ≤ (x (29 + 2 * (tn a) + 1) k) then (x (29 + 2 * (tn a) + 1) k) / 1000 else -1) (v := (x (29 + 2 * (tn a) + 1) k) - (x (29 + 2 * (tn a) + 1) k) / 1000 * 1000)) (va_cwS 2 hts gX7_hours_X7_isWind rfl rfl rfl (by decide +kernel) ⟨Nat.le_of_ble_eq_true rfl, Nat.le_of_ble_eq_true rfl⟩) (x_ps (w := (wX G B tt)) hW hX hK hE hS [.int (if 0 ≤ (x (29 + 2 * (tn a) + 1) k) then (x (29 + 2 * (tn a) + 1) k) / 1000 else -1), .int ((x (29 + 2 * (tn a) + 1) k) - (x (29 + 2 * (tn a) + 1) k) / 1000 * 1000)]) rfl rfl hl.1 rfl (lv_room (Nat.le_of_ble_eq_true rfl)) dX7_hours_104 ⟨Nat.zero_le _, Nat.zero_le _⟩) hS (fun H_40 lo_41 hX hS => ?_)
                  refine x_ifne (tgt := 113) hx hb dX7_hours_107 (by decide) (fun c_42 => ?_) (fun c_42 => ?_)
                  · refine lv_iinc (v := nI (k + 1)) (lv' := [(5, .int (nI (k + 1))), (4, .ref (B + (29 + 2 * (tn a)))), (0, .ref (B + (0))), (1, .int (a)), (2, .int (i)), (3, .int (nh))]) hx hb dX7_hours_113 hl (k := 0) rfl (inc_nI _) (by decide) rfl (fun ls hl => ?_)
                    refine lv_goto (tgt := 74) hx hb dX7_hours_116 (by decide) ?_
                    exact ih_74 _ (by omega) (k + 1) rfl ⟨by omega, by omega, fun j h1 h2 => by
          by_cases hjk : j = k
          · rw [hjk]; exact c_42
          · exact hkp j h1 (by omega)⟩ _ _ hX hS ls (lv_sub hl [0, 1, 2, 3, 4, 5] rfl)
                  · refine lv_ldc (v := (-1000001)) hx hb hown (hts _ kX7_hours_59) dX7_hours_110 ?_
                    rw [← hQ]
                    refine x_iret (v := (-1000001)) hx hb hr hX hS hlocks dX7_hours_112 ?_
                    show PT_X7_hours _ _ _ _ _ _ _ _
                    unfold PT_X7_hours
                    rw [if_pos c_3, if_neg (ne_of_true c_6), if_pos c_9, if_pos c_12, if_pos c_15, if_neg (hrsB_no (k := k) c_42 (by omega) (by omega))]
                    exact ⟨rfl, rfl⟩
            exact L_16 _ (tn i) rfl ⟨Nat.le_refl _, by omega, fun j h1 h2 => absurd h1 (by omega)⟩ _ _ hX hS ls (lv_sub hl [0, 1, 2, 3, 4, 5] rfl)
          · refine lv_aload_n hx hb dX7_hours_65 rfl (lv_at hl 1 rfl) ?_
            refine lv_iconst (v := 2) hx hb dX7_hours_66 (by decide) ?_
            refine x_if (w := (wX G B tt)) (va_runV (As := [.int (2)]) (rest := []) ⟨hx, hb, hml, hown, hts⟩ (c_X7_found (l := l) (G := G) (B := B) (tt := tt) (hW := hW) (x := x) (f := 2)) (cwV 1 hts gX7_hours_X7_found rfl rfl rfl (by decide +kernel) ⟨Nat.le_of_ble_eq_true rfl, Nat.le_of_ble_eq_true rfl⟩) (x_pv (w := (wX G B tt)) (a := 0) hW hX hK hE hS [.int (2)] (Nat.le_of_ble_eq_true rfl) (shX_mn (G := G) (B := B)) rfl) rfl rfl hl.1 rfl (lv_room (Nat.le_of_ble_eq_true rfl)) dX7_hours_67 ⟨Nat.zero_le _, Nat.zero_le _⟩) hS (fun r_45 x_46 H_43 lo_44 h_67 hX hS => ?_)
            try dsimp only at h_67
            rw [← hQ]
            refine x_iret (v := r_45) hx hb hr hX hS hlocks dX7_hours_70 ?_
            show PT_X7_hours _ _ _ _ _ _ _ _
            unfold PT_X7_hours
            rw [if_pos c_3, if_neg (ne_of_true c_6), if_pos c_9, if_pos c_12, if_neg (ne_of_false c_15)]
            exact h_67
        · refine lv_aload_n hx hb dX7_hours_49 rfl (lv_at hl 1 rfl) ?_
          refine lv_iconst (v := 1) hx hb dX7_hours_50 (by decide) ?_
          refine x_if (w := (wX G B tt)) (va_runV (As := [.int (1)]) (rest := []) ⟨hx, hb, hml, hown, hts⟩ (c_X7_found (l := l) (G := G) (B := B) (tt := tt) (hW := hW) (x := x) (f := 1)) (cwV 1 hts gX7_hours_X7_found rfl rfl rfl (by decide +kernel) ⟨Nat.le_of_ble_eq_true rfl, Nat.le_of_ble_eq_true rfl⟩) (x_pv (w := (wX G B tt)) (a := 0) hW hX hK hE hS [.int (1)] (Nat.le_of_ble_eq_true rfl) (shX_mn (G := G) (B := B)) rfl) rfl rfl hl.1 rfl (lv_room (Nat.le_of_ble_eq_true rfl)) dX7_hours_51 ⟨Nat.zero_le _, Nat.zero_le _⟩) hS (fun r_49 x_50 H_47 lo_48 h_51 hX hS => ?_)
          try dsimp only at h_51
          rw [← hQ]
          refine x_iret (v := r_49) hx hb hr hX hS hlocks dX7_hours_54 ?_
          show PT_X7_hours _ _ _ _ _ _ _ _
          unfold PT_X7_hours
          rw [if_pos c_3, if_neg (ne_of_true c_6), if_pos c_9, if_neg (ne_of_true c_12)]
          exact h_51
      · refine lv_ldc (v := (-1000001)) hx hb hown (hts _ kX7_hours_59) dX7_hours_30 ?_
        rw [← hQ]
        refine x_iret (v := (-1000001)) hx hb hr hX hS hlocks dX7_hours_32 ?_
        show PT_X7_hours _ _ _ _ _ _ _ _
        unfold PT_X7_hours
        rw [if_pos c_3, if_neg (ne_of_true c_6), if_neg (ne_of_false c_9)]
        exact ⟨rfl, rfl⟩
  · refine lv_ldc (v := (-1000002)) hx hb hown (hts _ kX7_hours_155) dX7_hours_10 ?_
    rw [← hQ]
    refine x_iret (v := (-1000002)) hx hb hr hX hS hlocks dX7_hours_12 ?_
    show PT_X7_hours _ _ _ _ _ _ _ _
    unfold PT_X7_hours
    rw [if_neg (ne_of_true c_3)]
    exact ⟨rfl, rfl⟩
