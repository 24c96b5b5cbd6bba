theorem kX8_isBehind_191 : (.constantLong RX8 191 (6) : Cond) ∈ wsX8_isBehind := by decide +kernel
theorem kX8_isBehind_113 : (.constantLong RX8 113 (-1) : Cond) ∈ wsX8_isBehind := by decide +kernel
abbrev rmX8_isBehind : Room := { frames := 1, cells := 0, slots := 0, locals := 25 }
set_option maxHeartbeats 4000000 in
set_option maxRecDepth 100000 in
theorem c_X8_isBehind (l : Launch) (G : GG) (B : Nat) (hW : WOK (wM G B)) (x : Mem) {ml : Nat} {o : Nat} {q : Nat} (h : Int32) (hml9 : ml < 8) (ho9 : o < 8) (hq : q < 4) : Met l yX8_isBehind wsX8_isBehind rmX8_isBehind (XP G (wM G B) [.ref (B + (0)), .int (nI ml), .int (nI o), .int (nI q), .int (h)] x) (va_Qi (fun r u => r = bI (sBehind (x 5) ml o q h) ∧ u = x) (XB G (wM G B)) (blkA B (B + 13))) 0 0 (blkA B (B + 13)) := by
  refine Met.ofW (cc := cX8_isBehind) (maxL := 11) (ret := (some .boolean)) (by decide) rfl ?_
  intro pp ee ss mm aa bb mt cd s1 Bd hml hv
  obtain ⟨hae, hX, hK, hE⟩ := hv
  have hx := Bd.exec
  have hb := Bd.bytes
  have hr := Bd.returns
  have hts := atoms_spec (ws := wsX8_isBehind) Bd.pre
  have hown : ss.vm.findClass RX8 = some mm.cls := findClass_of_methodNamed Bd.named
  have hlocks := Bd.notSynchronized
  have hS : va_S (blkA B (B + 13)) ss.heap ss.heap [] := va_S.rf
  have hl := lv_entry ([.ref (B + (0)), .int (nI ml), .int (nI o), .int (nI q), .int (h)]) (n := 11) (Nat.le_of_ble_eq_true rfl)
  subst hae
  rw [lg_entry_eq]
  generalize (lg_sl ([.ref (B + (0)), .int (nI ml), .int (nI o), .int (nI q), .int (h)]) ++ List.replicate (11 - (lg_sl ([.ref (B + (0)), .int (nI ml), .int (nI o), .int (nI q), .int (h)])).length) Slot.unset).toArray = ls at hl ⊢
  have hl : lv_has ls 11 [(0, .ref (B + (0))), (1, .int (nI ml)), (2, .int (nI o)), (3, .int (nI q)), (4, .int (h))] := hl
  generalize ([.ref (B + (0)), .int (nI ml), .int (nI o), .int (nI q), .int (h)] : List Value).toArray = aa at hts ⊢
  show W pp l ee rmX8_isBehind ss mm aa bb mt cd ss.heap [] 0 0 _ (F0 mm 0 ls [])
  generalize hQ : MQ bb (va_Qi (fun r u => r = bI (sBehind (x 5) ml o q h) ∧ u = x) (XB G (wM G B)) (blkA B (B + 13))) aa ss 0 0 (blkA B (B + 13)) = Q
  refine lv_aload_n hx hb dX8_isBehind_0 rfl (lv_at hl 0 rfl) ?_
  refine lv_iload_n hx hb dX8_isBehind_1 rfl (lv_at hl 2 rfl) ?_
  refine lv_bipush (v := 8) hx hb dX8_isBehind_2 (by decide) ?_
  refine x_ip (w := (wM G B)) (x := x) (v := sF (x 5) o 8) (va_runV (As := [.int (nI o), .int (8)]) (rest := []) ⟨hx, hb, hml, hown, hts⟩ (c_X8_of (l := l) (G := G) (B := B) (hW := hW) (x := x) (ml := o) (k := 8) (hml9 := (by omega)) (hk10 := (by omega))) (cwV 2 hts gX8_isBehind_X8_of rfl rfl rfl (by decide +kernel) ⟨Nat.le_of_ble_eq_true rfl, Nat.le_of_ble_eq_true rfl⟩) (x_pv (w := (wM G B)) (a := 0) hW hX hK hE hS [.int (nI o), .int (8)] (Nat.le_of_ble_eq_true rfl) (shM_0 (G := G) (B := B)) rfl) rfl rfl hl.1 rfl (lv_room (Nat.le_of_ble_eq_true rfl)) dX8_isBehind_4 ⟨Nat.zero_le _, Nat.zero_le _⟩) hS (fun H_1 lo_2 hX hS => ?_)
  refine lv_aload_n hx hb dX8_isBehind_7 rfl (lv_at hl 0 rfl) ?_
  refine lv_iload_n hx hb dX8_isBehind_8 rfl (lv_at hl 1 rfl) ?_
  refine lv_bipush (v := 8) hx hb dX8_isBehind_9 (by decide) ?_
  refine x_ip (w := (wM G B)) (x := x) (v := sF (x 5) ml 8) (va_runV (As := [.int (nI ml), .int (8)]) (rest := [.int (sF (x 5) o 8)]) ⟨hx, hb, hml, hown, hts⟩ (c_X8_of (l := l) (G := G) (B := B) (hW := hW) (x := x) (ml := ml) (k := 8) (hml9 := (by omega)) (hk10 := (by omega))) (cwV 2 hts gX8_isBehind_X8_of rfl rfl rfl (by decide +kernel) ⟨Nat.le_of_ble_eq_true rfl, Nat.le_of_ble_eq_true rfl⟩) (x_pv (w := (wM G B)) (a := 0) hW hX hK hE hS [.int (nI ml), .int (8)] (Nat.le_of_ble_eq_true rfl) (shM_0 (G := G) (B := B)) rfl) rfl rfl hl.1 rfl (lv_room (Nat.le_of_ble_eq_true rfl)) dX8_isBehind_11 ⟨Nat.zero_le _, Nat.zero_le _⟩) hS (fun H_3 lo_4 hX hS => ?_)
  refine lv_isub hx hb dX8_isBehind_14 ?_
  refine lv_istore (lv' := [(5, .int ((sF (x 5) o 8) - (sF (x 5) ml 8))), (0, .ref (B + (0))), (1, .int (nI ml)), (2, .int (nI o)), (3, .int (nI q)), (4, .int (h))]) hx hb dX8_isBehind_15 hl (by decide) rfl (fun ls hl => ?_)
  refine lv_aload_n hx hb dX8_isBehind_17 rfl (lv_at hl 1 rfl) ?_
  refine lv_iload_n hx hb dX8_isBehind_18 rfl (lv_at hl 3 rfl) ?_
  refine lv_bipush (v := 9) hx hb dX8_isBehind_19 (by decide) ?_
  refine x_ip (w := (wM G B)) (x := x) (v := sF (x 5) o 9) (va_runV (As := [.int (nI o), .int (9)]) (rest := []) ⟨hx, hb, hml, hown, hts⟩ (c_X8_of (l := l) (G := G) (B := B) (hW := hW) (x := x) (ml := o) (k := 9) (hml9 := (by omega)) (hk10 := (by omega))) (cwV 2 hts gX8_isBehind_X8_of rfl rfl rfl (by decide +kernel) ⟨Nat.le_of_ble_eq_true rfl, Nat.le_of_ble_eq_true rfl⟩) (x_pv (w := (wM G B)) (a := 0) hW hX hK hE hS [.int (nI o), .int (9)] (Nat.le_of_ble_eq_true rfl) (shM_0 (G := G) (B := B)) rfl) rfl rfl hl.1 rfl (lv_room (Nat.le_of_ble_eq_true rfl)) dX8_isBehind_21 ⟨Nat.zero_le _, Nat.zero_le _⟩) hS (fun H_5 lo_6 hX hS => ?_)
  refine lv_aload_n hx hb dX8_isBehind_24 rfl (lv_at hl 1 rfl) ?_
  refine lv_iload_n hx hb dX8_isBehind_25 rfl (lv_at hl 2 rfl) ?_
  refine lv_bipush (v := 9) hx hb dX8_isBehind_26 (by decide) ?_
  refine x_ip (w := (wM G B)) (x := x) (v := sF (x 5) ml 9) (va_runV (As := [.int (nI ml), .int (9)]) (rest := [.int (sF (x 5) o 9)]) ⟨hx, hb, hml, hown, hts⟩ (c_X8_of (l := l) (G := G) (B := B) (hW := hW) (x := x) (ml := ml) (k := 9) (hml9 := (by omega)) (hk10 := (by omega))) (cwV 2 hts gX8_isBehind_X8_of rfl rfl rfl (by decide +kernel) ⟨Nat.le_of_ble_eq_true rfl, Nat.le_of_ble_eq_true rfl⟩) (x_pv (w := (wM G B)) (a := 0) hW hX hK hE hS [.int (nI ml), .int (9)] (Nat.le_of_ble_eq_true rfl) (shM_0 (G := G) (B := B)) rfl) rfl rfl hl.1 rfl (lv_room (Nat.le_of_ble_eq_true rfl)) dX8_isBehind_28 ⟨Nat.zero_le _, Nat.zero_le _⟩) hS (fun H_7 lo_8 hX hS => ?_)
  refine lv_isub hx hb dX8_isBehind_31 ?_
  refine lv_istore (lv' := [(6, .int ((sF (x 5) o 9) - (sF (x 5) ml 9))), (5, .int ((sF (x 5) o 8) - (sF (x 5) ml 8))), (0, .ref (B + (0))), (1, .int (nI ml)), (2, .int (nI o)), (3, .int (nI q)), (4, .int (h))]) hx hb dX8_isBehind_32 hl (by decide) rfl (fun ls hl => ?_)
  refine lv_iload_n hx hb dX8_isBehind_34 rfl (lv_at hl 5 rfl) ?_
  have kJ_11 : ∀ (v_10 : Int32) (_ : v_10 = (if nI q = 0 then (-((sF (x 5) o 9) - (sF (x 5) ml 9))) else (if nI q = 1 then ((sF (x 5) o 8) - (sF (x 5) ml 8)) else (if nI q = 2 then ((sF (x 5) o 9) - (sF (x 5) ml 9)) else (-((sF (x 5) o 8) - (sF (x 5) ml 8))))))) (H_12 : Heap) (lo_13 : List Loc) (_ : MR G (wM G B) x H_12) (_ : va_S (blkA B (B + 13)) ss.heap H_12 lo_13) (ls : Array Slot) (_ : lv_has ls 11 [(6, .int ((sF (x 5) o 9) - (sF (x 5) ml 9))), (5, .int ((sF (x 5) o 8) - (sF (x 5) ml 8))), (0, .ref (B + (0))), (1, .int (nI ml)), (2, .int (nI o)), (3, .int (nI q)), (4, .int (h))]), W pp l ee rmX8_isBehind ss mm aa bb mt cd H_12 lo_13 0 0 Q (F0 mm 67 ls [.int (v_10)]) := by
    intro v_10 ev_10 H_12 lo_13 hX hS ls hl
    refine lv_istore (lv' := [(7, .int (v_10)), (6, .int ((sF (x 5) o 9) - (sF (x 5) ml 9))), (5, .int ((sF (x 5) o 8) - (sF (x 5) ml 8))), (0, .ref (B + (0))), (1, .int (nI ml)), (2, .int (nI o)), (3, .int (nI q)), (4, .int (h))]) hx hb dX8_isBehind_67 hl (by decide) rfl (fun ls hl => ?_)
    refine lv_iload_n hx hb dX8_isBehind_69 rfl (lv_at hl 6 rfl) ?_
    refine lv_iconst (v := 2) hx hb dX8_isBehind_70 (by decide) ?_
    refine lv_irem hx hb dX8_isBehind_71 (by decide) ?_
    have kJ_16 : ∀ (v_15 : Int32) (_ : v_15 = (if (nI q - nI q / 2 * 2) = 0 then ((sF (x 5) o 8) - (sF (x 5) ml 8)) else ((sF (x 5) o 9) - (sF (x 5) ml 9)))) (H_17 : Heap) (lo_18 : List Loc) (_ : MR G (wM G B) x H_17) (_ : va_S (blkA B (B + 13)) ss.heap H_17 lo_18) (ls : Array Slot) (_ : lv_has ls 11 [(7, .int (v_10)), (6, .int ((sF (x 5) o 9) - (sF (x 5) ml 9))), (5, .int ((sF (x 5) o 8) - (sF (x 5) ml 8))), (0, .ref (B + (0))), (1, .int (nI ml)), (2, .int (nI o)), (3, .int (nI q)), (4, .int (h))]), W pp l ee rmX8_isBehind ss mm aa bb mt cd H_17 lo_18 0 0 Q (F0 mm 82 ls [.int (v_15)]) := by
      intro v_15 ev_15 H_17 lo_18 hX hS ls hl
      refine lv_istore (lv' := [(8, .int (v_15)), (7, .int (v_10)), (6, .int ((sF (x 5) o 9) - (sF (x 5) ml 9))), (5, .int ((sF (x 5) o 8) - (sF (x 5) ml 8))), (0, .ref (B + (0))), (1, .int (nI ml)), (2, .int (nI o)), (3, .int (nI q)), (4, .int (h))]) hx hb dX8_isBehind_82 hl (by decide) rfl (fun ls hl => ?_)
      refine lv_aload_n hx hb dX8_isBehind_84 rfl (lv_at hl 4 rfl) ?_
      refine lv_iload_n hx hb dX8_isBehind_85 rfl (lv_at hl 5 rfl) ?_
      refine lv_iconst (v := 0) hx hb dX8_isBehind_86 (by decide) ?_
      refine x_ip (w := (wM G B)) (x := x) (v := sF (x 5) ml 0) (va_runV (As := [.int (nI ml), .int (0)]) (rest := []) ⟨hx, hb, hml, hown, hts⟩ (c_X8_of (l := l) (G := G) (B := B) (hW := hW) (x := x) (ml := ml) (k := 0) (hml9 := (by omega)) (hk10 := (by omega))) (cwV 2 hts gX8_isBehind_X8_of rfl rfl rfl (by decide +kernel) ⟨Nat.le_of_ble_eq_true rfl, Nat.le_of_ble_eq_true rfl⟩) (x_pv (w := (wM G B)) (a := 0) hW hX hK hE hS [.int (nI ml), .int (0)] (Nat.le_of_ble_eq_true rfl) (shM_0 (G := G) (B := B)) rfl) rfl rfl hl.1 rfl (lv_room (Nat.le_of_ble_eq_true rfl)) dX8_isBehind_87 ⟨Nat.zero_le _, Nat.zero_le _⟩) hS (fun H_19 lo_20 hX hS => ?_)
      refine lv_iload_n hx hb dX8_isBehind_90 rfl (lv_at hl 5 rfl) ?_
      refine lv_iload hx hb dX8_isBehind_91 (lv_at hl 8 rfl) ?_
      have kJ_23 : ∀ (v_22 : Bool) (_ : v_22 = (if nI ml = h then true else false)) (H_24 : Heap) (lo_25 : List Loc) (_ : MR G (wM G B) x H_24) (_ : va_S (blkA B (B + 13)) ss.heap H_24 lo_25) (ls : Array Slot) (_ : lv_has ls 11 [(8, .int (v_15)), (7, .int (v_10)), (6, .int ((sF (x 5) o 9) - (sF (x 5) ml 9))), (5, .int ((sF (x 5) o 8) - (sF (x 5) ml 8))), (0, .ref (B + (0))), (1, .int (nI ml)), (2, .int (nI o)), (3, .int (nI q)), (4, .int (h))]), W pp l ee rmX8_isBehind ss mm aa bb mt cd H_24 lo_25 0 0 Q (F0 mm 101 ls [.int (bI (v_22)), .int (sF (x 5) ml 0)]) := by
        intro v_22 ev_22 H_24 lo_25 hX hS ls hl
        refine lv_iadd hx hb dX8_isBehind_101 ?_
        refine lv_istore (lv' := [(9, .int ((sF (x 5) ml 0) + (bI (v_22)))), (8, .int (v_15)), (7, .int (v_10)), (6, .int ((sF (x 5) o 9) - (sF (x 5) ml 9))), (5, .int ((sF (x 5) o 8) - (sF (x 5) ml 8))), (0, .ref (B + (0))), (1, .int (nI ml)), (2, .int (nI o)), (3, .int (nI q)), (4, .int (h))]) hx hb dX8_isBehind_102 hl (by decide) rfl (fun ls hl => ?_)
        refine lv_aload_n hx hb dX8_isBehind_104 rfl (lv_at hl 5 rfl) ?_
        refine lv_iload_n hx hb dX8_isBehind_105 rfl (lv_at hl 7 rfl) ?_
        refine lv_iconst (v := 0) hx hb dX8_isBehind_106 (by decide) ?_
        refine x_ip (w := (wM G B)) (x := x) (v := sF (x 5) o 0) (va_runV (As := [.int (nI o), .int (0)]) (rest := []) ⟨hx, hb, hml, hown, hts⟩ (c_X8_of (l := l) (G := G) (B := B) (hW := hW) (x := x) (ml := o) (k := 0) (hml9 := (by omega)) (hk10 := (by omega))) (cwV 2 hts gX8_isBehind_X8_of rfl rfl rfl (by decide +kernel) ⟨Nat.le_of_ble_eq_true rfl, Nat.le_of_ble_eq_true rfl⟩) (x_pv (w := (wM G B)) (a := 0) hW hX hK hE hS [.int (nI o), .int (0)] (Nat.le_of_ble_eq_true rfl) (shM_0 (G := G) (B := B)) rfl) rfl rfl hl.1 rfl (lv_room (Nat.le_of_ble_eq_true rfl)) dX8_isBehind_107 ⟨Nat.zero_le _, Nat.zero_le _⟩) hS (fun H_26 lo_27 hX hS => ?_)
        refine lv_iload_n hx hb dX8_isBehind_110 rfl (lv_at hl 7 rfl) ?_
        refine lv_iload hx hb dX8_isBehind_111 (lv_at hl 9 rfl) ?_
        have kJ_30 : ∀ (v_29 : Bool) (_ : v_29 = (if nI o = h then true else false)) (H_31 : Heap) (lo_32 : List Loc) (_ : MR G (wM G B) x H_31) (_ : va_S (blkA B (B + 13)) ss.heap H_31 lo_32) (ls : Array Slot) (_ : lv_has ls 11 [(9, .int ((sF (x 5) ml 0) + (bI (v_22)))), (8, .int (v_15)), (7, .int (v_10)), (6, .int ((sF (x 5) o 9) - (sF (x 5) ml 9))), (5, .int ((sF (x 5) o 8) - (sF (x 5) ml 8))), (0, .ref (B + (0))), (1, .int (nI ml)), (2, .int (nI o)), (3, .int (nI q)), (4, .int (h))]), W pp l ee rmX8_isBehind ss mm aa bb mt cd H_31 lo_32 0 0 Q (F0 mm 121 ls [.int (bI (v_29)), .int (sF (x 5) o 0)]) := by
          intro v_29 ev_29 H_31 lo_32 hX hS ls hl
          refine lv_iadd hx hb dX8_isBehind_121 ?_
          refine lv_istore (lv' := [(10, .int ((sF (x 5) o 0) + (bI (v_29)))), (9, .int ((sF (x 5) ml 0) + (bI (v_22)))), (8, .int (v_15)), (7, .int (v_10)), (6, .int ((sF (x 5) o 9) - (sF (x 5) ml 9))), (5, .int ((sF (x 5) o 8) - (sF (x 5) ml 8))), (0, .ref (B + (0))), (1, .int (nI ml)), (2, .int (nI o)), (3, .int (nI q)), (4, .int (h))]) hx hb dX8_isBehind_122 hl (by decide) rfl (fun ls hl => ?_)
          refine lv_iload_n hx hb dX8_isBehind_124 rfl (lv_at hl 7 rfl) ?_
          refine lv_iload_n hx hb dX8_isBehind_125 rfl (lv_at hl 8 rfl) ?_
          have kJ_35 : ∀ (v_34 : Bool) (_ : v_34 = (if nI ml = nI o then false else (if (decide (((1 : Int32)) ≤ ((v_10 : Int32))) && decide (((v_10 : Int32)) ≤ ((6 : Int32)))) = false then false else (if (decide ((((-1) : Int32)) ≤ ((v_15 : Int32))) && decide (((v_15 : Int32)) ≤ ((1 : Int32)))) = false then false else (if ((sF (x 5) o 0) + (bI (v_29))) < ((sF (x 5) ml 0) + (bI (v_22))) then false else true))))) (H_36 : Heap) (lo_37 : List Loc) (_ : MR G (wM G B) x H_36) (_ : va_S (blkA B (B + 13)) ss.heap H_36 lo_37) (ls : Array Slot) (_ : lv_has ls 11 [(10, .int ((sF (x 5) o 0) + (bI (v_29)))), (9, .int ((sF (x 5) ml 0) + (bI (v_22)))), (8, .int (v_15)), (7, .int (v_10)), (6, .int ((sF (x 5) o 9) - (sF (x 5) ml 9))), (5, .int ((sF (x 5) o 8) - (sF (x 5) ml 8))), (0, .ref (B + (0))), (1, .int (nI ml)), (2, .int (nI o)), (3, .int (nI q)), (4, .int (h))]), W pp l ee rmX8_isBehind ss mm aa bb mt cd H_36 lo_37 0 0 Q (F0 mm 167 ls [.int (bI (v_34))]) := by
            intro v_34 ev_34 H_36 lo_37 hX hS ls hl
            rw [← hQ]
            refine x_zret (v := bI (v_34)) (ty := .boolean) hx hb hr (bI_nar _) hX hS hlocks dX8_isBehind_167 ?_
            refine ⟨?_, rfl⟩
            rw [ev_34]
            exact congrArg bI (beh_ref hml9 ho9 hq ev_10 ev_15 ev_22 ev_29)
          refine lv_icmp_eq (tgt := 166) hx hb dX8_isBehind_126 (by decide) (fun c_33 => ?_) (fun c_33 => ?_)
          · refine lv_iconst (v := 0) hx hb dX8_isBehind_166 (by decide) ?_
            exact kJ_35 (false) (by rw [if_pos c_33]) _ _ hX hS ls (lv_sub hl [0, 1, 2, 3, 4, 5, 6, 7, 8, 9, 10] rfl)
          · refine lv_iload hx hb dX8_isBehind_129 (lv_at hl 3 rfl) ?_
            refine lv_i2l (v := (v_10 : Int32).toInt64) hx hb dX8_isBehind_131 rfl ?_
            refine lv_lconst (v := 1) hx hb dX8_isBehind_132 (by decide) ?_
            refine lv_ldc2 (v := 6) hx hb hown (hts _ kX8_isBehind_191) dX8_isBehind_133 ?_
            refine x_ip (w := (wM G B)) (x := x) (v := bI (decide (((1 : Int32)) ≤ ((v_10 : Int32))) && decide (((v_10 : Int32)) ≤ ((6 : Int32))))) (va_runS (As := [.long ((v_10 : Int32).toInt64), .long (1), .long (6)]) (rest := []) ⟨hx, hb, hml, hown, hts⟩ (c_X8_in (l := l) (G := G) (B := B) (hW := hW) (x := x) (va := (v_10 : Int32).toInt64) (vb := 1) (vc := 6) (v1 := (v_10 : Int32)) (lo1 := (1 : Int32)) (hi1 := (6 : Int32)) (hv := (by first | rfl | decide)) (hlo := (by first | rfl | decide)) (hhi := (by first | rfl | decide))) (va_cwS 3 hts gX8_isBehind_X8_in rfl rfl rfl (by decide +kernel) ⟨Nat.le_of_ble_eq_true rfl, Nat.le_of_ble_eq_true rfl⟩) (x_ps (w := (wM G B)) hW hX hK hE hS [.long ((v_10 : Int32).toInt64), .long (1), .long (6)]) rfl rfl hl.1 rfl (lv_room (Nat.le_of_ble_eq_true rfl)) dX8_isBehind_136 ⟨Nat.zero_le _, Nat.zero_le _⟩) hS (fun H_38 lo_39 hX hS => ?_)
            refine x_ifeq (tgt := 166) hx hb dX8_isBehind_139 (by decide) (fun c_40 => ?_) (fun c_40 => ?_)
            · refine lv_iconst (v := 0) hx hb dX8_isBehind_166 (by decide) ?_
              exact kJ_35 (false) (by rw [if_neg c_33, if_pos c_40]) _ _ hX hS ls (lv_sub hl [0, 1, 2, 3, 4, 5, 6, 7, 8, 9, 10] rfl)
            · refine lv_iload hx hb dX8_isBehind_142 (lv_at hl 2 rfl) ?_
              refine lv_i2l (v := (v_15 : Int32).toInt64) hx hb dX8_isBehind_144 rfl ?_
              refine lv_ldc2 (v := (-1)) hx hb hown (hts _ kX8_isBehind_113) dX8_isBehind_145 ?_
              refine lv_lconst (v := 1) hx hb dX8_isBehind_148 (by decide) ?_
              refine x_ip (w := (wM G B)) (x := x) (v := bI (decide ((((-1) : Int32)) ≤ ((v_15 : Int32))) && decide (((v_15 : Int32)) ≤ ((1 : Int32))))) (va_runS (As := [.long ((v_15 : Int32).toInt64), .long ((-1)), .long (1)]) (rest := []) ⟨hx, hb, hml, hown, hts⟩ (c_X8_in (l := l) (G := G) (B := B) (hW := hW) (x := x) (va := (v_15 : Int32).toInt64) (vb := (-1)) (vc := 1) (v1 := (v_15 : Int32)) (lo1 := ((-1) : Int32)) (hi1 := (1 : Int32)) (hv := (by first | rfl | decide)) (hlo := (by first | rfl | decide)) (hhi := (by first | rfl | decide))) (va_cwS 3 hts gX8_isBehind_X8_in rfl rfl rfl (by decide +kernel) ⟨Nat.le_of_ble_eq_true rfl, Nat.le_of_ble_eq_true rfl⟩) (x_ps (w := (wM G B)) hW hX hK hE hS [.long ((v_15 : Int32).toInt64), .long ((-1)), .long (1)]) rfl rfl hl.1 rfl (lv_room (Nat.le_of_ble_eq_true rfl)) dX8_isBehind_149 ⟨Nat.zero_le _, Nat.zero_le _⟩) hS (fun H_41 lo_42 hX hS => ?_)
              refine x_ifeq (tgt := 166) hx hb dX8_isBehind_152 (by decide) (fun c_43 => ?_) (fun c_43 => ?_)
              · refine lv_iconst (v := 0) hx hb dX8_isBehind_166 (by decide) ?_
                exact kJ_35 (false) (by rw [if_neg c_33, if_neg (ne_of_true c_40), if_pos c_43]) _ _ hX hS ls (lv_sub hl [0, 1, 2, 3, 4, 5, 6, 7, 8, 9, 10] rfl)
              · refine lv_iload hx hb dX8_isBehind_155 (lv_at hl 0 rfl) ?_
                refine lv_iload hx hb dX8_isBehind_157 (lv_at hl 1 rfl) ?_
                refine lv_icmp_lt (tgt := 166) hx hb dX8_isBehind_159 (by decide) (fun c_44 => ?_) (fun c_44 => ?_)
                · refine lv_iconst (v := 0) hx hb dX8_isBehind_166 (by decide) ?_
                  exact kJ_35 (false) (by rw [if_neg c_33, if_neg (ne_of_true c_40), if_neg (ne_of_true c_43), if_pos c_44]) _ _ hX hS ls (lv_sub hl [0, 1, 2, 3, 4, 5, 6, 7, 8, 9, 10] rfl)
                · refine lv_iconst (v := 1) hx hb dX8_isBehind_162 (by decide) ?_
                  refine lv_goto (tgt := 167) hx hb dX8_isBehind_163 (by decide) ?_
                  exact kJ_35 (true) (by rw [if_neg c_33, if_neg (ne_of_true c_40), if_neg (ne_of_true c_43), if_neg c_44]) _ _ hX hS ls (lv_sub hl [0, 1, 2, 3, 4, 5, 6, 7, 8, 9, 10] rfl)
        refine lv_icmp_ne (tgt := 120) hx hb dX8_isBehind_113 (by decide) (fun c_28 => ?_) (fun c_28 => ?_)
        · refine lv_iconst (v := 0) hx hb dX8_isBehind_120 (by decide) ?_
          exact kJ_30 (false) (by rw [if_neg c_28]) _ _ hX hS ls (lv_sub hl [0, 1, 2, 3, 4, 5, 6, 7, 8, 9] rfl)
        · refine lv_iconst (v := 1) hx hb dX8_isBehind_116 (by decide) ?_
          refine lv_goto (tgt := 121) hx hb dX8_isBehind_117 (by decide) ?_
          exact kJ_30 (true) (by rw [if_pos c_28]) _ _ hX hS ls (lv_sub hl [0, 1, 2, 3, 4, 5, 6, 7, 8, 9] rfl)
      refine lv_icmp_ne (tgt := 100) hx hb dX8_isBehind_93 (by decide) (fun c_21 => ?_) (fun c_21 => ?_)
      · refine lv_iconst (v := 0) hx hb dX8_isBehind_100 (by decide) ?_
        exact kJ_23 (false) (by rw [if_neg c_21]) _ _ hX hS ls (lv_sub hl [0, 1, 2, 3, 4, 5, 6, 7, 8] rfl)
      · refine lv_iconst (v := 1) hx hb dX8_isBehind_96 (by decide) ?_
        refine lv_goto (tgt := 101) hx hb dX8_isBehind_97 (by decide) ?_
        exact kJ_23 (true) (by rw [if_pos c_21]) _ _ hX hS ls (lv_sub hl [0, 1, 2, 3, 4, 5, 6, 7, 8] rfl)
    refine lv_if_ne (tgt := 80) hx hb dX8_isBehind_72 (by decide) (fun c_14 => ?_) (fun c_14 => ?_)
    · refine lv_iload hx hb dX8_isBehind_80 (lv_at hl 1 rfl) ?_
      exact kJ_16 ((sF (x 5) o 9) - (sF (x 5) ml 9)) (by rw [if_neg c_14]) _ _ hX hS ls (lv_sub hl [0, 1, 2, 3, 4, 5, 6, 7] rfl)
    · refine lv_iload hx hb dX8_isBehind_75 (lv_at hl 2 rfl) ?_
      refine lv_goto (tgt := 82) hx hb dX8_isBehind_77 (by decide) ?_
      exact kJ_16 ((sF (x 5) o 8) - (sF (x 5) ml 8)) (by rw [if_pos c_14]) _ _ hX hS ls (lv_sub hl [0, 1, 2, 3, 4, 5, 6, 7] rfl)
  refine lv_if_ne (tgt := 44) hx hb dX8_isBehind_35 (by decide) (fun c_9 => ?_) (fun c_9 => ?_)
  · refine lv_iload_n hx hb dX8_isBehind_44 rfl (lv_at hl 5 rfl) ?_
    refine lv_iconst (v := 1) hx hb dX8_isBehind_45 (by decide) ?_
    refine lv_icmp_ne (tgt := 54) hx hb dX8_isBehind_46 (by decide) (fun c_45 => ?_) (fun c_45 => ?_)
    · refine lv_iload_n hx hb dX8_isBehind_54 rfl (lv_at hl 5 rfl) ?_
      refine lv_iconst (v := 2) hx hb dX8_isBehind_55 (by decide) ?_
      refine lv_icmp_ne (tgt := 64) hx hb dX8_isBehind_56 (by decide) (fun c_46 => ?_) (fun c_46 => ?_)
      · refine lv_iload hx hb dX8_isBehind_64 (lv_at hl 1 rfl) ?_
        refine lv_ineg hx hb dX8_isBehind_66 ?_
        exact kJ_11 (-((sF (x 5) o 8) - (sF (x 5) ml 8))) (by rw [if_neg c_9, if_neg c_45, if_neg c_46]) _ _ hX hS ls (lv_sub hl [0, 1, 2, 3, 4, 5, 6] rfl)
      · refine lv_iload hx hb dX8_isBehind_59 (lv_at hl 0 rfl) ?_
        refine lv_goto (tgt := 67) hx hb dX8_isBehind_61 (by decide) ?_
        exact kJ_11 ((sF (x 5) o 9) - (sF (x 5) ml 9)) (by rw [if_neg c_9, if_neg c_45, if_pos c_46]) _ _ hX hS ls (lv_sub hl [0, 1, 2, 3, 4, 5, 6] rfl)
    · refine lv_iload hx hb dX8_isBehind_49 (lv_at hl 1 rfl) ?_
      refine lv_goto (tgt := 67) hx hb dX8_isBehind_51 (by decide) ?_
      exact kJ_11 ((sF (x 5) o 8) - (sF (x 5) ml 8)) (by rw [if_neg c_9, if_pos c_45]) _ _ hX hS ls (lv_sub hl [0, 1, 2, 3, 4, 5, 6] rfl)
  · refine lv_iload hx hb dX8_isBehind_38 (lv_at hl 0 rfl) ?_
    refine lv_ineg hx hb dX8_isBehind_40 ?_
    refine lv_goto (tgt := 67) hx hb dX8_isBehind_41 (by decide) ?_
    exact kJ_11 (-((sF (x 5) o 9) - (sF (x 5) ml 9))) (by rw [if_pos c_9]) _ _ hX hS ls (lv_sub hl [0, 1, 2, 3, 4, 5, 6] rfl)

theorem kX8_turns_22 : (.fieldLink RX8 22 "WindTakenModel" "now" "[I" : Cond) ∈ wsX8_turns := by decide +kernel
theorem iX8_turns_X8 : ∀ w ∈ wsX80, w ∈ wsX8_turns := by decide +kernel
abbrev rmX8_turns : Room := { frames := 1, cells := 0, slots := 0, locals := 22 }
set_option maxHeartbeats 4000000 in
set_option maxRecDepth 100000 in
theorem c_X8_turns (l : Launch) (G : GG) (B : Nat) (hW : WOK (wM G B)) (x : Mem) {ml : Nat} {q : Nat} {s : Nat} (hml9 : ml < 8) (hq : q < 4) (hs : s < 256) : Met l yX8_turns wsX8_turns rmX8_turns (XP G (wM G B) [.ref (B + (0)), .int (nI ml), .int (nI q), .int (nI s)] x) (va_Qi (fun r u => r = bI (sTurns (x 5) ml q s) ∧ u = x) (XB G (wM G B)) (blkA B (B + 13))) 0 0 (blkA B (B + 13)) := by
  refine Met.ofW (cc := cX8_turns) (maxL := 5) (ret := (some .boolean)) (by decide) rfl ?_
  intro pp ee ss mm aa bb mt cd s1 Bd hml hv
  obtain ⟨hae, hX, hK, hE⟩ := hv
  have hx := Bd.exec
  have hb := Bd.bytes
  have hr := Bd.returns
  have hts := atoms_spec (ws := wsX8_turns) Bd.pre
  have hown : ss.vm.findClass RX8 = some mm.cls := findClass_of_methodNamed Bd.named
  have hlocks := Bd.notSynchronized
  have hS : va_S (blkA B (B + 13)) ss.heap ss.heap [] := va_S.rf
  have hl := lv_entry ([.ref (B + (0)), .int (nI ml), .int (nI q), .int (nI s)]) (n := 5) (Nat.le_of_ble_eq_true rfl)
  subst hae
  rw [lg_entry_eq]
  generalize (lg_sl ([.ref (B + (0)), .int (nI ml), .int (nI q), .int (nI s)]) ++ List.replicate (5 - (lg_sl ([.ref (B + (0)), .int (nI ml), .int (nI q), .int (nI s)])).length) Slot.unset).toArray = ls at hl ⊢
  have hl : lv_has ls 5 [(0, .ref (B + (0))), (1, .int (nI ml)), (2, .int (nI q)), (3, .int (nI s))] := hl
  generalize ([.ref (B + (0)), .int (nI ml), .int (nI q), .int (nI s)] : List Value).toArray = aa at hts ⊢
  show W pp l ee rmX8_turns ss mm aa bb mt cd ss.heap [] 0 0 _ (F0 mm 0 ls [])
  generalize hQ : MQ bb (va_Qi (fun r u => r = bI (sTurns (x 5) ml q s) ∧ u = x) (XB G (wM G B)) (blkA B (B + 13))) aa ss 0 0 (blkA B (B + 13)) = Q
  refine lv_aload_n hx hb dX8_turns_0 rfl (lv_at hl 0 rfl) ?_
  refine x_get (w := (wM G B)) (a := 0) (v := .ref (B + (5))) hx hb hts iX8_turns_X8 hown hK hX (Nat.le_of_ble_eq_true rfl) (shM_0 (G := G) (B := B)) rfl 7 (by decide) (hts _ kX8_turns_22) (fun _ h9 => h9) rfl dX8_turns_1 ?_
  refine lv_bipush (v := 85) hx hb dX8_turns_4 (by decide) ?_
  refine lv_iload_n hx hb dX8_turns_6 rfl (lv_at hl 1 rfl) ?_
  refine lv_iadd hx hb dX8_turns_7 ?_
  refine x_iald (w := (wM G B)) (a := 5) (n := 93) (j := 85 + ml) hx hb hK hX (Nat.le_of_ble_eq_true rfl) (shM_a (G := G) (B := B) (a := 5) (f := x (5)) (by decide)) (n_add rfl rfl) (by omega) (by decide) dX8_turns_8 ?_
  refine lv_iconst (v := 1) hx hb dX8_turns_9 (by decide) ?_
  have kJ_3 : ∀ (v_2 : Bool) (_ : v_2 = (if (x (5) (85 + ml)) = 1 then (if (sF (x 5) ml 6) = nI q then false else true) else false)) (H_4 : Heap) (lo_5 : List Loc) (_ : MR G (wM G B) x H_4) (_ : va_S (blkA B (B + 13)) ss.heap H_4 lo_5) (ls : Array Slot) (_ : lv_has ls 5 [(0, .ref (B + (0))), (1, .int (nI ml)), (2, .int (nI q)), (3, .int (nI s))]), W pp l ee rmX8_turns ss mm aa bb mt cd H_4 lo_5 0 0 Q (F0 mm 29 ls [.int (bI (v_2))]) := by
    intro v_2 ev_2 H_4 lo_5 hX hS ls hl
    refine lv_istore (lv' := [(4, .int (bI (v_2))), (0, .ref (B + (0))), (1, .int (nI ml)), (2, .int (nI q)), (3, .int (nI s))]) hx hb dX8_turns_29 hl (by decide) rfl (fun ls hl => ?_)
    refine lv_aload_n hx hb dX8_turns_31 rfl (lv_at hl 1 rfl) ?_
    refine lv_iload_n hx hb dX8_turns_32 rfl (lv_at hl 2 rfl) ?_
    refine lv_bipush (v := 7) hx hb dX8_turns_33 (by decide) ?_
    refine x_ip (w := (wM G B)) (x := x) (v := sF (x 5) ml 7) (va_runV (As := [.int (nI ml), .int (7)]) (rest := []) ⟨hx, hb, hml, hown, hts⟩ (c_X8_of (l := l) (G := G) (B := B) (hW := hW) (x := x) (ml := ml) (k := 7) (hml9 := (by omega)) (hk10 := (by omega))) (cwV 2 hts gX8_turns_X8_of rfl rfl rfl (by decide +kernel) ⟨Nat.le_of_ble_eq_true rfl, Nat.le_of_ble_eq_true rfl⟩) (x_pv (w := (wM G B)) (a := 0) hW hX hK hE hS [.int (nI ml), .int (7)] (Nat.le_of_ble_eq_true rfl) (shM_0 (G := G) (B := B)) rfl) rfl rfl hl.1 rfl (lv_room (Nat.le_of_ble_eq_true rfl)) dX8_turns_35 ⟨Nat.zero_le _, Nat.zero_le _⟩) hS (fun H_6 lo_7 hX hS => ?_)
    have kJ_10 : ∀ (v_9 : Bool) (_ : v_9 = (if (sF (x 5) ml 7) = 0 then (if (s.testBit ml) = true then false else (if (x (5) (85 + ml)) = 5 then false else (if v_2 = true then false else true))) else false)) (H_11 : Heap) (lo_12 : List Loc) (_ : MR G (wM G B) x H_11) (_ : va_S (blkA B (B + 13)) ss.heap H_11 lo_12) (ls : Array Slot) (_ : lv_has ls 5 [(4, .int (bI (v_2))), (0, .ref (B + (0))), (1, .int (nI ml)), (2, .int (nI q)), (3, .int (nI s))]), W pp l ee rmX8_turns ss mm aa bb mt cd H_11 lo_12 0 0 Q (F0 mm 72 ls [.int (bI (v_9))]) := by
      intro v_9 ev_9 H_11 lo_12 hX hS ls hl
      rw [← hQ]
      refine x_zret (v := bI (v_9)) (ty := .boolean) hx hb hr (bI_nar _) hX hS hlocks dX8_turns_72 ?_
      refine ⟨?_, rfl⟩
      rw [ev_9]
      exact congrArg bI (tur_ref ev_2)
    refine lv_if_ne (tgt := 71) hx hb dX8_turns_38 (by decide) (fun c_8 => ?_) (fun c_8 => ?_)
    · refine lv_iconst (v := 0) hx hb dX8_turns_71 (by decide) ?_
      exact kJ_10 (false) (by rw [if_neg c_8]) _ _ hX hS ls (lv_sub hl [0, 1, 2, 3, 4] rfl)
    · refine lv_iload_n hx hb dX8_turns_41 rfl (lv_at hl 4 rfl) ?_
      refine lv_iload_n hx hb dX8_turns_42 rfl (lv_at hl 2 rfl) ?_
      refine x_ip (w := (wM G B)) (x := x) (v := bI (s.testBit ml)) (va_runS (As := [.int (nI s), .int (nI ml)]) (rest := []) ⟨hx, hb, hml, hown, hts⟩ (c_X8_has (l := l) (G := G) (B := B) (hW := hW) (x := x) (s := s) (ml := ml) (hs := (by omega)) (hml9 := (by omega))) (va_cwS 2 hts gX8_turns_X8_has rfl rfl rfl (by decide +kernel) ⟨Nat.le_of_ble_eq_true rfl, Nat.le_of_ble_eq_true rfl⟩) (x_ps (w := (wM G B)) hW hX hK hE hS [.int (nI s), .int (nI ml)]) rfl rfl hl.1 rfl (lv_room (Nat.le_of_ble_eq_true rfl)) dX8_turns_43 ⟨Nat.zero_le _, Nat.zero_le _⟩) hS (fun H_13 lo_14 hX hS => ?_)
      refine x_ifne (tgt := 71) hx hb dX8_turns_46 (by decide) (fun c_15 => ?_) (fun c_15 => ?_)
      · refine lv_iconst (v := 0) hx hb dX8_turns_71 (by decide) ?_
        exact kJ_10 (false) (by rw [if_pos c_8, if_pos c_15]) _ _ hX hS ls (lv_sub hl [0, 1, 2, 3, 4] rfl)
      · refine lv_aload_n hx hb dX8_turns_49 rfl (lv_at hl 1 rfl) ?_
        refine x_get (w := (wM G B)) (a := 0) (v := .ref (B + (5))) hx hb hts iX8_turns_X8 hown hK hX (Nat.le_of_ble_eq_true rfl) (shM_0 (G := G) (B := B)) rfl 7 (by decide) (hts _ kX8_turns_22) (fun _ h9 => h9) rfl dX8_turns_50 ?_
        refine lv_bipush (v := 85) hx hb dX8_turns_53 (by decide) ?_
        refine lv_iload_n hx hb dX8_turns_55 rfl (lv_at hl 2 rfl) ?_
        refine lv_iadd hx hb dX8_turns_56 ?_
        refine x_iald (w := (wM G B)) (a := 5) (n := 93) (j := 85 + ml) hx hb hK hX (Nat.le_of_ble_eq_true rfl) (shM_a (G := G) (B := B) (a := 5) (f := x (5)) (by decide)) (n_add rfl rfl) (by omega) (by decide) dX8_turns_57 ?_
        refine lv_iconst (v := 5) hx hb dX8_turns_58 (by decide) ?_
        refine lv_icmp_eq (tgt := 71) hx hb dX8_turns_59 (by decide) (fun c_16 => ?_) (fun c_16 => ?_)
        · refine lv_iconst (v := 0) hx hb dX8_turns_71 (by decide) ?_
          exact kJ_10 (false) (by rw [if_pos c_8, if_neg (ne_of_false c_15), if_pos c_16]) _ _ hX hS ls (lv_sub hl [0, 1, 2, 3, 4] rfl)
        · refine lv_iload hx hb dX8_turns_62 (lv_at hl 0 rfl) ?_
          refine x_ifne (tgt := 71) hx hb dX8_turns_64 (by decide) (fun c_17 => ?_) (fun c_17 => ?_)
          · refine lv_iconst (v := 0) hx hb dX8_turns_71 (by decide) ?_
            exact kJ_10 (false) (by rw [if_pos c_8, if_neg (ne_of_false c_15), if_neg c_16, if_pos c_17]) _ _ hX hS ls (lv_sub hl [0, 1, 2, 3, 4] rfl)
          · refine lv_iconst (v := 1) hx hb dX8_turns_67 (by decide) ?_
            refine lv_goto (tgt := 72) hx hb dX8_turns_68 (by decide) ?_
            exact kJ_10 (true) (by rw [if_pos c_8, if_neg (ne_of_false c_15), if_neg c_16, if_neg (ne_of_false c_17)]) _ _ hX hS ls (lv_sub hl [0, 1, 2, 3, 4] rfl)
  refine lv_icmp_ne (tgt := 28) hx hb dX8_turns_10 (by decide) (fun c_1 => ?_) (fun c_1 => ?_)
  · refine lv_iconst (v := 0) hx hb dX8_turns_28 (by decide) ?_
    exact kJ_3 (false) (by rw [if_neg c_1]) _ _ hX hS ls (lv_sub hl [0, 1, 2, 3] rfl)
  · refine lv_aload_n hx hb dX8_turns_13 rfl (lv_at hl 0 rfl) ?_
    refine lv_iload_n hx hb dX8_turns_14 rfl (lv_at hl 1 rfl) ?_
    refine lv_bipush (v := 6) hx hb dX8_turns_15 (by decide) ?_
    refine x_ip (w := (wM G B)) (x := x) (v := sF (x 5) ml 6) (va_runV (As := [.int (nI ml), .int (6)]) (rest := []) ⟨hx, hb, hml, hown, hts⟩ (c_X8_of (l := l) (G := G) (B := B) (hW := hW) (x := x) (ml := ml) (k := 6) (hml9 := (by omega)) (hk10 := (by omega))) (cwV 2 hts gX8_turns_X8_of rfl rfl rfl (by decide +kernel) ⟨Nat.le_of_ble_eq_true rfl, Nat.le_of_ble_eq_true rfl⟩) (x_pv (w := (wM G B)) (a := 0) hW hX hK hE hS [.int (nI ml), .int (6)] (Nat.le_of_ble_eq_true rfl) (shM_0 (G := G) (B := B)) rfl) rfl rfl hl.1 rfl (lv_room (Nat.le_of_ble_eq_true rfl)) dX8_turns_17 ⟨Nat.zero_le _, Nat.zero_le _⟩) hS (fun H_18 lo_19 hX hS => ?_)
    refine lv_iload_n hx hb dX8_turns_20 rfl (lv_at hl 2 rfl) ?_
    refine lv_icmp_eq (tgt := 28) hx hb dX8_turns_21 (by decide) (fun c_20 => ?_) (fun c_20 => ?_)
    · refine lv_iconst (v := 0) hx hb dX8_turns_28 (by decide) ?_
      exact kJ_3 (false) (by rw [if_pos c_1, if_pos c_20]) _ _ hX hS ls (lv_sub hl [0, 1, 2, 3] rfl)
    · refine lv_iconst (v := 1) hx hb dX8_turns_24 (by decide) ?_
      refine lv_goto (tgt := 29) hx hb dX8_turns_25 (by decide) ?_
      exact kJ_3 (true) (by rw [if_pos c_1, if_neg c_20]) _ _ hX hS ls (lv_sub hl [0, 1, 2, 3] rfl)

theorem kX8_takes_22 : (.fieldLink RX8 22 "WindTakenModel" "now" "[I" : Cond) ∈ wsX8_takes := by decide +kernel
theorem iX8_takes_X8 : ∀ w ∈ wsX80, w ∈ wsX8_takes := by decide +kernel
abbrev rmX8_takes : Room := { frames := 2, cells := 0, slots := 0, locals := 46 }
set_option maxHeartbeats 4000000 in
set_option maxRecDepth 100000 in
theorem c_X8_takes (l : Launch) (G : GG) (B : Nat) (hW : WOK (wM G B)) (x : Mem) {ml : Nat} {q : Nat} {s : Nat} (hml9 : ml < 8) (hq : q < 4) (hs : s < 256) : Met l yX8_takes wsX8_takes rmX8_takes (XP G (wM G B) [.ref (B + (0)), .int (nI ml), .int (nI q), .int (nI s)] x) (va_Qi (fun r u => r = bI (sTakes (x 5) ml q s) ∧ u = x) (XB G (wM G B)) (blkA B (B + 13))) 0 0 (blkA B (B + 13)) := by
  refine Met.ofW (cc := cX8_takes) (maxL := 4) (ret := (some .boolean)) (by decide) rfl ?_
  intro pp ee ss mm aa bb mt cd s1 Bd hml hv
  obtain ⟨hae, hX, hK, hE⟩ := hv
  have hx := Bd.exec
  have hb := Bd.bytes
  have hr := Bd.returns
  have hts := atoms_spec (ws := wsX8_takes) Bd.pre
  have hown : ss.vm.findClass RX8 = some mm.cls := findClass_of_methodNamed Bd.named
  have hlocks := Bd.notSynchronized
  have hS : va_S (blkA B (B + 13)) ss.heap ss.heap [] := va_S.rf
  have hl := lv_entry ([.ref (B + (0)), .int (nI ml), .int (nI q), .int (nI s)]) (n := 4) (Nat.le_of_ble_eq_true rfl)
  subst hae
  rw [lg_entry_eq]
  generalize (lg_sl ([.ref (B + (0)), .int (nI ml), .int (nI q), .int (nI s)]) ++ List.replicate (4 - (lg_sl ([.ref (B + (0)), .int (nI ml), .int (nI q), .int (nI s)])).length) Slot.unset).toArray = ls at hl ⊢
  have hl : lv_has ls 4 [(0, .ref (B + (0))), (1, .int (nI ml)), (2, .int (nI q)), (3, .int (nI s))] := hl
  generalize ([.ref (B + (0)), .int (nI ml), .int (nI q), .int (nI s)] : List Value).toArray = aa at hts ⊢
  show W pp l ee rmX8_takes ss mm aa bb mt cd ss.heap [] 0 0 _ (F0 mm 0 ls [])
  generalize hQ : MQ bb (va_Qi (fun r u => r = bI (sTakes (x 5) ml q s) ∧ u = x) (XB G (wM G B)) (blkA B (B + 13))) aa ss 0 0 (blkA B (B + 13)) = Q
  refine lv_aload_n hx hb dX8_takes_0 rfl (lv_at hl 0 rfl) ?_
  refine lv_iload_n hx hb dX8_takes_1 rfl (lv_at hl 1 rfl) ?_
  refine lv_iload_n hx hb dX8_takes_2 rfl (lv_at hl 2 rfl) ?_
  refine lv_iload_n hx hb dX8_takes_3 rfl (lv_at hl 3 rfl) ?_
  refine x_ip (w := (wM G B)) (x := x) (v := bI (sTurns (x 5) ml q s)) (va_runV (As := [.int (nI ml), .int (nI q), .int (nI s)]) (rest := []) ⟨hx, hb, hml, hown, hts⟩ (c_X8_turns (l := l) (G := G) (B := B) (hW := hW) (x := x) (ml := ml) (q := q) (s := s) (hml9 := (by omega)) (hq := (by omega)) (hs := (by omega))) (cwV 3 hts gX8_takes_X8_turns rfl rfl rfl (by decide +kernel) ⟨Nat.le_of_ble_eq_true rfl, Nat.le_of_ble_eq_true rfl⟩) (x_pv (w := (wM G B)) (a := 0) hW hX hK hE hS [.int (nI ml), .int (nI q), .int (nI s)] (Nat.le_of_ble_eq_true rfl) (shM_0 (G := G) (B := B)) rfl) rfl rfl hl.1 rfl (lv_room (Nat.le_of_ble_eq_true rfl)) dX8_takes_4 ⟨Nat.zero_le _, Nat.zero_le _⟩) hS (fun H_1 lo_2 hX hS => ?_)
  have kJ_5 : ∀ (v_4 : Bool) (_ : v_4 = (if (sTurns (x 5) ml q s) = false then false else (if (x (5) (85 + ml)) = 4 then false else true))) (H_6 : Heap) (lo_7 : List Loc) (_ : MR G (wM G B) x H_6) (_ : va_S (blkA B (B + 13)) ss.heap H_6 lo_7) (ls : Array Slot) (_ : lv_has ls 4 [(0, .ref (B + (0))), (1, .int (nI ml)), (2, .int (nI q)), (3, .int (nI s))]), W pp l ee rmX8_takes ss mm aa bb mt cd H_6 lo_7 0 0 Q (F0 mm 28 ls [.int (bI (v_4))]) := by
    intro v_4 ev_4 H_6 lo_7 hX hS ls hl
    rw [← hQ]
    refine x_zret (v := bI (v_4)) (ty := .boolean) hx hb hr (bI_nar _) hX hS hlocks dX8_takes_28 ?_
    refine ⟨?_, rfl⟩
    rw [ev_4]
    exact congrArg bI tak_ref
  refine x_ifeq (tgt := 27) hx hb dX8_takes_7 (by decide) (fun c_3 => ?_) (fun c_3 => ?_)
  · refine lv_iconst (v := 0) hx hb dX8_takes_27 (by decide) ?_
    exact kJ_5 (false) (by rw [if_pos c_3]) _ _ hX hS ls (lv_sub hl [0, 1, 2, 3] rfl)
  · refine lv_aload_n hx hb dX8_takes_10 rfl (lv_at hl 0 rfl) ?_
    refine x_get (w := (wM G B)) (a := 0) (v := .ref (B + (5))) hx hb hts iX8_takes_X8 hown hK hX (Nat.le_of_ble_eq_true rfl) (shM_0 (G := G) (B := B)) rfl 7 (by decide) (hts _ kX8_takes_22) (fun _ h9 => h9) rfl dX8_takes_11 ?_
    refine lv_bipush (v := 85) hx hb dX8_takes_14 (by decide) ?_
    refine lv_iload_n hx hb dX8_takes_16 rfl (lv_at hl 1 rfl) ?_
    refine lv_iadd hx hb dX8_takes_17 ?_
    refine x_iald (w := (wM G B)) (a := 5) (n := 93) (j := 85 + ml) hx hb hK hX (Nat.le_of_ble_eq_true rfl) (shM_a (G := G) (B := B) (a := 5) (f := x (5)) (by decide)) (n_add rfl rfl) (by omega) (by decide) dX8_takes_18 ?_
    refine lv_iconst (v := 4) hx hb dX8_takes_19 (by decide) ?_
    refine lv_icmp_eq (tgt := 27) hx hb dX8_takes_20 (by decide) (fun c_8 => ?_) (fun c_8 => ?_)
    · refine lv_iconst (v := 0) hx hb dX8_takes_27 (by decide) ?_
      exact kJ_5 (false) (by rw [if_neg (ne_of_true c_3), if_pos c_8]) _ _ hX hS ls (lv_sub hl [0, 1, 2, 3] rfl)
    · refine lv_iconst (v := 1) hx hb dX8_takes_23 (by decide) ?_
      refine lv_goto (tgt := 28) hx hb dX8_takes_24 (by decide) ?_
      exact kJ_5 (true) (by rw [if_neg (ne_of_true c_3), if_neg c_8]) _ _ hX hS ls (lv_sub hl [0, 1, 2, 3] rfl)

theorem kX8_leftAt_22 : (.fieldLink RX8 22 "WindTakenModel" "now" "[I" : Cond) ∈ wsX8_leftAt := by decide +kernel
theorem iX8_leftAt_X8 : ∀ w ∈ wsX80, w ∈ wsX8_leftAt := by decide +kernel
abbrev rmX8_leftAt : Room := { frames := 3, cells := 0, slots := 0, locals := 69 }
set_option maxHeartbeats 4000000 in
set_option maxRecDepth 100000 in
theorem c_X8_leftAt (l : Launch) (G : GG) (B : Nat) (hW : WOK (wM G B)) (x : Mem) {ml : Nat} {q : Nat} (w : Int32) {s : Nat} (h : Int32) {n : Nat} (hN : x 5 0 = nI n) (hn8 : n ≤ 8) (hml9 : ml < 8) (hq : q < 4) (hs : s < 256) : Met l yX8_leftAt wsX8_leftAt rmX8_leftAt (XP G (wM G B) [.ref (B + (0)), .int (nI ml), .int (nI q), .int (w), .int (nI s), .int (h)] x) (va_Qi (fun r u => r = (sLeft (x 5) n ml q w s h) ∧ u = x) (XB G (wM G B)) (blkA B (B + 13))) 0 0 (blkA B (B + 13)) := by
  refine Met.ofW (cc := cX8_leftAt) (maxL := 8) (ret := (some .int)) (by decide) rfl ?_
  intro pp ee ss mm aa bb mt cd s1 Bd hml hv
  obtain ⟨hae, hX, hK, hE⟩ := hv
  have hx := Bd.exec
  have hb := Bd.bytes
  have hr := Bd.returns
  have hts := atoms_spec (ws := wsX8_leftAt) Bd.pre
  have hown : ss.vm.findClass RX8 = some mm.cls := findClass_of_methodNamed Bd.named
  have hlocks := Bd.notSynchronized
  have hS : va_S (blkA B (B + 13)) ss.heap ss.heap [] := va_S.rf
  have hl := lv_entry ([.ref (B + (0)), .int (nI ml), .int (nI q), .int (w), .int (nI s), .int (h)]) (n := 8) (Nat.le_of_ble_eq_true rfl)
  subst hae
  rw [lg_entry_eq]
  generalize (lg_sl ([.ref (B + (0)), .int (nI ml), .int (nI q), .int (w), .int (nI s), .int (h)]) ++ List.replicate (8 - (lg_sl ([.ref (B + (0)), .int (nI ml), .int (nI q), .int (w), .int (nI s), .int (h)])).length) Slot.unset).toArray = ls at hl ⊢
  have hl : lv_has ls 8 [(0, .ref (B + (0))), (1, .int (nI ml)), (2, .int (nI q)), (3, .int (w)), (4, .int (nI s)), (5, .int (h))] := hl
  generalize ([.ref (B + (0)), .int (nI ml), .int (nI q), .int (w), .int (nI s), .int (h)] : List Value).toArray = aa at hts ⊢
  show W pp l ee rmX8_leftAt ss mm aa bb mt cd ss.heap [] 0 0 _ (F0 mm 0 ls [])
  generalize hQ : MQ bb (va_Qi (fun r u => r = (sLeft (x 5) n ml q w s h) ∧ u = x) (XB G (wM G B)) (blkA B (B + 13))) aa ss 0 0 (blkA B (B + 13)) = Q
  refine lv_iload_n hx hb dX8_leftAt_0 rfl (lv_at hl 3 rfl) ?_
  refine lv_istore (lv' := [(6, .int (w)), (0, .ref (B + (0))), (1, .int (nI ml)), (2, .int (nI q)), (3, .int (w)), (4, .int (nI s)), (5, .int (h))]) hx hb dX8_leftAt_1 hl (by decide) rfl (fun ls hl => ?_)
  refine lv_iconst (v := 0) hx hb dX8_leftAt_3 (by decide) ?_
  refine lv_istore (lv' := [(7, .int (0)), (6, .int (w)), (0, .ref (B + (0))), (1, .int (nI ml)), (2, .int (nI q)), (3, .int (w)), (4, .int (nI s)), (5, .int (h))]) hx hb dX8_leftAt_4 hl (by decide) rfl (fun ls hl => ?_)
  have L_1 : ∀ (n9 : Nat) (i : Nat) (lf : Int32)  (_ : n9 = n - i) (_ : i ≤ n ∧ lf = lIt (x 5 2) w (cntN (fun o => sBehind (x 5) ml o q h && sTakes (x 5) o q s) i)) (H_2 : Heap) (lo_3 : List Loc) (_ : MR G (wM G B) x H_2) (_ : va_S (blkA B (B + 13)) ss.heap H_2 lo_3) (ls : Array Slot) (_ : lv_has ls 8 [(7, .int (nI i)), (6, .int (lf)), (0, .ref (B + (0))), (1, .int (nI ml)), (2, .int (nI q)), (3, .int (w)), (4, .int (nI s)), (5, .int (h))]), W pp l ee rmX8_leftAt ss mm aa bb mt cd H_2 lo_3 0 0 Q (F0 mm 6 ls []) := by
    intro n9
    induction n9 using Nat.strongRecOn with
    | _ n9 ih => 
      have ih_6 := ih
      intro i lf hn9 hI H_2 lo_3 hX hS ls hl
      obtain ⟨hi, hlf⟩ := hI
      refine lv_iload hx hb dX8_leftAt_6 (lv_at hl 0 rfl) ?_
      refine lv_aload_n hx hb dX8_leftAt_8 rfl (lv_at hl 2 rfl) ?_
      refine x_get (w := (wM G B)) (a := 0) (v := .ref (B + (5))) hx hb hts iX8_leftAt_X8 hown hK hX (Nat.le_of_ble_eq_true rfl) (shM_0 (G := G) (B := B)) rfl 7 (by decide) (hts _ kX8_leftAt_22) (fun _ h9 => h9) rfl dX8_leftAt_9 ?_
      refine lv_iconst (v := 0) hx hb dX8_leftAt_12 (by decide) ?_
      refine x_iald (w := (wM G B)) (a := 5) (n := 93) (j := 0) hx hb hK hX (Nat.le_of_ble_eq_true rfl) (shM_a (G := G) (B := B) (a := 5) (f := x (5)) (by decide)) rfl (by decide) (by decide) dX8_leftAt_13 ?_
      refine lv_icmp_ge (tgt := 69) hx hb dX8_leftAt_14 (by decide) (fun c_4 => ?_) (fun c_4 => ?_)
      · have nc_4 := (n_le (a := n) (b := i) hN rfl (by omega) (by omega)).mp c_4
        refine lv_iload hx hb dX8_leftAt_69 (lv_at hl 1 rfl) ?_
        rw [← hQ]
        refine x_iret (v := lf) hx hb hr hX hS hlocks dX8_leftAt_71 ?_
        have e9 : i = n := by omega
        exact ⟨by rw [hlf, e9]; rfl, rfl⟩
      · have nc_4 := Nat.not_le.mp (fun q => c_4 ((n_le (a := n) (b := i) hN rfl (by omega) (by omega)).mpr q))
        refine lv_iload hx hb dX8_leftAt_17 (lv_at hl 1 rfl) ?_
        refine lv_aload_n hx hb dX8_leftAt_19 rfl (lv_at hl 2 rfl) ?_
        refine lv_iload_n hx hb dX8_leftAt_20 rfl (lv_at hl 3 rfl) ?_
        refine lv_iload hx hb dX8_leftAt_21 (lv_at hl 0 rfl) ?_
        refine lv_iload_n hx hb dX8_leftAt_23 rfl (lv_at hl 4 rfl) ?_
        refine lv_iload hx hb dX8_leftAt_24 (lv_at hl 7 rfl) ?_
        refine x_ip (w := (wM G B)) (x := x) (v := bI (sBehind (x 5) ml i q h)) (va_runV (As := [.int (nI ml), .int (nI i), .int (nI q), .int (h)]) (rest := [.int (lf)]) ⟨hx, hb, hml, hown, hts⟩ (c_X8_isBehind (l := l) (G := G) (B := B) (hW := hW) (x := x) (ml := ml) (o := i) (q := q) (h := h) (hml9 := (by omega)) (ho9 := (by omega)) (hq := (by omega))) (cwV 4 hts gX8_leftAt_X8_isBehind rfl rfl rfl (by decide +kernel) ⟨Nat.le_of_ble_eq_true rfl, Nat.le_of_ble_eq_true rfl⟩) (x_pv (w := (wM G B)) (a := 0) hW hX hK hE hS [.int (nI ml), .int (nI i), .int (nI q), .int (h)] (Nat.le_of_ble_eq_true rfl) (shM_0 (G := G) (B := B)) rfl) rfl rfl hl.1 rfl (lv_room (Nat.le_of_ble_eq_true rfl)) dX8_leftAt_26 ⟨Nat.zero_le _, Nat.zero_le _⟩) hS (fun H_5 lo_6 hX hS => ?_)
        have kJ_9 : ∀ (v_8 : Int32) (_ : v_8 = (if (sBehind (x 5) ml i q h) = false then (0 : Int32) else (if (sTakes (x 5) i q s) = false then (0 : Int32) else (((x (5) 2) * lf) / 100)))) (H_10 : Heap) (lo_11 : List Loc) (_ : MR G (wM G B) x H_10) (_ : va_S (blkA B (B + 13)) ss.heap H_10 lo_11) (ls : Array Slot) (_ : lv_has ls 8 [(7, .int (nI i)), (6, .int (lf)), (0, .ref (B + (0))), (1, .int (nI ml)), (2, .int (nI q)), (3, .int (w)), (4, .int (nI s)), (5, .int (h))]), W pp l ee rmX8_leftAt ss mm aa bb mt cd H_10 lo_11 0 0 Q (F0 mm 60 ls [.int (v_8), .int (lf)]) := by
          intro v_8 ev_8 H_10 lo_11 hX hS ls hl
          refine lv_isub hx hb dX8_leftAt_60 ?_
          refine lv_istore (lv' := [(6, .int (lf - v_8)), (7, .int (nI i)), (0, .ref (B + (0))), (1, .int (nI ml)), (2, .int (nI q)), (3, .int (w)), (4, .int (nI s)), (5, .int (h))]) hx hb dX8_leftAt_61 hl (by decide) rfl (fun ls hl => ?_)
          refine lv_iinc (v := nI (i + 1)) (lv' := [(7, .int (nI (i + 1))), (6, .int (lf - v_8)), (0, .ref (B + (0))), (1, .int (nI ml)), (2, .int (nI q)), (3, .int (w)), (4, .int (nI s)), (5, .int (h))]) hx hb dX8_leftAt_63 hl (k := 1) rfl (inc_nI _) (by decide) rfl (fun ls hl => ?_)
          refine lv_goto (tgt := 6) hx hb dX8_leftAt_66 (by decide) ?_
          exact ih_6 _ (by omega) (i + 1) (lf - v_8) rfl ⟨by omega, by rw [ev_8, hlf, cntN]; exact lft_step⟩ _ _ hX hS ls (lv_sub hl [0, 1, 2, 3, 4, 5, 6, 7] rfl)
        refine x_ifeq (tgt := 59) hx hb dX8_leftAt_29 (by decide) (fun c_7 => ?_) (fun c_7 => ?_)
        · refine lv_iconst (v := 0) hx hb dX8_leftAt_59 (by decide) ?_
          exact kJ_9 (0) (by rw [if_pos c_7]) _ _ hX hS ls (lv_sub hl [0, 1, 2, 3, 4, 5, 6, 7] rfl)
        · refine lv_aload_n hx hb dX8_leftAt_32 rfl (lv_at hl 2 rfl) ?_
          refine lv_iload hx hb dX8_leftAt_33 (lv_at hl 0 rfl) ?_
          refine lv_iload_n hx hb dX8_leftAt_35 rfl (lv_at hl 4 rfl) ?_
          refine lv_iload hx hb dX8_leftAt_36 (lv_at hl 6 rfl) ?_
          refine x_ip (w := (wM G B)) (x := x) (v := bI (sTakes (x 5) i q s)) (va_runV (As := [.int (nI i), .int (nI q), .int (nI s)]) (rest := [.int (lf)]) ⟨hx, hb, hml, hown, hts⟩ (c_X8_takes (l := l) (G := G) (B := B) (hW := hW) (x := x) (ml := i) (q := q) (s := s) (hml9 := (by omega)) (hq := (by omega)) (hs := (by omega))) (cwV 3 hts gX8_leftAt_X8_takes rfl rfl rfl (by decide +kernel) ⟨Nat.le_of_ble_eq_true rfl, Nat.le_of_ble_eq_true rfl⟩) (x_pv (w := (wM G B)) (a := 0) hW hX hK hE hS [.int (nI i), .int (nI q), .int (nI s)] (Nat.le_of_ble_eq_true rfl) (shM_0 (G := G) (B := B)) rfl) rfl rfl hl.1 rfl (lv_room (Nat.le_of_ble_eq_true rfl)) dX8_leftAt_38 ⟨Nat.zero_le _, Nat.zero_le _⟩) hS (fun H_12 lo_13 hX hS => ?_)
          refine x_ifeq (tgt := 59) hx hb dX8_leftAt_41 (by decide) (fun c_14 => ?_) (fun c_14 => ?_)
          · refine lv_iconst (v := 0) hx hb dX8_leftAt_59 (by decide) ?_
            exact kJ_9 (0) (by rw [if_neg (ne_of_true c_7), if_pos c_14]) _ _ hX hS ls (lv_sub hl [0, 1, 2, 3, 4, 5, 6, 7] rfl)
          · refine lv_aload_n hx hb dX8_leftAt_44 rfl (lv_at hl 2 rfl) ?_
            refine x_get (w := (wM G B)) (a := 0) (v := .ref (B + (5))) hx hb hts iX8_leftAt_X8 hown hK hX (Nat.le_of_ble_eq_true rfl) (shM_0 (G := G) (B := B)) rfl 7 (by decide) (hts _ kX8_leftAt_22) (fun _ h9 => h9) rfl dX8_leftAt_45 ?_
            refine lv_iconst (v := 2) hx hb dX8_leftAt_48 (by decide) ?_
            refine x_iald (w := (wM G B)) (a := 5) (n := 93) (j := 2) hx hb hK hX (Nat.le_of_ble_eq_true rfl) (shM_a (G := G) (B := B) (a := 5) (f := x (5)) (by decide)) rfl (by decide) (by decide) dX8_leftAt_49 ?_
            refine lv_iload hx hb dX8_leftAt_50 (lv_at hl 1 rfl) ?_
            refine lv_imul hx hb dX8_leftAt_52 ?_
            refine lv_bipush (v := 100) hx hb dX8_leftAt_53 (by decide) ?_
            refine lv_idiv hx hb dX8_leftAt_55 (by decide) ?_
            refine lv_goto (tgt := 60) hx hb dX8_leftAt_56 (by decide) ?_
            exact kJ_9 (((x (5) 2) * lf) / 100) (by rw [if_neg (ne_of_true c_7), if_neg (ne_of_true c_14)]) _ _ hX hS ls (lv_sub hl [0, 1, 2, 3, 4, 5, 6, 7] rfl)
  exact L_1 _ (0) (w) rfl ⟨Nat.zero_le _, rfl⟩ _ _ hX hS ls (lv_sub hl [0, 1, 2, 3, 4, 5, 6, 7] rfl)

theorem kX8_grindsFree_22 : (.fieldLink RX8 22 "WindTakenModel" "now" "[I" : Cond) ∈ wsX8_grindsFree := by decide +kernel
theorem iX8_grindsFree_X8 : ∀ w ∈ wsX80, w ∈ wsX8_grindsFree := by decide +kernel
abbrev rmX8_grindsFree : Room := { frames := 4, cells := 0, slots := 0, locals := 96 }
set_option maxHeartbeats 4000000 in
set_option maxRecDepth 100000 in
theorem c_X8_grindsFree (l : Launch) (G : GG) (B : Nat) (hW : WOK (wM G B)) (x : Mem) {ml : Nat} {q : Nat} (w : Int32) {s : Nat} (h : Int32) {n : Nat} (hN : x 5 0 = nI n) (hn8 : n ≤ 8) (hml9 : ml < 8) (hq : q < 4) (hs : s < 256) : Met l yX8_grindsFree wsX8_grindsFree rmX8_grindsFree (XP G (wM G B) [.ref (B + (0)), .int (nI ml), .int (nI q), .int (w), .int (nI s), .int (h)] x) (va_Qi (fun r u => r = (sFree (x 5) n ml q w s h) ∧ u = x) (XB G (wM G B)) (blkA B (B + 13))) 0 0 (blkA B (B + 13)) := by
  refine Met.ofW (cc := cX8_grindsFree) (maxL := 7) (ret := (some .int)) (by decide) rfl ?_
  intro pp ee ss mm aa bb mt cd s1 Bd hml hv
  obtain ⟨hae, hX, hK, hE⟩ := hv
  have hx := Bd.exec
  have hb := Bd.bytes
  have hr := Bd.returns
  have hts := atoms_spec (ws := wsX8_grindsFree) Bd.pre
  have hown : ss.vm.findClass RX8 = some mm.cls := findClass_of_methodNamed Bd.named
  have hlocks := Bd.notSynchronized
  have hS : va_S (blkA B (B + 13)) ss.heap ss.heap [] := va_S.rf
  have hl := lv_entry ([.ref (B + (0)), .int (nI ml), .int (nI q), .int (w), .int (nI s), .int (h)]) (n := 7) (Nat.le_of_ble_eq_true rfl)
  subst hae
  rw [lg_entry_eq]
  generalize (lg_sl ([.ref (B + (0)), .int (nI ml), .int (nI q), .int (w), .int (nI s), .int (h)]) ++ List.replicate (7 - (lg_sl ([.ref (B + (0)), .int (nI ml), .int (nI q), .int (w), .int (nI s), .int (h)])).length) Slot.unset).toArray = ls at hl ⊢
  have hl : lv_has ls 7 [(0, .ref (B + (0))), (1, .int (nI ml)), (2, .int (nI q)), (3, .int (w)), (4, .int (nI s)), (5, .int (h))] := hl
  generalize ([.ref (B + (0)), .int (nI ml), .int (nI q), .int (w), .int (nI s), .int (h)] : List Value).toArray = aa at hts ⊢
  show W pp l ee rmX8_grindsFree ss mm aa bb mt cd ss.heap [] 0 0 _ (F0 mm 0 ls [])
  generalize hQ : MQ bb (va_Qi (fun r u => r = (sFree (x 5) n ml q w s h) ∧ u = x) (XB G (wM G B)) (blkA B (B + 13))) aa ss 0 0 (blkA B (B + 13)) = Q
  refine lv_aload_n hx hb dX8_grindsFree_0 rfl (lv_at hl 0 rfl) ?_
  refine lv_iload_n hx hb dX8_grindsFree_1 rfl (lv_at hl 1 rfl) ?_
  refine lv_iload_n hx hb dX8_grindsFree_2 rfl (lv_at hl 2 rfl) ?_
  refine lv_iload hx hb dX8_grindsFree_3 (lv_at hl 4 rfl) ?_
  refine x_ip (w := (wM G B)) (x := x) (v := bI (sTurns (x 5) ml q s)) (va_runV (As := [.int (nI ml), .int (nI q), .int (nI s)]) (rest := []) ⟨hx, hb, hml, hown, hts⟩ (c_X8_turns (l := l) (G := G) (B := B) (hW := hW) (x := x) (ml := ml) (q := q) (s := s) (hml9 := (by omega)) (hq := (by omega)) (hs := (by omega))) (cwV 3 hts gX8_grindsFree_X8_turns rfl rfl rfl (by decide +kernel) ⟨Nat.le_of_ble_eq_true rfl, Nat.le_of_ble_eq_true rfl⟩) (x_pv (w := (wM G B)) (a := 0) hW hX hK hE hS [.int (nI ml), .int (nI q), .int (nI s)] (Nat.le_of_ble_eq_true rfl) (shM_0 (G := G) (B := B)) rfl) rfl rfl hl.1 rfl (lv_room (Nat.le_of_ble_eq_true rfl)) dX8_grindsFree_5 ⟨Nat.zero_le _, Nat.zero_le _⟩) hS (fun H_1 lo_2 hX hS => ?_)
  refine x_ifne (tgt := 13) hx hb dX8_grindsFree_8 (by decide) (fun c_3 => ?_) (fun c_3 => ?_)
  · refine lv_aload_n hx hb dX8_grindsFree_13 rfl (lv_at hl 0 rfl) ?_
    refine lv_iload_n hx hb dX8_grindsFree_14 rfl (lv_at hl 1 rfl) ?_
    refine lv_iconst (v := 1) hx hb dX8_grindsFree_15 (by decide) ?_
    refine x_ip (w := (wM G B)) (x := x) (v := sF (x 5) ml 1) (va_runV (As := [.int (nI ml), .int (1)]) (rest := []) ⟨hx, hb, hml, hown, hts⟩ (c_X8_of (l := l) (G := G) (B := B) (hW := hW) (x := x) (ml := ml) (k := 1) (hml9 := (by omega)) (hk10 := (by omega))) (cwV 2 hts gX8_grindsFree_X8_of rfl rfl rfl (by decide +kernel) ⟨Nat.le_of_ble_eq_true rfl, Nat.le_of_ble_eq_true rfl⟩) (x_pv (w := (wM G B)) (a := 0) hW hX hK hE hS [.int (nI ml), .int (1)] (Nat.le_of_ble_eq_true rfl) (shM_0 (G := G) (B := B)) rfl) rfl rfl hl.1 rfl (lv_room (Nat.le_of_ble_eq_true rfl)) dX8_grindsFree_16 ⟨Nat.zero_le _, Nat.zero_le _⟩) hS (fun H_4 lo_5 hX hS => ?_)
    refine lv_istore (lv' := [(6, .int (sF (x 5) ml 1)), (0, .ref (B + (0))), (1, .int (nI ml)), (2, .int (nI q)), (3, .int (w)), (4, .int (nI s)), (5, .int (h))]) hx hb dX8_grindsFree_19 hl (by decide) rfl (fun ls hl => ?_)
    refine lv_aload_n hx hb dX8_grindsFree_21 rfl (lv_at hl 1 rfl) ?_
    refine x_get (w := (wM G B)) (a := 0) (v := .ref (B + (5))) hx hb hts iX8_grindsFree_X8 hown hK hX (Nat.le_of_ble_eq_true rfl) (shM_0 (G := G) (B := B)) rfl 7 (by decide) (hts _ kX8_grindsFree_22) (fun _ h9 => h9) rfl dX8_grindsFree_22 ?_
    refine lv_bipush (v := 85) hx hb dX8_grindsFree_25 (by decide) ?_
    refine lv_iload_n hx hb dX8_grindsFree_27 rfl (lv_at hl 2 rfl) ?_
    refine lv_iadd hx hb dX8_grindsFree_28 ?_
    refine x_iald (w := (wM G B)) (a := 5) (n := 93) (j := 85 + ml) hx hb hK hX (Nat.le_of_ble_eq_true rfl) (shM_a (G := G) (B := B) (a := 5) (f := x (5)) (by decide)) (n_add rfl rfl) (by omega) (by decide) dX8_grindsFree_29 ?_
    refine lv_iconst (v := 4) hx hb dX8_grindsFree_30 (by decide) ?_
    have kJ_8 : ∀ (v_7 : Int32) (_ : v_7 = (if (x (5) (85 + ml)) = 4 then (5 * (sF (x 5) ml 1)) else (if (x (5) (85 + ml)) = 3 then (((sLeft (x 5) n ml q w s h) * (sF (x 5) ml 1)) / 20) else (((sLeft (x 5) n ml q w s h) * (sF (x 5) ml 1)) / 10)))) (H_9 : Heap) (lo_10 : List Loc) (_ : MR G (wM G B) x H_9) (_ : va_S (blkA B (B + 13)) ss.heap H_9 lo_10) (ls : Array Slot) (_ : lv_has ls 7 [(6, .int (sF (x 5) ml 1)), (0, .ref (B + (0))), (1, .int (nI ml)), (2, .int (nI q)), (3, .int (w)), (4, .int (nI s)), (5, .int (h))]), W pp l ee rmX8_grindsFree ss mm aa bb mt cd H_9 lo_10 0 0 Q (F0 mm 76 ls [.int (v_7)]) := by
      intro v_7 ev_7 H_9 lo_10 hX hS ls hl
      rw [← hQ]
      refine x_iret (v := v_7) hx hb hr hX hS hlocks dX8_grindsFree_76 ?_
      exact ⟨fre_yes c_3 ev_7, rfl⟩
    refine lv_icmp_ne (tgt := 41) hx hb dX8_grindsFree_31 (by decide) (fun c_6 => ?_) (fun c_6 => ?_)
    · refine lv_aload_n hx hb dX8_grindsFree_41 rfl (lv_at hl 1 rfl) ?_
      refine lv_iload_n hx hb dX8_grindsFree_42 rfl (lv_at hl 2 rfl) ?_
      refine lv_iload_n hx hb dX8_grindsFree_43 rfl (lv_at hl 3 rfl) ?_
      refine lv_iload_n hx hb dX8_grindsFree_44 rfl (lv_at hl 4 rfl) ?_
      refine lv_iload hx hb dX8_grindsFree_45 (lv_at hl 5 rfl) ?_
      refine lv_iload hx hb dX8_grindsFree_47 (lv_at hl 6 rfl) ?_
      refine x_ip (w := (wM G B)) (x := x) (v := sLeft (x 5) n ml q w s h) (va_runV (As := [.int (nI ml), .int (nI q), .int (w), .int (nI s), .int (h)]) (rest := []) ⟨hx, hb, hml, hown, hts⟩ (c_X8_leftAt (l := l) (G := G) (B := B) (hW := hW) (x := x) (ml := ml) (q := q) (w := w) (s := s) (h := h) (n := n) (hN := hN) (hn8 := hn8) (hml9 := (by omega)) (hq := (by omega)) (hs := (by omega))) (cwV 5 hts gX8_grindsFree_X8_leftAt rfl rfl rfl (by decide +kernel) ⟨Nat.le_of_ble_eq_true rfl, Nat.le_of_ble_eq_true rfl⟩) (x_pv (w := (wM G B)) (a := 0) hW hX hK hE hS [.int (nI ml), .int (nI q), .int (w), .int (nI s), .int (h)] (Nat.le_of_ble_eq_true rfl) (shM_0 (G := G) (B := B)) rfl) rfl rfl hl.1 rfl (lv_room (Nat.le_of_ble_eq_true rfl)) dX8_grindsFree_49 ⟨Nat.zero_le _, Nat.zero_le _⟩) hS (fun H_11 lo_12 hX hS => ?_)
      refine lv_iload hx hb dX8_grindsFree_52 (lv_at hl 0 rfl) ?_
      refine lv_imul hx hb dX8_grindsFree_54 ?_
      refine lv_aload_n hx hb dX8_grindsFree_55 rfl (lv_at hl 1 rfl) ?_
      refine x_get (w := (wM G B)) (a := 0) (v := .ref (B + (5))) hx hb hts iX8_grindsFree_X8 hown hK hX (Nat.le_of_ble_eq_true rfl) (shM_0 (G := G) (B := B)) rfl 7 (by decide) (hts _ kX8_grindsFree_22) (fun _ h9 => h9) rfl dX8_grindsFree_56 ?_
      refine lv_bipush (v := 85) hx hb dX8_grindsFree_59 (by decide) ?_
      refine lv_iload_n hx hb dX8_grindsFree_61 rfl (lv_at hl 2 rfl) ?_
      refine lv_iadd hx hb dX8_grindsFree_62 ?_
      refine x_iald (w := (wM G B)) (a := 5) (n := 93) (j := 85 + ml) hx hb hK hX (Nat.le_of_ble_eq_true rfl) (shM_a (G := G) (B := B) (a := 5) (f := x (5)) (by decide)) (n_add rfl rfl) (by omega) (by decide) dX8_grindsFree_63 ?_
      refine lv_iconst (v := 3) hx hb dX8_grindsFree_64 (by decide) ?_
      refine lv_icmp_ne (tgt := 73) hx hb dX8_grindsFree_65 (by decide) (fun c_13 => ?_) (fun c_13 => ?_)
      · refine lv_bipush (v := 10) hx hb dX8_grindsFree_73 (by decide) ?_
        refine lv_idiv hx hb dX8_grindsFree_75 (by decide) ?_
        exact kJ_8 (((sLeft (x 5) n ml q w s h) * (sF (x 5) ml 1)) / 10) (by rw [if_neg c_6, if_neg c_13]) _ _ hX hS ls (lv_sub hl [0, 1, 2, 3, 4, 5, 6] rfl)
      · refine lv_bipush (v := 20) hx hb dX8_grindsFree_68 (by decide) ?_
        refine lv_goto (tgt := 75) hx hb dX8_grindsFree_70 (by decide) ?_
        refine lv_idiv hx hb dX8_grindsFree_75 (by decide) ?_
        exact kJ_8 (((sLeft (x 5) n ml q w s h) * (sF (x 5) ml 1)) / 20) (by rw [if_neg c_6, if_pos c_13]) _ _ hX hS ls (lv_sub hl [0, 1, 2, 3, 4, 5, 6] rfl)
    · refine lv_iconst (v := 5) hx hb dX8_grindsFree_34 (by decide) ?_
      refine lv_iload hx hb dX8_grindsFree_35 (lv_at hl 0 rfl) ?_
      refine lv_imul hx hb dX8_grindsFree_37 ?_
      refine lv_goto (tgt := 76) hx hb dX8_grindsFree_38 (by decide) ?_
      exact kJ_8 (5 * (sF (x 5) ml 1)) (by rw [if_pos c_6]) _ _ hX hS ls (lv_sub hl [0, 1, 2, 3, 4, 5, 6] rfl)
  · refine lv_iconst (v := 0) hx hb dX8_grindsFree_11 (by decide) ?_
    rw [← hQ]
    refine x_iret (v := 0) hx hb hr hX hS hlocks dX8_grindsFree_12 ?_
    exact ⟨(fre_no c_3).symm, rfl⟩

abbrev rmX8_grinds : Room := { frames := 5, cells := 0, slots := 0, locals := 122 }
set_option maxHeartbeats 4000000 in
set_option maxRecDepth 100000 in
theorem c_X8_grinds (l : Launch) (G : GG) (B : Nat) (hW : WOK (wM G B)) (x : Mem) {ml : Nat} {q : Nat} (w : Int32) {s : Nat} (h : Int32) {n : Nat} (hN : x 5 0 = nI n) (hn8 : n ≤ 8) (hml9 : ml < 8) (hq : q < 4) (hs : s < 256) : Met l yX8_grinds wsX8_grinds rmX8_grinds (XP G (wM G B) [.ref (B + (0)), .int (nI ml), .int (nI q), .int (w), .int (nI s), .int (h)] x) (va_Qi (fun r u => r = (sGr (x 5) n ml q w s h) ∧ u = x) (XB G (wM G B)) (blkA B (B + 13))) 0 0 (blkA B (B + 13)) := by
  refine Met.ofW (cc := cX8_grinds) (maxL := 7) (ret := (some .int)) (by decide) rfl ?_
  intro pp ee ss mm aa bb mt cd s1 Bd hml hv
  obtain ⟨hae, hX, hK, hE⟩ := hv
  have hx := Bd.exec
  have hb := Bd.bytes
  have hr := Bd.returns
  have hts := atoms_spec (ws := wsX8_grinds) Bd.pre
  have hown : ss.vm.findClass RX8 = some mm.cls := findClass_of_methodNamed Bd.named
  have hlocks := Bd.notSynchronized
  have hS : va_S (blkA B (B + 13)) ss.heap ss.heap [] := va_S.rf
  have hl := lv_entry ([.ref (B + (0)), .int (nI ml), .int (nI q), .int (w), .int (nI s), .int (h)]) (n := 7) (Nat.le_of_ble_eq_true rfl)
  subst hae
  rw [lg_entry_eq]
  generalize (lg_sl ([.ref (B + (0)), .int (nI ml), .int (nI q), .int (w), .int (nI s), .int (h)]) ++ List.replicate (7 - (lg_sl ([.ref (B + (0)), .int (nI ml), .int (nI q), .int (w), .int (nI s), .int (h)])).length) Slot.unset).toArray = ls at hl ⊢
  have hl : lv_has ls 7 [(0, .ref (B + (0))), (1, .int (nI ml)), (2, .int (nI q)), (3, .int (w)), (4, .int (nI s)), (5, .int (h))] := hl
  generalize ([.ref (B + (0)), .int (nI ml), .int (nI q), .int (w), .int (nI s), .int (h)] : List Value).toArray = aa at hts ⊢
  show W pp l ee rmX8_grinds ss mm aa bb mt cd ss.heap [] 0 0 _ (F0 mm 0 ls [])
  generalize hQ : MQ bb (va_Qi (fun r u => r = (sGr (x 5) n ml q w s h) ∧ u = x) (XB G (wM G B)) (blkA B (B + 13))) aa ss 0 0 (blkA B (B + 13)) = Q
  refine lv_aload_n hx hb dX8_grinds_0 rfl (lv_at hl 0 rfl) ?_
  refine lv_iload_n hx hb dX8_grinds_1 rfl (lv_at hl 1 rfl) ?_
  refine lv_iload_n hx hb dX8_grinds_2 rfl (lv_at hl 2 rfl) ?_
  refine lv_iload_n hx hb dX8_grinds_3 rfl (lv_at hl 3 rfl) ?_
  refine lv_iload hx hb dX8_grinds_4 (lv_at hl 4 rfl) ?_
  refine lv_iload hx hb dX8_grinds_6 (lv_at hl 5 rfl) ?_
  refine x_ip (w := (wM G B)) (x := x) (v := sFree (x 5) n ml q w s h) (va_runV (As := [.int (nI ml), .int (nI q), .int (w), .int (nI s), .int (h)]) (rest := []) ⟨hx, hb, hml, hown, hts⟩ (c_X8_grindsFree (l := l) (G := G) (B := B) (hW := hW) (x := x) (ml := ml) (q := q) (w := w) (s := s) (h := h) (n := n) (hN := hN) (hn8 := hn8) (hml9 := (by omega)) (hq := (by omega)) (hs := (by omega))) (cwV 5 hts gX8_grinds_X8_grindsFree rfl rfl rfl (by decide +kernel) ⟨Nat.le_of_ble_eq_true rfl, Nat.le_of_ble_eq_true rfl⟩) (x_pv (w := (wM G B)) (a := 0) hW hX hK hE hS [.int (nI ml), .int (nI q), .int (w), .int (nI s), .int (h)] (Nat.le_of_ble_eq_true rfl) (shM_0 (G := G) (B := B)) rfl) rfl rfl hl.1 rfl (lv_room (Nat.le_of_ble_eq_true rfl)) dX8_grinds_8 ⟨Nat.zero_le _, Nat.zero_le _⟩) hS (fun H_1 lo_2 hX hS => ?_)
  refine lv_istore (lv' := [(6, .int (sFree (x 5) n ml q w s h)), (0, .ref (B + (0))), (1, .int (nI ml)), (2, .int (nI q)), (3, .int (w)), (4, .int (nI s)), (5, .int (h))]) hx hb dX8_grinds_11 hl (by decide) rfl (fun ls hl => ?_)
  refine lv_iload hx hb dX8_grinds_13 (lv_at hl 0 rfl) ?_
  refine lv_aload_n hx hb dX8_grinds_15 rfl (lv_at hl 1 rfl) ?_
  refine lv_iload_n hx hb dX8_grinds_16 rfl (lv_at hl 2 rfl) ?_
  refine lv_iconst (v := 3) hx hb dX8_grinds_17 (by decide) ?_
  refine x_ip (w := (wM G B)) (x := x) (v := sF (x 5) ml 3) (va_runV (As := [.int (nI ml), .int (3)]) (rest := [.int (sFree (x 5) n ml q w s h)]) ⟨hx, hb, hml, hown, hts⟩ (c_X8_of (l := l) (G := G) (B := B) (hW := hW) (x := x) (ml := ml) (k := 3) (hml9 := (by omega)) (hk10 := (by omega))) (cwV 2 hts gX8_grinds_X8_of rfl rfl rfl (by decide +kernel) ⟨Nat.le_of_ble_eq_true rfl, Nat.le_of_ble_eq_true rfl⟩) (x_pv (w := (wM G B)) (a := 0) hW hX hK hE hS [.int (nI ml), .int (3)] (Nat.le_of_ble_eq_true rfl) (shM_0 (G := G) (B := B)) rfl) rfl rfl hl.1 rfl (lv_room (Nat.le_of_ble_eq_true rfl)) dX8_grinds_18 ⟨Nat.zero_le _, Nat.zero_le _⟩) hS (fun H_3 lo_4 hX hS => ?_)
  have kJ_7 : ∀ (v_6 : Int32) (_ : v_6 = (if (sF (x 5) ml 3) ≤ (sFree (x 5) n ml q w s h) then (sF (x 5) ml 3) else (sFree (x 5) n ml q w s h))) (H_8 : Heap) (lo_9 : List Loc) (_ : MR G (wM G B) x H_8) (_ : va_S (blkA B (B + 13)) ss.heap H_8 lo_9) (ls : Array Slot) (_ : lv_has ls 7 [(6, .int (sFree (x 5) n ml q w s h)), (0, .ref (B + (0))), (1, .int (nI ml)), (2, .int (nI q)), (3, .int (w)), (4, .int (nI s)), (5, .int (h))]), W pp l ee rmX8_grinds ss mm aa bb mt cd H_8 lo_9 0 0 Q (F0 mm 35 ls [.int (v_6)]) := by
    intro v_6 ev_6 H_8 lo_9 hX hS ls hl
    rw [← hQ]
    refine x_iret (v := v_6) hx hb hr hX hS hlocks dX8_grinds_35 ?_
    refine ⟨?_, rfl⟩
    rw [ev_6]
    exact ite_min
  refine lv_icmp_ge (tgt := 29) hx hb dX8_grinds_21 (by decide) (fun c_5 => ?_) (fun c_5 => ?_)
  · refine lv_aload_n hx hb dX8_grinds_29 rfl (lv_at hl 1 rfl) ?_
    refine lv_iload_n hx hb dX8_grinds_30 rfl (lv_at hl 2 rfl) ?_
    refine lv_iconst (v := 3) hx hb dX8_grinds_31 (by decide) ?_
    refine x_ip (w := (wM G B)) (x := x) (v := sF (x 5) ml 3) (va_runV (As := [.int (nI ml), .int (3)]) (rest := []) ⟨hx, hb, hml, hown, hts⟩ (c_X8_of (l := l) (G := G) (B := B) (hW := hW) (x := x) (ml := ml) (k := 3) (hml9 := (by omega)) (hk10 := (by omega))) (cwV 2 hts gX8_grinds_X8_of rfl rfl rfl (by decide +kernel) ⟨Nat.le_of_ble_eq_true rfl, Nat.le_of_ble_eq_true rfl⟩) (x_pv (w := (wM G B)) (a := 0) hW hX hK hE hS [.int (nI ml), .int (3)] (Nat.le_of_ble_eq_true rfl) (shM_0 (G := G) (B := B)) rfl) rfl rfl hl.1 rfl (lv_room (Nat.le_of_ble_eq_true rfl)) dX8_grinds_32 ⟨Nat.zero_le _, Nat.zero_le _⟩) hS (fun H_10 lo_11 hX hS => ?_)
    exact kJ_7 (sF (x 5) ml 3) (by rw [if_pos c_5]) _ _ hX hS ls (lv_sub hl [0, 1, 2, 3, 4, 5, 6] rfl)
  · refine lv_iload hx hb dX8_grinds_24 (lv_at hl 0 rfl) ?_
    refine lv_goto (tgt := 35) hx hb dX8_grinds_26 (by decide) ?_
    exact kJ_7 (sFree (x 5) n ml q w s h) (by rw [if_neg c_5]) _ _ hX hS ls (lv_sub hl [0, 1, 2, 3, 4, 5, 6] rfl)
