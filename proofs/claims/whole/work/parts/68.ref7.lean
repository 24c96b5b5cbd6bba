theorem kX8_isNight_22 : (.fieldLink RX8 22 "WindTakenModel" "now" "[I" : Cond) ∈ wsX8_isNight := by decide +kernel
theorem iX8_isNight_X8 : ∀ w ∈ wsX80, w ∈ wsX8_isNight := by decide +kernel
theorem kX8_isNight_215 : (.constant RX8 215 (-1000000) : Cond) ∈ wsX8_isNight := by decide +kernel
theorem kX8_isNight_16 : (.fieldLink RX8 16 "WindTakenModel" "items" "[I" : Cond) ∈ wsX8_isNight := by decide +kernel
abbrev rmX8_isNight : Room := { frames := 5, cells := 0, slots := 0, locals := 122 }
set_option maxHeartbeats 4000000 in
set_option maxRecDepth 100000 in
theorem c_X8_isNight (l : Launch) (G : GG) (B : Nat) (hW : WOK (wM G B)) (x : Mem) {q : Nat} (w : Int32) (nh : Int32) {ro : Nat} {s : Nat} {n : Nat} (hN : x 5 0 = nI n) (hn8 : n ≤ 8) (hq : q < 4) (hs : s < 256) (hro8 : ro < 8) : Met l yX8_isNight wsX8_isNight rmX8_isNight (XP G (wM G B) [.ref (B + (0)), .int (nI q), .int (w), .int (nh), .int (nI ro), .int (nI s)] x) (va_Qi (fun r u => r = bI (allN (fun j => decide (jmin (nh * sFree (x 5) n j q w s hNo) (sF (x 5) j 3) = x 3 (40 * ro + j))) n) ∧ u = x) (XB G (wM G B)) (blkA B (B + 13))) 0 0 (blkA B (B + 13)) := by
  refine Met.ofW (cc := cX8_isNight) (maxL := 9) (ret := (some .boolean)) (by decide) rfl ?_
  intro pp ee ss mm aa bb mt cd s1 Bd hml hv
  obtain ⟨hae, hX, hK, hE⟩ := hv
  have hx := Bd.exec
  have hb := Bd.bytes
  have hr := Bd.returns
  have hts := atoms_spec (ws := wsX8_isNight) Bd.pre
  have hown : ss.vm.findClass RX8 = some mm.cls := findClass_of_methodNamed Bd.named
  have hlocks := Bd.notSynchronized
  have hS : va_S (blkA B (B + 13)) ss.heap ss.heap [] := va_S.rf
  have hl := lv_entry ([.ref (B + (0)), .int (nI q), .int (w), .int (nh), .int (nI ro), .int (nI s)]) (n := 9) (Nat.le_of_ble_eq_true rfl)
  subst hae
  rw [lg_entry_eq]
  generalize (lg_sl ([.ref (B + (0)), .int (nI q), .int (w), .int (nh), .int (nI ro), .int (nI s)]) ++ List.replicate (9 - (lg_sl ([.ref (B + (0)), .int (nI q), .int (w), .int (nh), .int (nI ro), .int (nI s)])).length) Slot.unset).toArray = ls at hl ⊢
  have hl : lv_has ls 9 [(0, .ref (B + (0))), (1, .int (nI q)), (2, .int (w)), (3, .int (nh)), (4, .int (nI ro)), (5, .int (nI s))] := hl
  generalize ([.ref (B + (0)), .int (nI q), .int (w), .int (nh), .int (nI ro), .int (nI s)] : List Value).toArray = aa at hts ⊢
  show W pp l ee rmX8_isNight ss mm aa bb mt cd ss.heap [] 0 0 _ (F0 mm 0 ls [])
  generalize hQ : MQ bb (va_Qi (fun r u => r = bI (allN (fun j => decide (jmin (nh * sFree (x 5) n j q w s hNo) (sF (x 5) j 3) = x 3 (40 * ro + j))) n) ∧ u = x) (XB G (wM G B)) (blkA B (B + 13))) aa ss 0 0 (blkA B (B + 13)) = Q
  refine lv_iconst (v := 1) hx hb dX8_isNight_0 (by decide) ?_
  refine lv_istore (lv' := [(6, .int (1)), (0, .ref (B + (0))), (1, .int (nI q)), (2, .int (w)), (3, .int (nh)), (4, .int (nI ro)), (5, .int (nI s))]) hx hb dX8_isNight_1 hl (by decide) rfl (fun ls hl => ?_)
  refine lv_iconst (v := 0) hx hb dX8_isNight_3 (by decide) ?_
  refine lv_istore (lv' := [(7, .int (0)), (6, .int (1)), (0, .ref (B + (0))), (1, .int (nI q)), (2, .int (w)), (3, .int (nh)), (4, .int (nI ro)), (5, .int (nI s))]) hx hb dX8_isNight_4 hl (by decide) rfl (fun ls hl => ?_)
  have L_1 : ∀ (n9 : Nat) (i : Nat) (b : Bool)  (_ : n9 = n - i) (_ : i ≤ n ∧ b = allN (fun j => decide (jmin (nh * sFree (x 5) n j q w s hNo) (sF (x 5) j 3) = x 3 (40 * ro + j))) i) (H_2 : Heap) (lo_3 : List Loc) (_ : MR G (wM G B) x H_2) (_ : va_S (blkA B (B + 13)) ss.heap H_2 lo_3) (ls : Array Slot) (_ : lv_has ls 9 [(7, .int (nI i)), (6, .int (bI (b))), (0, .ref (B + (0))), (1, .int (nI q)), (2, .int (w)), (3, .int (nh)), (4, .int (nI ro)), (5, .int (nI s))]), W pp l ee rmX8_isNight ss mm aa bb mt cd H_2 lo_3 0 0 Q (F0 mm 6 ls []) := by
    intro n9
    induction n9 using Nat.strongRecOn with
    | _ n9 ih => 
      have ih_6 := ih
      intro i b hn9 hI H_2 lo_3 hX hS ls hl
      obtain ⟨hi, hb9⟩ := hI
      refine lv_iload hx hb dX8_isNight_6 (lv_at hl 0 rfl) ?_
      refine lv_aload_n hx hb dX8_isNight_8 rfl (lv_at hl 2 rfl) ?_
      refine x_get (w := (wM G B)) (a := 0) (v := .ref (B + (5))) hx hb hts iX8_isNight_X8 hown hK hX (Nat.le_of_ble_eq_true rfl) (shM_0 (G := G) (B := B)) rfl 7 (by decide) (hts _ kX8_isNight_22) (fun _ h9 => h9) rfl dX8_isNight_9 ?_
      refine lv_iconst (v := 0) hx hb dX8_isNight_12 (by decide) ?_
      refine x_iald (w := (wM G B)) (a := 5) (n := 93) (j := 0) hx hb hK hX (Nat.le_of_ble_eq_true rfl) (shM_a (G := G) (B := B) (a := 5) (f := x (5)) (by decide)) rfl (by decide) (by decide) dX8_isNight_13 ?_
      refine lv_icmp_ge (tgt := 91) hx hb dX8_isNight_14 (by decide) (fun c_4 => ?_) (fun c_4 => ?_)
      · have nc_4 := (n_le (a := n) (b := i) hN rfl (by omega) (by omega)).mp c_4
        refine lv_iload hx hb dX8_isNight_91 (lv_at hl 1 rfl) ?_
        rw [← hQ]
        refine x_zret (v := bI (b)) (ty := .boolean) hx hb hr (bI_nar _) hX hS hlocks dX8_isNight_93 ?_
        refine ⟨?_, rfl⟩
        first | (exact congrArg bI (by rw [hb9, show i = n by omega])) | (rw [c_4, allN_no (c_4.symm.trans hb9) n (by omega)])
      · have nc_4 := Nat.not_le.mp (fun q => c_4 ((n_le (a := n) (b := i) hN rfl (by omega) (by omega)).mpr q))
        refine lv_iload hx hb dX8_isNight_17 (lv_at hl 1 rfl) ?_
        refine x_ifeq (tgt := 91) hx hb dX8_isNight_19 (by decide) (fun c_5 => ?_) (fun c_5 => ?_)
        · refine lv_iload hx hb dX8_isNight_91 (lv_at hl 1 rfl) ?_
          rw [← hQ]
          refine x_zret (v := bI (b)) (ty := .boolean) hx hb hr (bI_nar _) hX hS hlocks dX8_isNight_93 ?_
          refine ⟨?_, rfl⟩
          first | (exact congrArg bI (by rw [hb9, show i = n by omega])) | (rw [c_5, allN_no (c_5.symm.trans hb9) n (by omega)])
        · refine lv_iload_n hx hb dX8_isNight_22 rfl (lv_at hl 5 rfl) ?_
          refine lv_aload_n hx hb dX8_isNight_23 rfl (lv_at hl 2 rfl) ?_
          refine lv_iload hx hb dX8_isNight_24 (lv_at hl 0 rfl) ?_
          refine lv_iload_n hx hb dX8_isNight_26 rfl (lv_at hl 3 rfl) ?_
          refine lv_iload_n hx hb dX8_isNight_27 rfl (lv_at hl 4 rfl) ?_
          refine lv_iload hx hb dX8_isNight_28 (lv_at hl 7 rfl) ?_
          refine lv_ldc (v := (-1000000)) hx hb hown (hts _ kX8_isNight_215) dX8_isNight_30 ?_
          refine x_ip (w := (wM G B)) (x := x) (v := sFree (x 5) n i q w s hNo) (va_runV (As := [.int (nI i), .int (nI q), .int (w), .int (nI s), .int ((-1000000))]) (rest := [.int (nh)]) ⟨hx, hb, hml, hown, hts⟩ (c_X8_grindsFree (l := l) (G := G) (B := B) (hW := hW) (x := x) (ml := i) (q := q) (w := w) (s := s) (h := hNo) (n := n) (hN := hN) (hn8 := hn8) (hml9 := (by omega)) (hq := (by omega)) (hs := (by omega))) (cwV 5 hts gX8_isNight_X8_grindsFree rfl rfl rfl (by decide +kernel) ⟨Nat.le_of_ble_eq_true rfl, Nat.le_of_ble_eq_true rfl⟩) (x_pv (w := (wM G B)) (a := 0) hW hX hK hE hS [.int (nI i), .int (nI q), .int (w), .int (nI s), .int ((-1000000))] (Nat.le_of_ble_eq_true rfl) (shM_0 (G := G) (B := B)) rfl) rfl rfl hl.1 rfl (lv_room (Nat.le_of_ble_eq_true rfl)) dX8_isNight_32 ⟨Nat.zero_le _, Nat.zero_le _⟩) hS (fun H_6 lo_7 hX hS => ?_)
          refine lv_imul hx hb dX8_isNight_35 ?_
          refine lv_istore (lv' := [(8, .int (nh * (sFree (x 5) n i q w s hNo))), (7, .int (nI i)), (6, .int (bI (b))), (0, .ref (B + (0))), (1, .int (nI q)), (2, .int (w)), (3, .int (nh)), (4, .int (nI ro)), (5, .int (nI s))]) hx hb dX8_isNight_36 hl (by decide) rfl (fun ls hl => ?_)
          refine lv_iload hx hb dX8_isNight_38 (lv_at hl 0 rfl) ?_
          refine lv_aload_n hx hb dX8_isNight_40 rfl (lv_at hl 3 rfl) ?_
          refine lv_iload hx hb dX8_isNight_41 (lv_at hl 1 rfl) ?_
          refine lv_iconst (v := 3) hx hb dX8_isNight_43 (by decide) ?_
          refine x_ip (w := (wM G B)) (x := x) (v := sF (x 5) i 3) (va_runV (As := [.int (nI i), .int (3)]) (rest := [.int (nh * (sFree (x 5) n i q w s hNo))]) ⟨hx, hb, hml, hown, hts⟩ (c_X8_of (l := l) (G := G) (B := B) (hW := hW) (x := x) (ml := i) (k := 3) (hml9 := (by omega)) (hk10 := (by omega))) (cwV 2 hts gX8_isNight_X8_of rfl rfl rfl (by decide +kernel) ⟨Nat.le_of_ble_eq_true rfl, Nat.le_of_ble_eq_true rfl⟩) (x_pv (w := (wM G B)) (a := 0) hW hX hK hE hS [.int (nI i), .int (3)] (Nat.le_of_ble_eq_true rfl) (shM_0 (G := G) (B := B)) rfl) rfl rfl hl.1 rfl (lv_room (Nat.le_of_ble_eq_true rfl)) dX8_isNight_44 ⟨Nat.zero_le _, Nat.zero_le _⟩) hS (fun H_8 lo_9 hX hS => ?_)
          have kJ_12 : ∀ (v_11 : Int32) (_ : v_11 = (if (sF (x 5) i 3) ≤ (nh * (sFree (x 5) n i q w s hNo)) then (sF (x 5) i 3) else (nh * (sFree (x 5) n i q w s hNo)))) (H_13 : Heap) (lo_14 : List Loc) (_ : MR G (wM G B) x H_13) (_ : va_S (blkA B (B + 13)) ss.heap H_13 lo_14) (ls : Array Slot) (_ : lv_has ls 9 [(8, .int (nh * (sFree (x 5) n i q w s hNo))), (7, .int (nI i)), (6, .int (bI (b))), (0, .ref (B + (0))), (1, .int (nI q)), (2, .int (w)), (3, .int (nh)), (4, .int (nI ro)), (5, .int (nI s))]), W pp l ee rmX8_isNight ss mm aa bb mt cd H_13 lo_14 0 0 Q (F0 mm 62 ls [.int (v_11)]) := by
            intro v_11 ev_11 H_13 lo_14 hX hS ls hl
            refine lv_aload_n hx hb dX8_isNight_62 rfl (lv_at hl 3 rfl) ?_
            refine x_get (w := (wM G B)) (a := 0) (v := .ref (B + (3))) hx hb hts iX8_isNight_X8 hown hK hX (Nat.le_of_ble_eq_true rfl) (shM_0 (G := G) (B := B)) rfl 2 (by decide) (hts _ kX8_isNight_16) (fun _ h9 => h9) rfl dX8_isNight_63 ?_
            refine lv_bipush (v := 40) hx hb dX8_isNight_66 (by decide) ?_
            refine lv_iload hx hb dX8_isNight_68 (lv_at hl 7 rfl) ?_
            refine lv_imul hx hb dX8_isNight_70 ?_
            refine lv_iload hx hb dX8_isNight_71 (lv_at hl 1 rfl) ?_
            refine lv_iadd hx hb dX8_isNight_73 ?_
            refine x_iald (w := (wM G B)) (a := 3) (n := 320) (j := 40 * ro + i) hx hb hK hX (Nat.le_of_ble_eq_true rfl) (shM_a (G := G) (B := B) (a := 3) (f := x (3)) (by decide)) (n_add (n_mul rfl rfl) rfl) (by omega) (by decide) dX8_isNight_74 ?_
            have kJ_17 : ∀ (v_16 : Bool) (_ : v_16 = (if v_11 = (x (3) (40 * ro + i)) then true else false)) (H_18 : Heap) (lo_19 : List Loc) (_ : MR G (wM G B) x H_18) (_ : va_S (blkA B (B + 13)) ss.heap H_18 lo_19) (ls : Array Slot) (_ : lv_has ls 9 [(8, .int (nh * (sFree (x 5) n i q w s hNo))), (7, .int (nI i)), (6, .int (bI (b))), (0, .ref (B + (0))), (1, .int (nI q)), (2, .int (w)), (3, .int (nh)), (4, .int (nI ro)), (5, .int (nI s))]), W pp l ee rmX8_isNight ss mm aa bb mt cd H_18 lo_19 0 0 Q (F0 mm 83 ls [.int (bI (v_16))]) := by
              intro v_16 ev_16 H_18 lo_19 hX hS ls hl
              refine lv_istore (lv' := [(6, .int (bI (v_16))), (8, .int (nh * (sFree (x 5) n i q w s hNo))), (7, .int (nI i)), (0, .ref (B + (0))), (1, .int (nI q)), (2, .int (w)), (3, .int (nh)), (4, .int (nI ro)), (5, .int (nI s))]) hx hb dX8_isNight_83 hl (by decide) rfl (fun ls hl => ?_)
              refine lv_iinc (v := nI (i + 1)) (lv' := [(7, .int (nI (i + 1))), (6, .int (bI (v_16))), (8, .int (nh * (sFree (x 5) n i q w s hNo))), (0, .ref (B + (0))), (1, .int (nI q)), (2, .int (w)), (3, .int (nh)), (4, .int (nI ro)), (5, .int (nI s))]) hx hb dX8_isNight_85 hl (k := 2) rfl (inc_nI _) (by decide) rfl (fun ls hl => ?_)
              refine lv_goto (tgt := 6) hx hb dX8_isNight_88 (by decide) ?_
              exact ih_6 _ (by omega) (i + 1) (v_16) rfl ⟨by omega, by rw [ev_16]; exact allN_st (P := fun j => decide (jmin (nh * sFree (x 5) n j q w s hNo) (sF (x 5) j 3) = x 3 (40 * ro + j))) (congrArg (fun z => decide (z = x 3 (40 * ro + i))) (ev_11.trans ite_min)).symm (c_5.symm.trans hb9)⟩ _ _ hX hS ls (lv_sub hl [0, 1, 3, 4, 5, 6, 7, 8] rfl)
            refine lv_icmp_ne (tgt := 82) hx hb dX8_isNight_75 (by decide) (fun c_15 => ?_) (fun c_15 => ?_)
            · refine lv_iconst (v := 0) hx hb dX8_isNight_82 (by decide) ?_
              exact kJ_17 (false) (by rw [if_neg c_15]) _ _ hX hS ls (lv_sub hl [0, 1, 2, 3, 4, 5, 6, 7, 8] rfl)
            · refine lv_iconst (v := 1) hx hb dX8_isNight_78 (by decide) ?_
              refine lv_goto (tgt := 83) hx hb dX8_isNight_79 (by decide) ?_
              exact kJ_17 (true) (by rw [if_pos c_15]) _ _ hX hS ls (lv_sub hl [0, 1, 2, 3, 4, 5, 6, 7, 8] rfl)
          refine lv_icmp_ge (tgt := 55) hx hb dX8_isNight_47 (by decide) (fun c_10 => ?_) (fun c_10 => ?_)
          · refine lv_aload_n hx hb dX8_isNight_55 rfl (lv_at hl 3 rfl) ?_
            refine lv_iload hx hb dX8_isNight_56 (lv_at hl 1 rfl) ?_
            refine lv_iconst (v := 3) hx hb dX8_isNight_58 (by decide) ?_
            refine x_ip (w := (wM G B)) (x := x) (v := sF (x 5) i 3) (va_runV (As := [.int (nI i), .int (3)]) (rest := []) ⟨hx, hb, hml, hown, hts⟩ (c_X8_of (l := l) (G := G) (B := B) (hW := hW) (x := x) (ml := i) (k := 3) (hml9 := (by omega)) (hk10 := (by omega))) (cwV 2 hts gX8_isNight_X8_of rfl rfl rfl (by decide +kernel) ⟨Nat.le_of_ble_eq_true rfl, Nat.le_of_ble_eq_true rfl⟩) (x_pv (w := (wM G B)) (a := 0) hW hX hK hE hS [.int (nI i), .int (3)] (Nat.le_of_ble_eq_true rfl) (shM_0 (G := G) (B := B)) rfl) rfl rfl hl.1 rfl (lv_room (Nat.le_of_ble_eq_true rfl)) dX8_isNight_59 ⟨Nat.zero_le _, Nat.zero_le _⟩) hS (fun H_20 lo_21 hX hS => ?_)
            exact kJ_12 (sF (x 5) i 3) (by rw [if_pos c_10]) _ _ hX hS ls (lv_sub hl [0, 1, 2, 3, 4, 5, 6, 7, 8] rfl)
          · refine lv_iload hx hb dX8_isNight_50 (lv_at hl 0 rfl) ?_
            refine lv_goto (tgt := 62) hx hb dX8_isNight_52 (by decide) ?_
            exact kJ_12 (nh * (sFree (x 5) n i q w s hNo)) (by rw [if_neg c_10]) _ _ hX hS ls (lv_sub hl [0, 1, 2, 3, 4, 5, 6, 7, 8] rfl)
  exact L_1 _ (0) (true) rfl ⟨Nat.zero_le _, rfl⟩ _ _ hX hS ls (lv_sub hl [0, 1, 2, 3, 4, 5, 6, 7] rfl)

def PT_X8_night (x : Mem) (q : Int32) (w : Int32) (nh : Int32) (a : Int32) (i : Int32) (n : Nat) (r : Int32) (u : Mem) : Prop := (if (decide (x 5 0 = 0)) = false then (if ((decide (0 ≤ q) && decide (q ≤ 3)) && (decide (0 ≤ w) && decide (w ≤ 100))) = false then (r = (-1000001) ∧ u = x) else (if (decide (((1 : Int32)) ≤ ((nh : Int32))) && decide (((nh : Int32)) ≤ ((24 : Int32)))) = false then (r = (-1000001) ∧ u = x) else (if (decide (0 ≤ a) && decide (a ≤ 7)) = false then (r = (-1000001) ∧ u = x) else (if ((-1)) ≤ i then (if (decide (x 1 (tn a) < 0)) = false then (if (x (5) 0) ≤ (x (2) (tn a)) then (r = nightV (nightG (x 5) n (tn q) w nh (fun j => x 3 (40 * tn a + j))) i (2 ^ n) ∧ u = mst x 0 3 0) else (r = -1000010 - 2 ∧ u = mst x 0 3 2)) else (r = -1000010 - 1 ∧ u = mst x 0 3 1)) else (r = (-1000001) ∧ u = x))))) else (r = (-1000002) ∧ u = x))
theorem kX8_night_63 : (.constant RX8 63 (-1000001) : Cond) ∈ wsX8_night := by decide +kernel
theorem kX8_night_228 : (.constantLong RX8 228 (24) : Cond) ∈ wsX8_night := by decide +kernel
theorem kX8_night_13 : (.fieldLink RX8 13 "WindTakenModel" "sizes" "[I" : Cond) ∈ wsX8_night := by decide +kernel
theorem iX8_night_X8 : ∀ w ∈ wsX80, w ∈ wsX8_night := by decide +kernel
theorem kX8_night_22 : (.fieldLink RX8 22 "WindTakenModel" "now" "[I" : Cond) ∈ wsX8_night := by decide +kernel
theorem kX8_night_215 : (.constant RX8 215 (-1000000) : Cond) ∈ wsX8_night := by decide +kernel
theorem kX8_night_185 : (.constant RX8 185 (-1000002) : Cond) ∈ wsX8_night := by decide +kernel
abbrev rmX8_night : Room := { frames := 6, cells := 0, slots := 0, locals := 150 }
set_option maxHeartbeats 4000000 in
set_option maxRecDepth 100000 in
theorem c_X8_night (l : Launch) (G : GG) (B : Nat) (hW : WOK (wM G B)) (x : Mem) (q : Int32) (w : Int32) (nh : Int32) (a : Int32) (i : Int32) {n : Nat} (hN : x 5 0 = nI n) (hn8 : n ≤ 8) (hY : YOK x) : Met l yX8_night wsX8_night rmX8_night (XP G (wM G B) [.ref (B + (0)), .int (q), .int (w), .int (nh), .int (a), .int (i)] x) (va_Qi (fun r u => PT_X8_night x q w nh a i n r u) (XB G (wM G B)) (blkA B (B + 13))) 0 0 (blkA B (B + 13)) := by
  refine Met.ofW (cc := cX8_night) (maxL := 11) (ret := (some .int)) (by decide) rfl ?_
  intro pp ee ss mm aa bb mt cd s1 Bd hml hv
  obtain ⟨hae, hX, hK, hE⟩ := hv
  have hx := Bd.exec
  have hb := Bd.bytes
  have hr := Bd.returns
  have hts := atoms_spec (ws := wsX8_night) Bd.pre
  have hown : ss.vm.findClass RX8 = some mm.cls := findClass_of_methodNamed Bd.named
  have hlocks := Bd.notSynchronized
  have hS : va_S (blkA B (B + 13)) ss.heap ss.heap [] := va_S.rf
  have hl := lv_entry ([.ref (B + (0)), .int (q), .int (w), .int (nh), .int (a), .int (i)]) (n := 11) (Nat.le_of_ble_eq_true rfl)
  subst hae
  rw [lg_entry_eq]
  generalize (lg_sl ([.ref (B + (0)), .int (q), .int (w), .int (nh), .int (a), .int (i)]) ++ List.replicate (11 - (lg_sl ([.ref (B + (0)), .int (q), .int (w), .int (nh), .int (a), .int (i)])).length) Slot.unset).toArray = ls at hl ⊢
  have hl : lv_has ls 11 [(0, .ref (B + (0))), (1, .int (q)), (2, .int (w)), (3, .int (nh)), (4, .int (a)), (5, .int (i))] := hl
  generalize ([.ref (B + (0)), .int (q), .int (w), .int (nh), .int (a), .int (i)] : List Value).toArray = aa at hts ⊢
  show W pp l ee rmX8_night ss mm aa bb mt cd ss.heap [] 0 0 _ (F0 mm 0 ls [])
  generalize hQ : MQ bb (va_Qi (fun r u => PT_X8_night x q w nh a i n r u) (XB G (wM G B)) (blkA B (B + 13))) aa ss 0 0 (blkA B (B + 13)) = Q
  refine lv_aload_n hx hb dX8_night_0 rfl (lv_at hl 0 rfl) ?_
  refine x_ip (w := (wM G B)) (x := x) (v := bI (decide (x 5 0 = 0))) (va_runV (As := []) (rest := []) ⟨hx, hb, hml, hown, hts⟩ (c_X8_isNoRidge (l := l) (G := G) (B := B) (hW := hW) (x := x) ) (cwV 0 hts gX8_night_X8_isNoRidge rfl rfl rfl (by decide +kernel) ⟨Nat.le_of_ble_eq_true rfl, Nat.le_of_ble_eq_true rfl⟩) (x_pv (w := (wM G B)) (a := 0) hW hX hK hE hS [] (Nat.le_of_ble_eq_true rfl) (shM_0 (G := G) (B := B)) rfl) rfl rfl hl.1 rfl (lv_room (Nat.le_of_ble_eq_true rfl)) dX8_night_1 ⟨Nat.zero_le _, Nat.zero_le _⟩) hS (fun H_1 lo_2 hX hS => ?_)
  refine x_ifeq (tgt := 10) hx hb dX8_night_4 (by decide) (fun c_3 => ?_) (fun c_3 => ?_)
  · refine lv_iload_n hx hb dX8_night_10 rfl (lv_at hl 1 rfl) ?_
    refine lv_iload_n hx hb dX8_night_11 rfl (lv_at hl 2 rfl) ?_
    refine x_ip (w := (wM G B)) (x := x) (v := bI ((decide (0 ≤ q) && decide (q ≤ 3)) && (decide (0 ≤ w) && decide (w ≤ 100)))) (va_runS (As := [.int (q), .int (w)]) (rest := []) ⟨hx, hb, hml, hown, hts⟩ (c_X8_isWind (l := l) (G := G) (B := B) (hW := hW) (x := x) (q := q) (v := w)) (va_cwS 2 hts gX8_night_X8_isWind rfl rfl rfl (by decide +kernel) ⟨Nat.le_of_ble_eq_true rfl, Nat.le_of_ble_eq_true rfl⟩) (x_ps (w := (wM G B)) hW hX hK hE hS [.int (q), .int (w)]) rfl rfl hl.1 rfl (lv_room (Nat.le_of_ble_eq_true rfl)) dX8_night_12 ⟨Nat.zero_le _, Nat.zero_le _⟩) hS (fun H_4 lo_5 hX hS => ?_)
    refine x_ifeq (tgt := 44) hx hb dX8_night_15 (by decide) (fun c_6 => ?_) (fun c_6 => ?_)
    · refine lv_ldc (v := (-1000001)) hx hb hown (hts _ kX8_night_63) dX8_night_44 ?_
      rw [← hQ]
      refine x_iret (v := (-1000001)) hx hb hr hX hS hlocks dX8_night_46 ?_
      show PT_X8_night _ _ _ _ _ _ _ _ _
      unfold PT_X8_night
      rw [if_pos c_3, if_pos c_6]
      exact ⟨rfl, rfl⟩
    · obtain ⟨hqe, hq4⟩ := windQ c_6
      refine lv_iload_n hx hb dX8_night_18 rfl (lv_at hl 3 rfl) ?_
      refine lv_i2l (v := (nh : Int32).toInt64) hx hb dX8_night_19 rfl ?_
      refine lv_lconst (v := 1) hx hb dX8_night_20 (by decide) ?_
      refine lv_ldc2 (v := 24) hx hb hown (hts _ kX8_night_228) dX8_night_21 ?_
      refine x_ip (w := (wM G B)) (x := x) (v := bI (decide (((1 : Int32)) ≤ ((nh : Int32))) && decide (((nh : Int32)) ≤ ((24 : Int32))))) (va_runS (As := [.long ((nh : Int32).toInt64), .long (1), .long (24)]) (rest := []) ⟨hx, hb, hml, hown, hts⟩ (c_X8_in (l := l) (G := G) (B := B) (hW := hW) (x := x) (va := (nh : Int32).toInt64) (vb := 1) (vc := 24) (v1 := (nh : Int32)) (lo1 := (1 : Int32)) (hi1 := (24 : Int32)) (hv := (by first | rfl | decide)) (hlo := (by first | rfl | decide)) (hhi := (by first | rfl | decide))) (va_cwS 3 hts gX8_night_X8_in rfl rfl rfl (by decide +kernel) ⟨Nat.le_of_ble_eq_true rfl, Nat.le_of_ble_eq_true rfl⟩) (x_ps (w := (wM G B)) hW hX hK hE hS [.long ((nh : Int32).toInt64), .long (1), .long (24)]) rfl rfl hl.1 rfl (lv_room (Nat.le_of_ble_eq_true rfl)) dX8_night_24 ⟨Nat.zero_le _, Nat.zero_le _⟩) hS (fun H_7 lo_8 hX hS => ?_)
      refine x_ifeq (tgt := 44) hx hb dX8_night_27 (by decide) (fun c_9 => ?_) (fun c_9 => ?_)
      · refine lv_ldc (v := (-1000001)) hx hb hown (hts _ kX8_night_63) dX8_night_44 ?_
        rw [← hQ]
        refine x_iret (v := (-1000001)) hx hb hr hX hS hlocks dX8_night_46 ?_
        show PT_X8_night _ _ _ _ _ _ _ _ _
        unfold PT_X8_night
        rw [if_pos c_3, if_neg (ne_of_true c_6), if_pos c_9]
        exact ⟨rfl, rfl⟩
      · refine lv_iload hx hb dX8_night_30 (lv_at hl 4 rfl) ?_
        refine x_ip (w := (wM G B)) (x := x) (v := bI (decide (0 ≤ a) && decide (a ≤ 7))) (va_runS (As := [.int (a)]) (rest := []) ⟨hx, hb, hml, hown, hts⟩ (c_X8_isRow (l := l) (G := G) (B := B) (hW := hW) (x := x) (v := a)) (va_cwS 1 hts gX8_night_X8_isRow rfl rfl rfl (by decide +kernel) ⟨Nat.le_of_ble_eq_true rfl, Nat.le_of_ble_eq_true rfl⟩) (x_ps (w := (wM G B)) hW hX hK hE hS [.int (a)]) rfl rfl hl.1 rfl (lv_room (Nat.le_of_ble_eq_true rfl)) dX8_night_32 ⟨Nat.zero_le _, Nat.zero_le _⟩) hS (fun H_10 lo_11 hX hS => ?_)
        refine x_ifeq (tgt := 44) hx hb dX8_night_35 (by decide) (fun c_12 => ?_) (fun c_12 => ?_)
        · refine lv_ldc (v := (-1000001)) hx hb hown (hts _ kX8_night_63) dX8_night_44 ?_
          rw [← hQ]
          refine x_iret (v := (-1000001)) hx hb hr hX hS hlocks dX8_night_46 ?_
          show PT_X8_night _ _ _ _ _ _ _ _ _
          unfold PT_X8_night
          rw [if_pos c_3, if_neg (ne_of_true c_6), if_neg (ne_of_true c_9), if_pos c_12]
          exact ⟨rfl, rfl⟩
        · obtain ⟨hae, ha8⟩ := rowN c_12
          refine lv_iload hx hb dX8_night_38 (lv_at hl 5 rfl) ?_
          refine lv_iconst (v := (-1)) hx hb dX8_night_40 (by decide) ?_
          refine lv_icmp_ge (tgt := 47) hx hb dX8_night_41 (by decide) (fun c_13 => ?_) (fun c_13 => ?_)
          · have hi1 := Int32.not_lt.mpr c_13
            refine lv_aload_n hx hb dX8_night_47 rfl (lv_at hl 0 rfl) ?_
            refine lv_iload hx hb dX8_night_48 (lv_at hl 4 rfl) ?_
            refine W.eq (g2 := F0 mm 50 ls [.int (nI (tn a)), .ref (B + (0))]) (congrArg (fun z9 : Int32 => F0 mm 50 ls [.int (z9), .ref (B + (0))]) hae) ?_
            refine x_ip (w := (wM G B)) (x := x) (v := bI (decide (x 1 (tn a) < 0))) (va_runV (As := [.int (nI (tn a))]) (rest := []) ⟨hx, hb, hml, hown, hts⟩ (c_X8_isMissing (l := l) (G := G) (B := B) (hW := hW) (x := x) (i := tn a) (hi := (by omega))) (cwV 1 hts gX8_night_X8_isMissing rfl rfl rfl (by decide +kernel) ⟨Nat.le_of_ble_eq_true rfl, Nat.le_of_ble_eq_true rfl⟩) (x_pv (w := (wM G B)) (a := 0) hW hX hK hE hS [.int (nI (tn a))] (Nat.le_of_ble_eq_true rfl) (shM_0 (G := G) (B := B)) rfl) rfl rfl hl.1 rfl (lv_room (Nat.le_of_ble_eq_true rfl)) dX8_night_50 ⟨Nat.zero_le _, Nat.zero_le _⟩) hS (fun H_14 lo_15 hX hS => ?_)
            refine x_ifeq (tgt := 63) hx hb dX8_night_53 (by decide) (fun c_16 => ?_) (fun c_16 => ?_)
            · obtain ⟨sz, hsz40, hsz⟩ := hY.get ha8 c_16
              refine lv_aload_n hx hb dX8_night_63 rfl (lv_at hl 0 rfl) ?_
              refine x_get (w := (wM G B)) (a := 0) (v := .ref (B + (2))) hx hb hts iX8_night_X8 hown hK hX (Nat.le_of_ble_eq_true rfl) (shM_0 (G := G) (B := B)) rfl 1 (by decide) (hts _ kX8_night_13) (fun _ h9 => h9) rfl dX8_night_64 ?_
              refine lv_iload hx hb dX8_night_67 (lv_at hl 4 rfl) ?_
              refine x_iald (w := (wM G B)) (a := 2) (n := 8) (j := tn a) hx hb hK hX (Nat.le_of_ble_eq_true rfl) (shM_a (G := G) (B := B) (a := 2) (f := x (2)) (by decide)) hae (by omega) (by decide) dX8_night_69 ?_
              refine lv_aload_n hx hb dX8_night_70 rfl (lv_at hl 0 rfl) ?_
              refine x_get (w := (wM G B)) (a := 0) (v := .ref (B + (5))) hx hb hts iX8_night_X8 hown hK hX (Nat.le_of_ble_eq_true rfl) (shM_0 (G := G) (B := B)) rfl 7 (by decide) (hts _ kX8_night_22) (fun _ h9 => h9) rfl dX8_night_71 ?_
              refine lv_iconst (v := 0) hx hb dX8_night_74 (by decide) ?_
              refine x_iald (w := (wM G B)) (a := 5) (n := 93) (j := 0) hx hb hK hX (Nat.le_of_ble_eq_true rfl) (shM_a (G := G) (B := B) (a := 5) (f := x (5)) (by decide)) rfl (by decide) (by decide) dX8_night_75 ?_
              refine lv_icmp_ge (tgt := 86) hx hb dX8_night_76 (by decide) (fun c_17 => ?_) (fun c_17 => ?_)
              · have hp8 := pow8 hn8
                have hsh : (1 : Int32) <<< ((x (5) 0) &&& 31) = nI (2 ^ n) := by rw [hN]; exact shln n hn8
                refine lv_iconst (v := 0) hx hb dX8_night_86 (by decide) ?_
                refine lv_istore (lv' := [(6, .int (0)), (0, .ref (B + (0))), (1, .int (q)), (2, .int (w)), (3, .int (nh)), (4, .int (a)), (5, .int (i))]) hx hb dX8_night_87 hl (by decide) rfl (fun ls hl => ?_)
                refine lv_ldc (v := (-1000000)) hx hb hown (hts _ kX8_night_215) dX8_night_89 ?_
                refine lv_istore (lv' := [(7, .int ((-1000000))), (6, .int (0)), (0, .ref (B + (0))), (1, .int (q)), (2, .int (w)), (3, .int (nh)), (4, .int (a)), (5, .int (i))]) hx hb dX8_night_91 hl (by decide) rfl (fun ls hl => ?_)
                refine lv_iconst (v := 0) hx hb dX8_night_93 (by decide) ?_
                refine lv_istore (lv' := [(8, .int (0)), (7, .int ((-1000000))), (6, .int (0)), (0, .ref (B + (0))), (1, .int (q)), (2, .int (w)), (3, .int (nh)), (4, .int (a)), (5, .int (i))]) hx hb dX8_night_94 hl (by decide) rfl (fun ls hl => ?_)
                have L_18 : ∀ (n9 : Nat) (s : Nat) (ft : Int32) (at9 : Int32)  (_ : n9 = 2 ^ n - s) (_ : s ≤ 2 ^ n ∧ ft = nI (cntN (nightG (x 5) n (tn q) w nh (fun j => x 3 (40 * tn a + j))) s) ∧ at9 = nightA (nightG (x 5) n (tn q) w nh (fun j => x 3 (40 * tn a + j))) i s) (H_19 : Heap) (lo_20 : List Loc) (_ : MR G (wM G B) x H_19) (_ : va_S (blkA B (B + 13)) ss.heap H_19 lo_20) (ls : Array Slot) (_ : lv_has ls 11 [(8, .int (nI s)), (7, .int (at9)), (6, .int (ft)), (0, .ref (B + (0))), (1, .int (q)), (2, .int (w)), (3, .int (nh)), (4, .int (a)), (5, .int (i))]), W pp l ee rmX8_night ss mm aa bb mt cd H_19 lo_20 0 0 Q (F0 mm 96 ls []) := by
                  intro n9
                  induction n9 using Nat.strongRecOn with
                  | _ n9 ih => 
                    have ih_96 := ih
                    intro s ft at9 hn9 hI H_19 lo_20 hX hS ls hl
                    obtain ⟨hs, hft, hat⟩ := hI
                    refine lv_iload hx hb dX8_night_96 (lv_at hl 0 rfl) ?_
                    refine lv_iconst (v := 1) hx hb dX8_night_98 (by decide) ?_
                    refine lv_aload_n hx hb dX8_night_99 rfl (lv_at hl 3 rfl) ?_
                    refine x_get (w := (wM G B)) (a := 0) (v := .ref (B + (5))) hx hb hts iX8_night_X8 hown hK hX (Nat.le_of_ble_eq_true rfl) (shM_0 (G := G) (B := B)) rfl 7 (by decide) (hts _ kX8_night_22) (fun _ h9 => h9) rfl dX8_night_100 ?_
                    refine lv_iconst (v := 0) hx hb dX8_night_103 (by decide) ?_
                    refine x_iald (w := (wM G B)) (a := 5) (n := 93) (j := 0) hx hb hK hX (Nat.le_of_ble_eq_true rfl) (shM_a (G := G) (B := B) (a := 5) (f := x (5)) (by decide)) rfl (by decide) (by decide) dX8_night_104 ?_
                    refine lv_ishl hx hb dX8_night_105 ?_
                    refine lv_icmp_ge (tgt := 209) hx hb dX8_night_106 (by decide) (fun c_21 => ?_) (fun c_21 => ?_)
                    · have nc_21 := (n_le (a := 2 ^ n) (b := s) hsh rfl (by omega) (by omega)).mp c_21
                      have e9 : s = 2 ^ n := by omega
                      rw [e9] at hft hat
                      refine lv_aload_n hx hb dX8_night_209 rfl (lv_at hl 3 rfl) ?_
                      refine lv_iconst (v := 0) hx hb dX8_night_210 (by decide) ?_
                      refine lv_iload hx hb dX8_night_211 (lv_at hl 8 rfl) ?_
                      have kJ_24 : ∀ (v_23 : Int32) (_ : v_23 = (if 0 ≤ i then at9 else ft)) (H_25 : Heap) (lo_26 : List Loc) (_ : MR G (wM G B) x H_25) (_ : va_S (blkA B (B + 13)) ss.heap H_25 lo_26) (ls : Array Slot) (_ : lv_has ls 11 [(8, .int (nI s)), (7, .int (at9)), (6, .int (ft)), (0, .ref (B + (0))), (1, .int (q)), (2, .int (w)), (3, .int (nh)), (4, .int (a)), (5, .int (i))]), W pp l ee rmX8_night ss mm aa bb mt cd H_25 lo_26 0 0 Q (F0 mm 223 ls [.int (v_23), .int (0), .ref (B + (0))]) := by
                        intro v_23 ev_23 H_25 lo_26 hX hS ls hl
                        refine x_if (w := (wM G B)) (va_runV (As := [.int (0), .int (v_23)]) (rest := []) ⟨hx, hb, hml, hown, hts⟩ (c_X8_found (l := l) (G := G) (B := B) (hW := hW) (x := x) (nu := 0) (to := v_23)) (cwV 2 hts gX8_night_X8_found rfl rfl rfl (by decide +kernel) ⟨Nat.le_of_ble_eq_true rfl, Nat.le_of_ble_eq_true rfl⟩) (x_pv (w := (wM G B)) (a := 0) hW hX hK hE hS [.int (0), .int (v_23)] (Nat.le_of_ble_eq_true rfl) (shM_0 (G := G) (B := B)) rfl) rfl rfl hl.1 rfl (lv_room (Nat.le_of_ble_eq_true rfl)) dX8_night_223 ⟨Nat.zero_le _, Nat.zero_le _⟩) hS (fun r_29 x_30 H_27 lo_28 h_223 hX hS => ?_)
                        try dsimp only at h_223
                        rw [← hQ]
                        refine x_iret (v := r_29) hx hb hr hX hS hlocks dX8_night_226 ?_
                        show PT_X8_night _ _ _ _ _ _ _ _ _
                        unfold PT_X8_night
                        rw [if_pos c_3, if_neg (ne_of_true c_6), if_neg (ne_of_true c_9), if_neg (ne_of_true c_12), if_pos c_13, if_pos c_16, if_pos c_17]
                        exact ⟨(h_223.1 rfl).trans (by rw [ev_23, hft, hat]; exact nA_end2 hp8 hi1), h_223.2.2⟩
                      refine lv_if_ge (tgt := 221) hx hb dX8_night_213 (by decide) (fun c_22 => ?_) (fun c_22 => ?_)
                      · refine lv_iload hx hb dX8_night_221 (lv_at hl 1 rfl) ?_
                        exact kJ_24 (at9) (by rw [if_pos c_22]) _ _ hX hS ls (lv_sub hl [0, 1, 2, 3, 4, 5, 6, 7, 8] rfl)
                      · refine lv_iload hx hb dX8_night_216 (lv_at hl 2 rfl) ?_
                        refine lv_goto (tgt := 223) hx hb dX8_night_218 (by decide) ?_
                        exact kJ_24 (ft) (by rw [if_neg c_22]) _ _ hX hS ls (lv_sub hl [0, 1, 2, 3, 4, 5, 6, 7, 8] rfl)
                    · have nc_21 := Nat.not_le.mp (fun q => c_21 ((n_le (a := 2 ^ n) (b := s) hsh rfl (by omega) (by omega)).mpr q))
                      refine lv_iconst (v := 1) hx hb dX8_night_109 (by decide) ?_
                      refine lv_istore (lv' := [(9, .int (1)), (8, .int (nI s)), (7, .int (at9)), (6, .int (ft)), (0, .ref (B + (0))), (1, .int (q)), (2, .int (w)), (3, .int (nh)), (4, .int (a)), (5, .int (i))]) hx hb dX8_night_110 hl (by decide) rfl (fun ls hl => ?_)
                      refine lv_iconst (v := 0) hx hb dX8_night_112 (by decide) ?_
                      refine lv_istore (lv' := [(10, .int (0)), (9, .int (1)), (8, .int (nI s)), (7, .int (at9)), (6, .int (ft)), (0, .ref (B + (0))), (1, .int (q)), (2, .int (w)), (3, .int (nh)), (4, .int (a)), (5, .int (i))]) hx hb dX8_night_113 hl (by decide) rfl (fun ls hl => ?_)
                      have L_31 : ∀ (n9 : Nat) (j : Nat) (b : Bool)  (_ : n9 = n - j) (_ : j ≤ n ∧ b = allN (fun j => !s.testBit j || decide (sF (x 5) j 7 = 0)) j) (H_32 : Heap) (lo_33 : List Loc) (_ : MR G (wM G B) x H_32) (_ : va_S (blkA B (B + 13)) ss.heap H_32 lo_33) (ls : Array Slot) (_ : lv_has ls 11 [(10, .int (nI j)), (9, .int (bI (b))), (8, .int (nI s)), (7, .int (at9)), (6, .int (ft)), (0, .ref (B + (0))), (1, .int (q)), (2, .int (w)), (3, .int (nh)), (4, .int (a)), (5, .int (i))]), W pp l ee rmX8_night ss mm aa bb mt cd H_32 lo_33 0 0 Q (F0 mm 115 ls []) := by
                        intro n9
                        induction n9 using Nat.strongRecOn with
                        | _ n9 ih => 
                          have ih_115 := ih
                          intro j b hn9 hI H_32 lo_33 hX hS ls hl
                          obtain ⟨hj, hb9⟩ := hI
                          refine lv_iload hx hb dX8_night_115 (lv_at hl 0 rfl) ?_
                          refine lv_aload_n hx hb dX8_night_117 rfl (lv_at hl 5 rfl) ?_
                          refine x_get (w := (wM G B)) (a := 0) (v := .ref (B + (5))) hx hb hts iX8_night_X8 hown hK hX (Nat.le_of_ble_eq_true rfl) (shM_0 (G := G) (B := B)) rfl 7 (by decide) (hts _ kX8_night_22) (fun _ h9 => h9) rfl dX8_night_118 ?_
                          refine lv_iconst (v := 0) hx hb dX8_night_121 (by decide) ?_
                          refine x_iald (w := (wM G B)) (a := 5) (n := 93) (j := 0) hx hb hK hX (Nat.le_of_ble_eq_true rfl) (shM_a (G := G) (B := B) (a := 5) (f := x (5)) (by decide)) rfl (by decide) (by decide) dX8_night_122 ?_
                          refine lv_icmp_ge (tgt := 165) hx hb dX8_night_123 (by decide) (fun c_34 => ?_) (fun c_34 => ?_)
                          · have nc_34 := (n_le (a := n) (b := j) hN rfl (by omega) (by omega)).mp c_34
                            have e7 : j = n := by omega
                            rw [e7] at hb9
                            refine lv_iload hx hb dX8_night_165 (lv_at hl 1 rfl) ?_
                            refine x_ifeq (tgt := 203) hx hb dX8_night_167 (by decide) (fun c_35 => ?_) (fun c_35 => ?_)
                            · refine lv_iinc (v := nI (s + 1)) (lv' := [(8, .int (nI (s + 1))), (10, .int (nI j)), (9, .int (bI (b))), (7, .int (at9)), (6, .int (ft)), (0, .ref (B + (0))), (1, .int (q)), (2, .int (w)), (3, .int (nh)), (4, .int (a)), (5, .int (i))]) hx hb dX8_night_203 hl (k := 2) rfl (inc_nI _) (by decide) rfl (fun ls hl => ?_)
                              refine lv_goto (tgt := 96) hx hb dX8_night_206 (by decide) ?_
                              exact ih_96 _ (by omega) (s + 1) (ft) (at9) rfl (by first | exact ⟨by omega, nG_skip (nG_f1 (c_35.symm.trans hb9).symm) hft hat⟩ | exact ⟨by omega, nG_skip (nG_f2 c_35) hft hat⟩ | exact ⟨by omega, nG_on (by omega) (nG_f3 (c_34.symm.trans hb9).symm c_35) hft hat rfl⟩) _ _ hX hS ls (lv_sub hl [0, 3, 4, 5, 6, 7, 8, 9, 10] rfl)
                            · refine lv_aload_n hx hb dX8_night_170 rfl (lv_at hl 5 rfl) ?_
                              refine lv_iload_n hx hb dX8_night_171 rfl (lv_at hl 6 rfl) ?_
                              refine lv_iload_n hx hb dX8_night_172 rfl (lv_at hl 7 rfl) ?_
                              refine lv_iload_n hx hb dX8_night_173 rfl (lv_at hl 8 rfl) ?_
                              refine lv_iload hx hb dX8_night_174 (lv_at hl 9 rfl) ?_
                              refine lv_iload hx hb dX8_night_176 (lv_at hl 2 rfl) ?_
                              refine W.eq (g2 := F0 mm 178 ls [.int (nI s), .int (a), .int (nh), .int (w), .int (nI (tn q)), .ref (B + (0))]) (congrArg (fun z9 : Int32 => F0 mm 178 ls [.int (nI s), .int (a), .int (nh), .int (w), .int (z9), .ref (B + (0))]) hqe) ?_
                              refine W.eq (g2 := F0 mm 178 ls [.int (nI s), .int (nI (tn a)), .int (nh), .int (w), .int (nI (tn q)), .ref (B + (0))]) (congrArg (fun z9 : Int32 => F0 mm 178 ls [.int (nI s), .int (z9), .int (nh), .int (w), .int (nI (tn q)), .ref (B + (0))]) hae) ?_
                              refine x_ip (w := (wM G B)) (x := x) (v := bI (allN (fun j => decide (jmin (nh * sFree (x 5) n j (tn q) w s hNo) (sF (x 5) j 3) = x 3 (40 * (tn a) + j))) n)) (va_runV (As := [.int (nI (tn q)), .int (w), .int (nh), .int (nI (tn a)), .int (nI s)]) (rest := []) ⟨hx, hb, hml, hown, hts⟩ (c_X8_isNight (l := l) (G := G) (B := B) (hW := hW) (x := x) (q := tn q) (w := w) (nh := nh) (ro := tn a) (s := s) (n := n) (hN := hN) (hn8 := hn8) (hq := (by omega)) (hs := (by omega)) (hro8 := (by omega))) (cwV 5 hts gX8_night_X8_isNight rfl rfl rfl (by decide +kernel) ⟨Nat.le_of_ble_eq_true rfl, Nat.le_of_ble_eq_true rfl⟩) (x_pv (w := (wM G B)) (a := 0) hW hX hK hE hS [.int (nI (tn q)), .int (w), .int (nh), .int (nI (tn a)), .int (nI s)] (Nat.le_of_ble_eq_true rfl) (shM_0 (G := G) (B := B)) rfl) rfl rfl hl.1 rfl (lv_room (Nat.le_of_ble_eq_true rfl)) dX8_night_178 ⟨Nat.zero_le _, Nat.zero_le _⟩) hS (fun H_36 lo_37 hX hS => ?_)
                              refine x_ifeq (tgt := 203) hx hb dX8_night_181 (by decide) (fun c_38 => ?_) (fun c_38 => ?_)
                              · refine lv_iinc (v := nI (s + 1)) (lv' := [(8, .int (nI (s + 1))), (10, .int (nI j)), (9, .int (bI (b))), (7, .int (at9)), (6, .int (ft)), (0, .ref (B + (0))), (1, .int (q)), (2, .int (w)), (3, .int (nh)), (4, .int (a)), (5, .int (i))]) hx hb dX8_night_203 hl (k := 2) rfl (inc_nI _) (by decide) rfl (fun ls hl => ?_)
                                refine lv_goto (tgt := 96) hx hb dX8_night_206 (by decide) ?_
                                exact ih_96 _ (by omega) (s + 1) (ft) (at9) rfl (by first | exact ⟨by omega, nG_skip (nG_f1 (c_38.symm.trans hb9).symm) hft hat⟩ | exact ⟨by omega, nG_skip (nG_f2 c_38) hft hat⟩ | exact ⟨by omega, nG_on (by omega) (nG_f3 (c_35.symm.trans hb9).symm c_38) hft hat rfl⟩) _ _ hX hS ls (lv_sub hl [0, 3, 4, 5, 6, 7, 8, 9, 10] rfl)
                              · refine lv_iload hx hb dX8_night_184 (lv_at hl 4 rfl) ?_
                                refine lv_iload hx hb dX8_night_186 (lv_at hl 10 rfl) ?_
                                have kJ_41 : ∀ (v_40 : Int32) (_ : v_40 = (if ft = i then nI s else at9)) (H_42 : Heap) (lo_43 : List Loc) (_ : MR G (wM G B) x H_42) (_ : va_S (blkA B (B + 13)) ss.heap H_42 lo_43) (ls : Array Slot) (_ : lv_has ls 11 [(10, .int (nI j)), (9, .int (bI (b))), (8, .int (nI s)), (7, .int (at9)), (6, .int (ft)), (0, .ref (B + (0))), (1, .int (q)), (2, .int (w)), (3, .int (nh)), (4, .int (a)), (5, .int (i))]), W pp l ee rmX8_night ss mm aa bb mt cd H_42 lo_43 0 0 Q (F0 mm 198 ls [.int (v_40)]) := by
                                  intro v_40 ev_40 H_42 lo_43 hX hS ls hl
                                  refine lv_istore (lv' := [(7, .int (v_40)), (10, .int (nI j)), (9, .int (bI (b))), (8, .int (nI s)), (6, .int (ft)), (0, .ref (B + (0))), (1, .int (q)), (2, .int (w)), (3, .int (nh)), (4, .int (a)), (5, .int (i))]) hx hb dX8_night_198 hl (by decide) rfl (fun ls hl => ?_)
                                  refine lv_iinc (v := ft + Int32.ofInt (1)) (lv' := [(6, .int (ft + Int32.ofInt (1))), (7, .int (v_40)), (10, .int (nI j)), (9, .int (bI (b))), (8, .int (nI s)), (0, .ref (B + (0))), (1, .int (q)), (2, .int (w)), (3, .int (nh)), (4, .int (a)), (5, .int (i))]) hx hb dX8_night_200 hl (k := 4) rfl rfl (by decide) rfl (fun ls hl => ?_)
                                  refine lv_iinc (v := nI (s + 1)) (lv' := [(8, .int (nI (s + 1))), (6, .int (ft + Int32.ofInt (1))), (7, .int (v_40)), (10, .int (nI j)), (9, .int (bI (b))), (0, .ref (B + (0))), (1, .int (q)), (2, .int (w)), (3, .int (nh)), (4, .int (a)), (5, .int (i))]) hx hb dX8_night_203 hl (k := 4) rfl (inc_nI _) (by decide) rfl (fun ls hl => ?_)
                                  refine lv_goto (tgt := 96) hx hb dX8_night_206 (by decide) ?_
                                  exact ih_96 _ (by omega) (s + 1) (ft + Int32.ofInt (1)) (v_40) rfl (by first | exact ⟨by omega, nG_skip (nG_f1 (c_38.symm.trans hb9).symm) hft hat⟩ | exact ⟨by omega, nG_skip (nG_f2 c_38) hft hat⟩ | exact ⟨by omega, nG_on (by omega) (nG_f3 (c_35.symm.trans hb9).symm c_38) hft hat ev_40⟩) _ _ hX hS ls (lv_sub hl [0, 2, 1, 5, 6, 7, 8, 9, 10] rfl)
                                refine lv_icmp_ne (tgt := 196) hx hb dX8_night_188 (by decide) (fun c_39 => ?_) (fun c_39 => ?_)
                                · refine lv_iload hx hb dX8_night_196 (lv_at hl 3 rfl) ?_
                                  exact kJ_41 (at9) (by rw [if_neg c_39]) _ _ hX hS ls (lv_sub hl [0, 1, 2, 3, 4, 5, 6, 7, 8, 9, 10] rfl)
                                · refine lv_iload hx hb dX8_night_191 (lv_at hl 2 rfl) ?_
                                  refine lv_goto (tgt := 198) hx hb dX8_night_193 (by decide) ?_
                                  exact kJ_41 (nI s) (by rw [if_pos c_39]) _ _ hX hS ls (lv_sub hl [0, 1, 2, 3, 4, 5, 6, 7, 8, 9, 10] rfl)
                          · have nc_34 := Nat.not_le.mp (fun q => c_34 ((n_le (a := n) (b := j) hN rfl (by omega) (by omega)).mpr q))
                            refine lv_iload hx hb dX8_night_126 (lv_at hl 1 rfl) ?_
                            have kJ_46 : ∀ (v_45 : Bool) (_ : v_45 = (if b = false then false else (if (s.testBit j) = false then true else (if (sF (x 5) j 7) = 0 then true else false)))) (H_47 : Heap) (lo_48 : List Loc) (_ : MR G (wM G B) x H_47) (_ : va_S (blkA B (B + 13)) ss.heap H_47 lo_48) (ls : Array Slot) (_ : lv_has ls 11 [(10, .int (nI j)), (9, .int (bI (b))), (8, .int (nI s)), (7, .int (at9)), (6, .int (ft)), (0, .ref (B + (0))), (1, .int (q)), (2, .int (w)), (3, .int (nh)), (4, .int (a)), (5, .int (i))]), W pp l ee rmX8_night ss mm aa bb mt cd H_47 lo_48 0 0 Q (F0 mm 157 ls [.int (bI (v_45))]) := by
                              intro v_45 ev_45 H_47 lo_48 hX hS ls hl
                              refine lv_istore (lv' := [(9, .int (bI (v_45))), (10, .int (nI j)), (8, .int (nI s)), (7, .int (at9)), (6, .int (ft)), (0, .ref (B + (0))), (1, .int (q)), (2, .int (w)), (3, .int (nh)), (4, .int (a)), (5, .int (i))]) hx hb dX8_night_157 hl (by decide) rfl (fun ls hl => ?_)
                              refine lv_iinc (v := nI (j + 1)) (lv' := [(10, .int (nI (j + 1))), (9, .int (bI (v_45))), (8, .int (nI s)), (7, .int (at9)), (6, .int (ft)), (0, .ref (B + (0))), (1, .int (q)), (2, .int (w)), (3, .int (nh)), (4, .int (a)), (5, .int (i))]) hx hb dX8_night_159 hl (k := 1) rfl (inc_nI _) (by decide) rfl (fun ls hl => ?_)
                              refine lv_goto (tgt := 115) hx hb dX8_night_162 (by decide) ?_
                              exact ih_115 _ (by omega) (j + 1) (v_45) rfl ⟨by omega, by rw [ev_45]; exact allN_st3 (P := fun j => !s.testBit j || decide (sF (x 5) j 7 = 0)) rfl hb9⟩ _ _ hX hS ls (lv_sub hl [0, 1, 2, 3, 4, 5, 6, 7, 8, 9, 10] rfl)
                            refine x_ifeq (tgt := 156) hx hb dX8_night_128 (by decide) (fun c_44 => ?_) (fun c_44 => ?_)
                            · refine lv_iconst (v := 0) hx hb dX8_night_156 (by decide) ?_
                              exact kJ_46 (false) (by rw [if_pos c_44]) _ _ hX hS ls (lv_sub hl [0, 1, 2, 3, 4, 5, 6, 7, 8, 9, 10] rfl)
                            · refine lv_iload hx hb dX8_night_131 (lv_at hl 2 rfl) ?_
                              refine lv_iload hx hb dX8_night_133 (lv_at hl 0 rfl) ?_
                              refine x_ip (w := (wM G B)) (x := x) (v := bI (s.testBit j)) (va_runS (As := [.int (nI s), .int (nI j)]) (rest := []) ⟨hx, hb, hml, hown, hts⟩ (c_X8_has (l := l) (G := G) (B := B) (hW := hW) (x := x) (s := s) (ml := j) (hs := (by omega)) (hml9 := (by omega))) (va_cwS 2 hts gX8_night_X8_has rfl rfl rfl (by decide +kernel) ⟨Nat.le_of_ble_eq_true rfl, Nat.le_of_ble_eq_true rfl⟩) (x_ps (w := (wM G B)) hW hX hK hE hS [.int (nI s), .int (nI j)]) rfl rfl hl.1 rfl (lv_room (Nat.le_of_ble_eq_true rfl)) dX8_night_135 ⟨Nat.zero_le _, Nat.zero_le _⟩) hS (fun H_49 lo_50 hX hS => ?_)
                              refine x_ifeq (tgt := 152) hx hb dX8_night_138 (by decide) (fun c_51 => ?_) (fun c_51 => ?_)
                              · refine lv_iconst (v := 1) hx hb dX8_night_152 (by decide) ?_
                                refine lv_goto (tgt := 157) hx hb dX8_night_153 (by decide) ?_
                                exact kJ_46 (true) (by rw [if_neg (ne_of_true c_44), if_pos c_51]) _ _ hX hS ls (lv_sub hl [0, 1, 2, 3, 4, 5, 6, 7, 8, 9, 10] rfl)
                              · refine lv_aload_n hx hb dX8_night_141 rfl (lv_at hl 5 rfl) ?_
                                refine lv_iload hx hb dX8_night_142 (lv_at hl 0 rfl) ?_
                                refine lv_bipush (v := 7) hx hb dX8_night_144 (by decide) ?_
                                refine x_ip (w := (wM G B)) (x := x) (v := sF (x 5) j 7) (va_runV (As := [.int (nI j), .int (7)]) (rest := []) ⟨hx, hb, hml, hown, hts⟩ (c_X8_of (l := l) (G := G) (B := B) (hW := hW) (x := x) (ml := j) (k := 7) (hml9 := (by omega)) (hk10 := (by omega))) (cwV 2 hts gX8_night_X8_of rfl rfl rfl (by decide +kernel) ⟨Nat.le_of_ble_eq_true rfl, Nat.le_of_ble_eq_true rfl⟩) (x_pv (w := (wM G B)) (a := 0) hW hX hK hE hS [.int (nI j), .int (7)] (Nat.le_of_ble_eq_true rfl) (shM_0 (G := G) (B := B)) rfl) rfl rfl hl.1 rfl (lv_room (Nat.le_of_ble_eq_true rfl)) dX8_night_146 ⟨Nat.zero_le _, Nat.zero_le _⟩) hS (fun H_52 lo_53 hX hS => ?_)
                                refine lv_if_ne (tgt := 156) hx hb dX8_night_149 (by decide) (fun c_54 => ?_) (fun c_54 => ?_)
                                · refine lv_iconst (v := 0) hx hb dX8_night_156 (by decide) ?_
                                  exact kJ_46 (false) (by rw [if_neg (ne_of_true c_44), if_neg (ne_of_true c_51), if_neg c_54]) _ _ hX hS ls (lv_sub hl [0, 1, 2, 3, 4, 5, 6, 7, 8, 9, 10] rfl)
                                · refine lv_iconst (v := 1) hx hb dX8_night_152 (by decide) ?_
                                  refine lv_goto (tgt := 157) hx hb dX8_night_153 (by decide) ?_
                                  exact kJ_46 (true) (by rw [if_neg (ne_of_true c_44), if_neg (ne_of_true c_51), if_pos c_54]) _ _ hX hS ls (lv_sub hl [0, 1, 2, 3, 4, 5, 6, 7, 8, 9, 10] rfl)
                      exact L_31 _ (0) (true) rfl ⟨Nat.zero_le _, rfl⟩ _ _ hX hS ls (lv_sub hl [0, 1, 2, 3, 4, 5, 6, 7, 8, 9, 10] rfl)
                exact L_18 _ (0) (0) ((-1000000)) rfl ⟨Nat.zero_le _, rfl, rfl⟩ _ _ hX hS ls (lv_sub hl [0, 1, 2, 3, 4, 5, 6, 7, 8] rfl)
              · refine lv_aload_n hx hb dX8_night_79 rfl (lv_at hl 0 rfl) ?_
                refine lv_iconst (v := 2) hx hb dX8_night_80 (by decide) ?_
                refine lv_iconst (v := 0) hx hb dX8_night_81 (by decide) ?_
                refine x_if (w := (wM G B)) (va_runV (As := [.int (2), .int (0)]) (rest := []) ⟨hx, hb, hml, hown, hts⟩ (c_X8_found (l := l) (G := G) (B := B) (hW := hW) (x := x) (nu := 2) (to := 0)) (cwV 2 hts gX8_night_X8_found rfl rfl rfl (by decide +kernel) ⟨Nat.le_of_ble_eq_true rfl, Nat.le_of_ble_eq_true rfl⟩) (x_pv (w := (wM G B)) (a := 0) hW hX hK hE hS [.int (2), .int (0)] (Nat.le_of_ble_eq_true rfl) (shM_0 (G := G) (B := B)) rfl) rfl rfl hl.1 rfl (lv_room (Nat.le_of_ble_eq_true rfl)) dX8_night_82 ⟨Nat.zero_le _, Nat.zero_le _⟩) hS (fun r_57 x_58 H_55 lo_56 h_82 hX hS => ?_)
                try dsimp only at h_82
                rw [← hQ]
                refine x_iret (v := r_57) hx hb hr hX hS hlocks dX8_night_85 ?_
                show PT_X8_night _ _ _ _ _ _ _ _ _
                unfold PT_X8_night
                rw [if_pos c_3, if_neg (ne_of_true c_6), if_neg (ne_of_true c_9), if_neg (ne_of_true c_12), if_pos c_13, if_pos c_16, if_neg c_17]
                exact ⟨h_82.2.1 (by decide), h_82.2.2⟩
            · refine lv_aload_n hx hb dX8_night_56 rfl (lv_at hl 0 rfl) ?_
              refine lv_iconst (v := 1) hx hb dX8_night_57 (by decide) ?_
              refine lv_iconst (v := 0) hx hb dX8_night_58 (by decide) ?_
              refine x_if (w := (wM G B)) (va_runV (As := [.int (1), .int (0)]) (rest := []) ⟨hx, hb, hml, hown, hts⟩ (c_X8_found (l := l) (G := G) (B := B) (hW := hW) (x := x) (nu := 1) (to := 0)) (cwV 2 hts gX8_night_X8_found rfl rfl rfl (by decide +kernel) ⟨Nat.le_of_ble_eq_true rfl, Nat.le_of_ble_eq_true rfl⟩) (x_pv (w := (wM G B)) (a := 0) hW hX hK hE hS [.int (1), .int (0)] (Nat.le_of_ble_eq_true rfl) (shM_0 (G := G) (B := B)) rfl) rfl rfl hl.1 rfl (lv_room (Nat.le_of_ble_eq_true rfl)) dX8_night_59 ⟨Nat.zero_le _, Nat.zero_le _⟩) hS (fun r_61 x_62 H_59 lo_60 h_59 hX hS => ?_)
              try dsimp only at h_59
              rw [← hQ]
              refine x_iret (v := r_61) hx hb hr hX hS hlocks dX8_night_62 ?_
              show PT_X8_night _ _ _ _ _ _ _ _ _
              unfold PT_X8_night
              rw [if_pos c_3, if_neg (ne_of_true c_6), if_neg (ne_of_true c_9), if_neg (ne_of_true c_12), if_pos c_13, if_neg (ne_of_true c_16)]
              exact ⟨h_59.2.1 (by decide), h_59.2.2⟩
          · refine lv_ldc (v := (-1000001)) hx hb hown (hts _ kX8_night_63) dX8_night_44 ?_
            rw [← hQ]
            refine x_iret (v := (-1000001)) hx hb hr hX hS hlocks dX8_night_46 ?_
            show PT_X8_night _ _ _ _ _ _ _ _ _
            unfold PT_X8_night
            rw [if_pos c_3, if_neg (ne_of_true c_6), if_neg (ne_of_true c_9), if_neg (ne_of_true c_12), if_neg c_13]
            exact ⟨rfl, rfl⟩
  · refine lv_ldc (v := (-1000002)) hx hb hown (hts _ kX8_night_185) dX8_night_7 ?_
    rw [← hQ]
    refine x_iret (v := (-1000002)) hx hb hr hX hS hlocks dX8_night_9 ?_
    show PT_X8_night _ _ _ _ _ _ _ _ _
    unfold PT_X8_night
    rw [if_neg (ne_of_true c_3)]
    exact ⟨rfl, rfl⟩

def PT_X8_years (x : Mem) (ny : Int32) (seed : Int32) (m : Int32) (n : Nat) (r : Int32) (u : Mem) : Prop := (if (decide (x 5 0 = 0)) = false then (if (decide (((1 : Int32)) ≤ ((ny : Int32))) && decide (((ny : Int32)) ≤ ((1000 : Int32)))) = false then (r = (-1000001) ∧ u = x) else (if (decide (((1 : Int32)) ≤ ((seed : Int32))) && decide (((seed : Int32)) ≤ ((999999 : Int32)))) = false then (r = (-1000001) ∧ u = x) else (if (decide (m = -1) || (decide (0 ≤ m) && decide (m < nI n))) = true then (r = yS (x 5) n m seed (tn ny) ∧ u = x) else (r = (-1000001) ∧ u = x)))) else (r = (-1000002) ∧ u = x))
theorem kX8_years_251 : (.constantLong RX8 251 (1000) : Cond) ∈ wsX8_years := by decide +kernel
theorem kX8_years_63 : (.constant RX8 63 (-1000001) : Cond) ∈ wsX8_years := by decide +kernel
theorem kX8_years_253 : (.constantLong RX8 253 (999999) : Cond) ∈ wsX8_years := by decide +kernel
theorem kX8_years_255 : (.constantLong RX8 255 (16807) : Cond) ∈ wsX8_years := by decide +kernel
theorem kX8_years_257 : (.constantLong RX8 257 (2147483647) : Cond) ∈ wsX8_years := by decide +kernel
theorem kX8_years_259 : (.constantLong RX8 259 (4) : Cond) ∈ wsX8_years := by decide +kernel
theorem kX8_years_261 : (.constantLong RX8 261 (101) : Cond) ∈ wsX8_years := by decide +kernel
theorem kX8_years_22 : (.fieldLink RX8 22 "WindTakenModel" "now" "[I" : Cond) ∈ wsX8_years := by decide +kernel
theorem iX8_years_X8 : ∀ w ∈ wsX80, w ∈ wsX8_years := by decide +kernel
theorem kX8_years_215 : (.constant RX8 215 (-1000000) : Cond) ∈ wsX8_years := by decide +kernel
theorem kX8_years_185 : (.constant RX8 185 (-1000002) : Cond) ∈ wsX8_years := by decide +kernel
abbrev rmX8_years : Room := { frames := 5, cells := 0, slots := 0, locals := 122 }
set_option maxHeartbeats 4000000 in
set_option maxRecDepth 100000 in
theorem c_X8_years (l : Launch) (G : GG) (B : Nat) (hW : WOK (wM G B)) (x : Mem) (ny : Int32) (seed : Int32) (m : Int32) {n : Nat} (hN : x 5 0 = nI n) (hn8 : n ≤ 8) : Met l yX8_years wsX8_years rmX8_years (XP G (wM G B) [.ref (B + (0)), .int (ny), .int (seed), .int (m)] x) (va_Qi (fun r u => PT_X8_years x ny seed m n r u) (XB G (wM G B)) (blkA B (B + 13))) 0 0 (blkA B (B + 13)) := by
  refine Met.ofW (cc := cX8_years) (maxL := 11) (ret := (some .int)) (by decide) rfl ?_
  intro pp ee ss mm aa bb mt cd s1 Bd hml hv
  obtain ⟨hae, hX, hK, hE⟩ := hv
  have hx := Bd.exec
  have hb := Bd.bytes
  have hr := Bd.returns
  have hts := atoms_spec (ws := wsX8_years) Bd.pre
  have hown : ss.vm.findClass RX8 = some mm.cls := findClass_of_methodNamed Bd.named
  have hlocks := Bd.notSynchronized
  have hS : va_S (blkA B (B + 13)) ss.heap ss.heap [] := va_S.rf
  have hl := lv_entry ([.ref (B + (0)), .int (ny), .int (seed), .int (m)]) (n := 11) (Nat.le_of_ble_eq_true rfl)
  subst hae
  rw [lg_entry_eq]
  generalize (lg_sl ([.ref (B + (0)), .int (ny), .int (seed), .int (m)]) ++ List.replicate (11 - (lg_sl ([.ref (B + (0)), .int (ny), .int (seed), .int (m)])).length) Slot.unset).toArray = ls at hl ⊢
  have hl : lv_has ls 11 [(0, .ref (B + (0))), (1, .int (ny)), (2, .int (seed)), (3, .int (m))] := hl
  generalize ([.ref (B + (0)), .int (ny), .int (seed), .int (m)] : List Value).toArray = aa at hts ⊢
  show W pp l ee rmX8_years ss mm aa bb mt cd ss.heap [] 0 0 _ (F0 mm 0 ls [])
  generalize hQ : MQ bb (va_Qi (fun r u => PT_X8_years x ny seed m n r u) (XB G (wM G B)) (blkA B (B + 13))) aa ss 0 0 (blkA B (B + 13)) = Q
  refine lv_aload_n hx hb dX8_years_0 rfl (lv_at hl 0 rfl) ?_
  refine x_ip (w := (wM G B)) (x := x) (v := bI (decide (x 5 0 = 0))) (va_runV (As := []) (rest := []) ⟨hx, hb, hml, hown, hts⟩ (c_X8_isNoRidge (l := l) (G := G) (B := B) (hW := hW) (x := x) ) (cwV 0 hts gX8_years_X8_isNoRidge rfl rfl rfl (by decide +kernel) ⟨Nat.le_of_ble_eq_true rfl, Nat.le_of_ble_eq_true rfl⟩) (x_pv (w := (wM G B)) (a := 0) hW hX hK hE hS [] (Nat.le_of_ble_eq_true rfl) (shM_0 (G := G) (B := B)) rfl) rfl rfl hl.1 rfl (lv_room (Nat.le_of_ble_eq_true rfl)) dX8_years_1 ⟨Nat.zero_le _, Nat.zero_le _⟩) hS (fun H_1 lo_2 hX hS => ?_)
  refine x_ifeq (tgt := 10) hx hb dX8_years_4 (by decide) (fun c_3 => ?_) (fun c_3 => ?_)
  · refine lv_iload_n hx hb dX8_years_10 rfl (lv_at hl 1 rfl) ?_
    refine lv_i2l (v := (ny : Int32).toInt64) hx hb dX8_years_11 rfl ?_
    refine lv_lconst (v := 1) hx hb dX8_years_12 (by decide) ?_
    refine lv_ldc2 (v := 1000) hx hb hown (hts _ kX8_years_251) dX8_years_13 ?_
    refine x_ip (w := (wM G B)) (x := x) (v := bI (decide (((1 : Int32)) ≤ ((ny : Int32))) && decide (((ny : Int32)) ≤ ((1000 : Int32))))) (va_runS (As := [.long ((ny : Int32).toInt64), .long (1), .long (1000)]) (rest := []) ⟨hx, hb, hml, hown, hts⟩ (c_X8_in (l := l) (G := G) (B := B) (hW := hW) (x := x) (va := (ny : Int32).toInt64) (vb := 1) (vc := 1000) (v1 := (ny : Int32)) (lo1 := (1 : Int32)) (hi1 := (1000 : Int32)) (hv := (by first | rfl | decide)) (hlo := (by first | rfl | decide)) (hhi := (by first | rfl | decide))) (va_cwS 3 hts gX8_years_X8_in rfl rfl rfl (by decide +kernel) ⟨Nat.le_of_ble_eq_true rfl, Nat.le_of_ble_eq_true rfl⟩) (x_ps (w := (wM G B)) hW hX hK hE hS [.long ((ny : Int32).toInt64), .long (1), .long (1000)]) rfl rfl hl.1 rfl (lv_room (Nat.le_of_ble_eq_true rfl)) dX8_years_16 ⟨Nat.zero_le _, Nat.zero_le _⟩) hS (fun H_4 lo_5 hX hS => ?_)
    refine x_ifeq (tgt := 47) hx hb dX8_years_19 (by decide) (fun c_6 => ?_) (fun c_6 => ?_)
    · refine lv_ldc (v := (-1000001)) hx hb hown (hts _ kX8_years_63) dX8_years_47 ?_
      rw [← hQ]
      refine x_iret (v := (-1000001)) hx hb hr hX hS hlocks dX8_years_49 ?_
      show PT_X8_years _ _ _ _ _ _ _
      unfold PT_X8_years
      rw [if_pos c_3, if_pos c_6]
      exact ⟨rfl, rfl⟩
    · obtain ⟨hne, hn1, hn1000⟩ := within1 (k := 1000) rfl (by decide) c_6
      refine lv_iload_n hx hb dX8_years_22 rfl (lv_at hl 2 rfl) ?_
      refine lv_i2l (v := (seed : Int32).toInt64) hx hb dX8_years_23 rfl ?_
      refine lv_lconst (v := 1) hx hb dX8_years_24 (by decide) ?_
      refine lv_ldc2 (v := 999999) hx hb hown (hts _ kX8_years_253) dX8_years_25 ?_
      refine x_ip (w := (wM G B)) (x := x) (v := bI (decide (((1 : Int32)) ≤ ((seed : Int32))) && decide (((seed : Int32)) ≤ ((999999 : Int32))))) (va_runS (As := [.long ((seed : Int32).toInt64), .long (1), .long (999999)]) (rest := []) ⟨hx, hb, hml, hown, hts⟩ (c_X8_in (l := l) (G := G) (B := B) (hW := hW) (x := x) (va := (seed : Int32).toInt64) (vb := 1) (vc := 999999) (v1 := (seed : Int32)) (lo1 := (1 : Int32)) (hi1 := (999999 : Int32)) (hv := (by first | rfl | decide)) (hlo := (by first | rfl | decide)) (hhi := (by first | rfl | decide))) (va_cwS 3 hts gX8_years_X8_in rfl rfl rfl (by decide +kernel) ⟨Nat.le_of_ble_eq_true rfl, Nat.le_of_ble_eq_true rfl⟩) (x_ps (w := (wM G B)) hW hX hK hE hS [.long ((seed : Int32).toInt64), .long (1), .long (999999)]) rfl rfl hl.1 rfl (lv_room (Nat.le_of_ble_eq_true rfl)) dX8_years_28 ⟨Nat.zero_le _, Nat.zero_le _⟩) hS (fun H_7 lo_8 hX hS => ?_)
      refine x_ifeq (tgt := 47) hx hb dX8_years_31 (by decide) (fun c_9 => ?_) (fun c_9 => ?_)
      · refine lv_ldc (v := (-1000001)) hx hb hown (hts _ kX8_years_63) dX8_years_47 ?_
        rw [← hQ]
        refine x_iret (v := (-1000001)) hx hb hr hX hS hlocks dX8_years_49 ?_
        show PT_X8_years _ _ _ _ _ _ _
        unfold PT_X8_years
        rw [if_pos c_3, if_neg (ne_of_true c_6), if_pos c_9]
        exact ⟨rfl, rfl⟩
      · have hsd := c_9
        refine lv_iload_n hx hb dX8_years_34 rfl (lv_at hl 3 rfl) ?_
        refine lv_iconst (v := (-1)) hx hb dX8_years_35 (by decide) ?_
        have K_10 : ∀   (_ : (decide (m = -1) || (decide (0 ≤ m) && decide (m < nI n))) = true ∧ (m = -1 ∨ ∃ j, j < n ∧ m = nI j)) (H_11 : Heap) (lo_12 : List Loc) (_ : MR G (wM G B) x H_11) (_ : va_S (blkA B (B + 13)) ss.heap H_11 lo_12) (ls : Array Slot) (_ : lv_has ls 11 [(0, .ref (B + (0))), (1, .int (ny)), (2, .int (seed)), (3, .int (m))]), W pp l ee rmX8_years ss mm aa bb mt cd H_11 lo_12 0 0 Q (F0 mm 50 ls []) := by
          intro  hI H_11 lo_12 hX hS ls hl
          obtain ⟨hask, hmm⟩ := hI
          refine lv_iload_n hx hb dX8_years_50 rfl (lv_at hl 2 rfl) ?_
          refine lv_i2l (v := (seed : Int32).toInt64) hx hb dX8_years_51 rfl ?_
          refine lv_lstore (lv' := [(4, .long ((seed : Int32).toInt64)), (0, .ref (B + (0))), (1, .int (ny)), (2, .int (seed)), (3, .int (m))]) hx hb dX8_years_52 hl (by decide) rfl (fun ls hl => ?_)
          refine lv_iconst (v := 0) hx hb dX8_years_54 (by decide) ?_
          refine lv_istore (lv' := [(6, .int (0)), (4, .long ((seed : Int32).toInt64)), (0, .ref (B + (0))), (1, .int (ny)), (2, .int (seed)), (3, .int (m))]) hx hb dX8_years_55 hl (by decide) rfl (fun ls hl => ?_)
          refine lv_iconst (v := 0) hx hb dX8_years_57 (by decide) ?_
          refine lv_istore (lv' := [(7, .int (0)), (6, .int (0)), (4, .long ((seed : Int32).toInt64)), (0, .ref (B + (0))), (1, .int (ny)), (2, .int (seed)), (3, .int (m))]) hx hb dX8_years_58 hl (by decide) rfl (fun ls hl => ?_)
          have L_13 : ∀ (n9 : Nat) (k : Nat) (sm : Int32) (z : Int64)  (_ : n9 = tn ny - k) (_ : k ≤ tn ny ∧ sm = yS (x 5) n m seed k ∧ z = yZ seed k) (H_14 : Heap) (lo_15 : List Loc) (_ : MR G (wM G B) x H_14) (_ : va_S (blkA B (B + 13)) ss.heap H_14 lo_15) (ls : Array Slot) (_ : lv_has ls 11 [(7, .int (nI k)), (6, .int (sm)), (4, .long (z)), (0, .ref (B + (0))), (1, .int (ny)), (2, .int (seed)), (3, .int (m))]), W pp l ee rmX8_years ss mm aa bb mt cd H_14 lo_15 0 0 Q (F0 mm 60 ls []) := by
            intro n9
            induction n9 using Nat.strongRecOn with
            | _ n9 ih => 
              have ih_60 := ih
              intro k sm z hn9 hI H_14 lo_15 hX hS ls hl
              obtain ⟨hk, hsm, hz⟩ := hI
              subst hz
              refine lv_iload hx hb dX8_years_60 (lv_at hl 0 rfl) ?_
              refine lv_iload_n hx hb dX8_years_62 rfl (lv_at hl 4 rfl) ?_
              refine lv_icmp_ge (tgt := 167) hx hb dX8_years_63 (by decide) (fun c_16 => ?_) (fun c_16 => ?_)
              · have nc_16 := (n_le (a := tn ny) (b := k) hne rfl (by omega) (by omega)).mp c_16
                have e9 : k = tn ny := by omega
                rw [e9] at hsm
                refine lv_iload hx hb dX8_years_167 (lv_at hl 1 rfl) ?_
                rw [← hQ]
                refine x_iret (v := sm) hx hb hr hX hS hlocks dX8_years_169 ?_
                show PT_X8_years _ _ _ _ _ _ _
                unfold PT_X8_years
                rw [if_pos c_3, if_neg (ne_of_true c_6), if_neg (ne_of_true c_9), if_pos hask]
                exact ⟨hsm, rfl⟩
              · have nc_16 := Nat.not_le.mp (fun q => c_16 ((n_le (a := tn ny) (b := k) hne rfl (by omega) (by omega)).mpr q))
                refine lv_lload hx hb dX8_years_66 (lv_at hl 2 rfl) ?_
                refine lv_ldc2 (v := 16807) hx hb hown (hts _ kX8_years_255) dX8_years_68 ?_
                refine lv_lmul hx hb dX8_years_71 ?_
                refine lv_ldc2 (v := 2147483647) hx hb hown (hts _ kX8_years_257) dX8_years_72 ?_
                refine lv_lrem hx hb dX8_years_75 (by decide) ?_
                refine lv_lstore (lv' := [(4, .long ((((yZ seed k)) * 16807) - (((yZ seed k)) * 16807) / 2147483647 * 2147483647)), (7, .int (nI k)), (6, .int (sm)), (0, .ref (B + (0))), (1, .int (ny)), (2, .int (seed)), (3, .int (m))]) hx hb dX8_years_76 hl (by decide) rfl (fun ls hl => ?_)
                refine lv_lload hx hb dX8_years_78 (lv_at hl 0 rfl) ?_
                refine lv_ldc2 (v := 4) hx hb hown (hts _ kX8_years_259) dX8_years_80 ?_
                refine lv_lrem hx hb dX8_years_83 (by decide) ?_
                refine lv_l2i (v := (((((yZ seed k)) * 16807) - (((yZ seed k)) * 16807) / 2147483647 * 2147483647) - ((((yZ seed k)) * 16807) - (((yZ seed k)) * 16807) / 2147483647 * 2147483647) / 4 * 4 : Int64).toInt32) hx hb dX8_years_84 rfl ?_
                refine W.eq (g2 := F0 mm 85 ls [.int (nI (yQ (yZ seed k)))]) (congrArg (fun z9 : Int32 => F0 mm 85 ls [.int (z9)]) (y_q seed hsd k)) ?_
                refine lv_istore (lv' := [(8, .int (nI (yQ (yZ seed k)))), (4, .long ((((yZ seed k)) * 16807) - (((yZ seed k)) * 16807) / 2147483647 * 2147483647)), (7, .int (nI k)), (6, .int (sm)), (0, .ref (B + (0))), (1, .int (ny)), (2, .int (seed)), (3, .int (m))]) hx hb dX8_years_85 hl (by decide) rfl (fun ls hl => ?_)
                refine lv_lload hx hb dX8_years_87 (lv_at hl 1 rfl) ?_
                refine lv_ldc2 (v := 16807) hx hb hown (hts _ kX8_years_255) dX8_years_89 ?_
                refine lv_lmul hx hb dX8_years_92 ?_
                refine lv_ldc2 (v := 2147483647) hx hb hown (hts _ kX8_years_257) dX8_years_93 ?_
                refine lv_lrem hx hb dX8_years_96 (by decide) ?_
                refine lv_lstore (lv' := [(4, .long ((((((yZ seed k)) * 16807) - (((yZ seed k)) * 16807) / 2147483647 * 2147483647) * 16807) - (((((yZ seed k)) * 16807) - (((yZ seed k)) * 16807) / 2147483647 * 2147483647) * 16807) / 2147483647 * 2147483647)), (8, .int (nI (yQ (yZ seed k)))), (7, .int (nI k)), (6, .int (sm)), (0, .ref (B + (0))), (1, .int (ny)), (2, .int (seed)), (3, .int (m))]) hx hb dX8_years_97 hl (by decide) rfl (fun ls hl => ?_)
                refine lv_lload hx hb dX8_years_99 (lv_at hl 0 rfl) ?_
                refine lv_ldc2 (v := 101) hx hb hown (hts _ kX8_years_261) dX8_years_101 ?_
                refine lv_lrem hx hb dX8_years_104 (by decide) ?_
                refine lv_l2i (v := (((((((yZ seed k)) * 16807) - (((yZ seed k)) * 16807) / 2147483647 * 2147483647) * 16807) - (((((yZ seed k)) * 16807) - (((yZ seed k)) * 16807) / 2147483647 * 2147483647) * 16807) / 2147483647 * 2147483647) - ((((((yZ seed k)) * 16807) - (((yZ seed k)) * 16807) / 2147483647 * 2147483647) * 16807) - (((((yZ seed k)) * 16807) - (((yZ seed k)) * 16807) / 2147483647 * 2147483647) * 16807) / 2147483647 * 2147483647) / 101 * 101 : Int64).toInt32) hx hb dX8_years_105 rfl ?_
                refine lv_istore (lv' := [(9, .int ((((((((yZ seed k)) * 16807) - (((yZ seed k)) * 16807) / 2147483647 * 2147483647) * 16807) - (((((yZ seed k)) * 16807) - (((yZ seed k)) * 16807) / 2147483647 * 2147483647) * 16807) / 2147483647 * 2147483647) - ((((((yZ seed k)) * 16807) - (((yZ seed k)) * 16807) / 2147483647 * 2147483647) * 16807) - (((((yZ seed k)) * 16807) - (((yZ seed k)) * 16807) / 2147483647 * 2147483647) * 16807) / 2147483647 * 2147483647) / 101 * 101 : Int64).toInt32)), (4, .long ((((((yZ seed k)) * 16807) - (((yZ seed k)) * 16807) / 2147483647 * 2147483647) * 16807) - (((((yZ seed k)) * 16807) - (((yZ seed k)) * 16807) / 2147483647 * 2147483647) * 16807) / 2147483647 * 2147483647)), (8, .int (nI (yQ (yZ seed k)))), (7, .int (nI k)), (6, .int (sm)), (0, .ref (B + (0))), (1, .int (ny)), (2, .int (seed)), (3, .int (m))]) hx hb dX8_years_106 hl (by decide) rfl (fun ls hl => ?_)
                refine lv_iconst (v := 0) hx hb dX8_years_108 (by decide) ?_
                refine lv_istore (lv' := [(10, .int (0)), (9, .int ((((((((yZ seed k)) * 16807) - (((yZ seed k)) * 16807) / 2147483647 * 2147483647) * 16807) - (((((yZ seed k)) * 16807) - (((yZ seed k)) * 16807) / 2147483647 * 2147483647) * 16807) / 2147483647 * 2147483647) - ((((((yZ seed k)) * 16807) - (((yZ seed k)) * 16807) / 2147483647 * 2147483647) * 16807) - (((((yZ seed k)) * 16807) - (((yZ seed k)) * 16807) / 2147483647 * 2147483647) * 16807) / 2147483647 * 2147483647) / 101 * 101 : Int64).toInt32)), (4, .long ((((((yZ seed k)) * 16807) - (((yZ seed k)) * 16807) / 2147483647 * 2147483647) * 16807) - (((((yZ seed k)) * 16807) - (((yZ seed k)) * 16807) / 2147483647 * 2147483647) * 16807) / 2147483647 * 2147483647)), (8, .int (nI (yQ (yZ seed k)))), (7, .int (nI k)), (6, .int (sm)), (0, .ref (B + (0))), (1, .int (ny)), (2, .int (seed)), (3, .int (m))]) hx hb dX8_years_109 hl (by decide) rfl (fun ls hl => ?_)
                have L_17 : ∀ (n9 : Nat) (j : Nat) (sj : Int32)  (_ : n9 = n - j) (_ : j ≤ n ∧ sj = yS (x 5) n m seed k + sumN (fun j => if m = -1 then sFree (x 5) n j (yQ (yZ seed k)) (yW (yZ seed k)) 0 hNo else if m = nI j then sFree (x 5) n j (yQ (yZ seed k)) (yW (yZ seed k)) 0 hNo else 0) j) (H_18 : Heap) (lo_19 : List Loc) (_ : MR G (wM G B) x H_18) (_ : va_S (blkA B (B + 13)) ss.heap H_18 lo_19) (ls : Array Slot) (_ : lv_has ls 11 [(10, .int (nI j)), (9, .int ((((((((yZ seed k)) * 16807) - (((yZ seed k)) * 16807) / 2147483647 * 2147483647) * 16807) - (((((yZ seed k)) * 16807) - (((yZ seed k)) * 16807) / 2147483647 * 2147483647) * 16807) / 2147483647 * 2147483647) - ((((((yZ seed k)) * 16807) - (((yZ seed k)) * 16807) / 2147483647 * 2147483647) * 16807) - (((((yZ seed k)) * 16807) - (((yZ seed k)) * 16807) / 2147483647 * 2147483647) * 16807) / 2147483647 * 2147483647) / 101 * 101 : Int64).toInt32)), (4, .long ((((((yZ seed k)) * 16807) - (((yZ seed k)) * 16807) / 2147483647 * 2147483647) * 16807) - (((((yZ seed k)) * 16807) - (((yZ seed k)) * 16807) / 2147483647 * 2147483647) * 16807) / 2147483647 * 2147483647)), (8, .int (nI (yQ (yZ seed k)))), (7, .int (nI k)), (6, .int (sj)), (0, .ref (B + (0))), (1, .int (ny)), (2, .int (seed)), (3, .int (m))]), W pp l ee rmX8_years ss mm aa bb mt cd H_18 lo_19 0 0 Q (F0 mm 111 ls []) := by
                  intro n9
                  induction n9 using Nat.strongRecOn with
                  | _ n9 ih => 
                    have ih_111 := ih
                    intro j sj hn9 hI H_18 lo_19 hX hS ls hl
                    obtain ⟨hj, hsj⟩ := hI
                    have hq4 := (yq_lt (yZ seed k)).2
                    refine lv_iload hx hb dX8_years_111 (lv_at hl 0 rfl) ?_
                    refine lv_aload_n hx hb dX8_years_113 rfl (lv_at hl 6 rfl) ?_
                    refine x_get (w := (wM G B)) (a := 0) (v := .ref (B + (5))) hx hb hts iX8_years_X8 hown hK hX (Nat.le_of_ble_eq_true rfl) (shM_0 (G := G) (B := B)) rfl 7 (by decide) (hts _ kX8_years_22) (fun _ h9 => h9) rfl dX8_years_114 ?_
                    refine lv_iconst (v := 0) hx hb dX8_years_117 (by decide) ?_
                    refine x_iald (w := (wM G B)) (a := 5) (n := 93) (j := 0) hx hb hK hX (Nat.le_of_ble_eq_true rfl) (shM_a (G := G) (B := B) (a := 5) (f := x (5)) (by decide)) rfl (by decide) (by decide) dX8_years_118 ?_
                    refine lv_icmp_ge (tgt := 161) hx hb dX8_years_119 (by decide) (fun c_20 => ?_) (fun c_20 => ?_)
                    · have nc_20 := (n_le (a := n) (b := j) hN rfl (by omega) (by omega)).mp c_20
                      have e8 : j = n := by omega
                      rw [e8] at hsj
                      refine lv_iinc (v := nI (k + 1)) (lv' := [(7, .int (nI (k + 1))), (10, .int (nI j)), (9, .int ((((((((yZ seed k)) * 16807) - (((yZ seed k)) * 16807) / 2147483647 * 2147483647) * 16807) - (((((yZ seed k)) * 16807) - (((yZ seed k)) * 16807) / 2147483647 * 2147483647) * 16807) / 2147483647 * 2147483647) - ((((((yZ seed k)) * 16807) - (((yZ seed k)) * 16807) / 2147483647 * 2147483647) * 16807) - (((((yZ seed k)) * 16807) - (((yZ seed k)) * 16807) / 2147483647 * 2147483647) * 16807) / 2147483647 * 2147483647) / 101 * 101 : Int64).toInt32)), (4, .long ((((((yZ seed k)) * 16807) - (((yZ seed k)) * 16807) / 2147483647 * 2147483647) * 16807) - (((((yZ seed k)) * 16807) - (((yZ seed k)) * 16807) / 2147483647 * 2147483647) * 16807) / 2147483647 * 2147483647)), (8, .int (nI (yQ (yZ seed k)))), (6, .int (sj)), (0, .ref (B + (0))), (1, .int (ny)), (2, .int (seed)), (3, .int (m))]) hx hb dX8_years_161 hl (k := 4) rfl (inc_nI _) (by decide) rfl (fun ls hl => ?_)
                      refine lv_goto (tgt := 60) hx hb dX8_years_164 (by decide) ?_
                      exact ih_60 _ (by omega) (k + 1) (sj) ((((((yZ seed k)) * 16807) - (((yZ seed k)) * 16807) / 2147483647 * 2147483647) * 16807) - (((((yZ seed k)) * 16807) - (((yZ seed k)) * 16807) / 2147483647 * 2147483647) * 16807) / 2147483647 * 2147483647) rfl ⟨by omega, by rw [hsj, yS, y_g hn8 hmm], rfl⟩ _ _ hX hS ls (lv_sub hl [0, 5, 3, 6, 7, 8, 9] rfl)
                    · have nc_20 := Nat.not_le.mp (fun q => c_20 ((n_le (a := n) (b := j) hN rfl (by omega) (by omega)).mpr q))
                      refine lv_iload hx hb dX8_years_122 (lv_at hl 5 rfl) ?_
                      refine lv_iload_n hx hb dX8_years_124 rfl (lv_at hl 9 rfl) ?_
                      refine lv_iconst (v := (-1)) hx hb dX8_years_125 (by decide) ?_
                      have kJ_23 : ∀ (v_22 : Int32) (_ : v_22 = (if m = ((-1)) then (sFree (x 5) n j (yQ (yZ seed k)) ((((((((yZ seed k)) * 16807) - (((yZ seed k)) * 16807) / 2147483647 * 2147483647) * 16807) - (((((yZ seed k)) * 16807) - (((yZ seed k)) * 16807) / 2147483647 * 2147483647) * 16807) / 2147483647 * 2147483647) - ((((((yZ seed k)) * 16807) - (((yZ seed k)) * 16807) / 2147483647 * 2147483647) * 16807) - (((((yZ seed k)) * 16807) - (((yZ seed k)) * 16807) / 2147483647 * 2147483647) * 16807) / 2147483647 * 2147483647) / 101 * 101 : Int64).toInt32) 0 hNo) else (if m = nI j then (sFree (x 5) n j (yQ (yZ seed k)) ((((((((yZ seed k)) * 16807) - (((yZ seed k)) * 16807) / 2147483647 * 2147483647) * 16807) - (((((yZ seed k)) * 16807) - (((yZ seed k)) * 16807) / 2147483647 * 2147483647) * 16807) / 2147483647 * 2147483647) - ((((((yZ seed k)) * 16807) - (((yZ seed k)) * 16807) / 2147483647 * 2147483647) * 16807) - (((((yZ seed k)) * 16807) - (((yZ seed k)) * 16807) / 2147483647 * 2147483647) * 16807) / 2147483647 * 2147483647) / 101 * 101 : Int64).toInt32) 0 hNo) else (0 : Int32)))) (H_24 : Heap) (lo_25 : List Loc) (_ : MR G (wM G B) x H_24) (_ : va_S (blkA B (B + 13)) ss.heap H_24 lo_25) (ls : Array Slot) (_ : lv_has ls 11 [(10, .int (nI j)), (9, .int ((((((((yZ seed k)) * 16807) - (((yZ seed k)) * 16807) / 2147483647 * 2147483647) * 16807) - (((((yZ seed k)) * 16807) - (((yZ seed k)) * 16807) / 2147483647 * 2147483647) * 16807) / 2147483647 * 2147483647) - ((((((yZ seed k)) * 16807) - (((yZ seed k)) * 16807) / 2147483647 * 2147483647) * 16807) - (((((yZ seed k)) * 16807) - (((yZ seed k)) * 16807) / 2147483647 * 2147483647) * 16807) / 2147483647 * 2147483647) / 101 * 101 : Int64).toInt32)), (4, .long ((((((yZ seed k)) * 16807) - (((yZ seed k)) * 16807) / 2147483647 * 2147483647) * 16807) - (((((yZ seed k)) * 16807) - (((yZ seed k)) * 16807) / 2147483647 * 2147483647) * 16807) / 2147483647 * 2147483647)), (8, .int (nI (yQ (yZ seed k)))), (7, .int (nI k)), (6, .int (sj)), (0, .ref (B + (0))), (1, .int (ny)), (2, .int (seed)), (3, .int (m))]), W pp l ee rmX8_years ss mm aa bb mt cd H_24 lo_25 0 0 Q (F0 mm 152 ls [.int (v_22), .int (sj)]) := by
                        intro v_22 ev_22 H_24 lo_25 hX hS ls hl
                        refine lv_iadd hx hb dX8_years_152 ?_
                        refine lv_istore (lv' := [(6, .int (sj + v_22)), (10, .int (nI j)), (9, .int ((((((((yZ seed k)) * 16807) - (((yZ seed k)) * 16807) / 2147483647 * 2147483647) * 16807) - (((((yZ seed k)) * 16807) - (((yZ seed k)) * 16807) / 2147483647 * 2147483647) * 16807) / 2147483647 * 2147483647) - ((((((yZ seed k)) * 16807) - (((yZ seed k)) * 16807) / 2147483647 * 2147483647) * 16807) - (((((yZ seed k)) * 16807) - (((yZ seed k)) * 16807) / 2147483647 * 2147483647) * 16807) / 2147483647 * 2147483647) / 101 * 101 : Int64).toInt32)), (4, .long ((((((yZ seed k)) * 16807) - (((yZ seed k)) * 16807) / 2147483647 * 2147483647) * 16807) - (((((yZ seed k)) * 16807) - (((yZ seed k)) * 16807) / 2147483647 * 2147483647) * 16807) / 2147483647 * 2147483647)), (8, .int (nI (yQ (yZ seed k)))), (7, .int (nI k)), (0, .ref (B + (0))), (1, .int (ny)), (2, .int (seed)), (3, .int (m))]) hx hb dX8_years_153 hl (by decide) rfl (fun ls hl => ?_)
                        refine lv_iinc (v := nI (j + 1)) (lv' := [(10, .int (nI (j + 1))), (6, .int (sj + v_22)), (9, .int ((((((((yZ seed k)) * 16807) - (((yZ seed k)) * 16807) / 2147483647 * 2147483647) * 16807) - (((((yZ seed k)) * 16807) - (((yZ seed k)) * 16807) / 2147483647 * 2147483647) * 16807) / 2147483647 * 2147483647) - ((((((yZ seed k)) * 16807) - (((yZ seed k)) * 16807) / 2147483647 * 2147483647) * 16807) - (((((yZ seed k)) * 16807) - (((yZ seed k)) * 16807) / 2147483647 * 2147483647) * 16807) / 2147483647 * 2147483647) / 101 * 101 : Int64).toInt32)), (4, .long ((((((yZ seed k)) * 16807) - (((yZ seed k)) * 16807) / 2147483647 * 2147483647) * 16807) - (((((yZ seed k)) * 16807) - (((yZ seed k)) * 16807) / 2147483647 * 2147483647) * 16807) / 2147483647 * 2147483647)), (8, .int (nI (yQ (yZ seed k)))), (7, .int (nI k)), (0, .ref (B + (0))), (1, .int (ny)), (2, .int (seed)), (3, .int (m))]) hx hb dX8_years_155 hl (k := 1) rfl (inc_nI _) (by decide) rfl (fun ls hl => ?_)
                        refine lv_goto (tgt := 111) hx hb dX8_years_158 (by decide) ?_
                        exact ih_111 _ (by omega) (j + 1) (sj + v_22) rfl ⟨by omega, by rw [ev_22, hsj, sumN, Int32.add_assoc]; rfl⟩ _ _ hX hS ls (lv_sub hl [0, 2, 3, 4, 5, 1, 6, 7, 8, 9] rfl)
                      refine lv_icmp_eq (tgt := 135) hx hb dX8_years_126 (by decide) (fun c_21 => ?_) (fun c_21 => ?_)
                      · refine lv_aload_n hx hb dX8_years_135 rfl (lv_at hl 6 rfl) ?_
                        refine lv_iload hx hb dX8_years_136 (lv_at hl 0 rfl) ?_
                        refine lv_iload hx hb dX8_years_138 (lv_at hl 3 rfl) ?_
                        refine lv_iload hx hb dX8_years_140 (lv_at hl 1 rfl) ?_
                        refine lv_iconst (v := 0) hx hb dX8_years_142 (by decide) ?_
                        refine lv_ldc (v := (-1000000)) hx hb hown (hts _ kX8_years_215) dX8_years_143 ?_
                        refine x_ip (w := (wM G B)) (x := x) (v := sFree (x 5) n j (yQ (yZ seed k)) ((((((((yZ seed k)) * 16807) - (((yZ seed k)) * 16807) / 2147483647 * 2147483647) * 16807) - (((((yZ seed k)) * 16807) - (((yZ seed k)) * 16807) / 2147483647 * 2147483647) * 16807) / 2147483647 * 2147483647) - ((((((yZ seed k)) * 16807) - (((yZ seed k)) * 16807) / 2147483647 * 2147483647) * 16807) - (((((yZ seed k)) * 16807) - (((yZ seed k)) * 16807) / 2147483647 * 2147483647) * 16807) / 2147483647 * 2147483647) / 101 * 101 : Int64).toInt32) 0 hNo) (va_runV (As := [.int (nI j), .int (nI (yQ (yZ seed k))), .int ((((((((yZ seed k)) * 16807) - (((yZ seed k)) * 16807) / 2147483647 * 2147483647) * 16807) - (((((yZ seed k)) * 16807) - (((yZ seed k)) * 16807) / 2147483647 * 2147483647) * 16807) / 2147483647 * 2147483647) - ((((((yZ seed k)) * 16807) - (((yZ seed k)) * 16807) / 2147483647 * 2147483647) * 16807) - (((((yZ seed k)) * 16807) - (((yZ seed k)) * 16807) / 2147483647 * 2147483647) * 16807) / 2147483647 * 2147483647) / 101 * 101 : Int64).toInt32), .int (0), .int ((-1000000))]) (rest := [.int (sj)]) ⟨hx, hb, hml, hown, hts⟩ (c_X8_grindsFree (l := l) (G := G) (B := B) (hW := hW) (x := x) (ml := j) (q := yQ (yZ seed k)) (w := (((((((yZ seed k)) * 16807) - (((yZ seed k)) * 16807) / 2147483647 * 2147483647) * 16807) - (((((yZ seed k)) * 16807) - (((yZ seed k)) * 16807) / 2147483647 * 2147483647) * 16807) / 2147483647 * 2147483647) - ((((((yZ seed k)) * 16807) - (((yZ seed k)) * 16807) / 2147483647 * 2147483647) * 16807) - (((((yZ seed k)) * 16807) - (((yZ seed k)) * 16807) / 2147483647 * 2147483647) * 16807) / 2147483647 * 2147483647) / 101 * 101 : Int64).toInt32) (s := 0) (h := hNo) (n := n) (hN := hN) (hn8 := hn8) (hml9 := (by omega)) (hq := (by omega)) (hs := (by omega))) (cwV 5 hts gX8_years_X8_grindsFree rfl rfl rfl (by decide +kernel) ⟨Nat.le_of_ble_eq_true rfl, Nat.le_of_ble_eq_true rfl⟩) (x_pv (w := (wM G B)) (a := 0) hW hX hK hE hS [.int (nI j), .int (nI (yQ (yZ seed k))), .int ((((((((yZ seed k)) * 16807) - (((yZ seed k)) * 16807) / 2147483647 * 2147483647) * 16807) - (((((yZ seed k)) * 16807) - (((yZ seed k)) * 16807) / 2147483647 * 2147483647) * 16807) / 2147483647 * 2147483647) - ((((((yZ seed k)) * 16807) - (((yZ seed k)) * 16807) / 2147483647 * 2147483647) * 16807) - (((((yZ seed k)) * 16807) - (((yZ seed k)) * 16807) / 2147483647 * 2147483647) * 16807) / 2147483647 * 2147483647) / 101 * 101 : Int64).toInt32), .int (0), .int ((-1000000))] (Nat.le_of_ble_eq_true rfl) (shM_0 (G := G) (B := B)) rfl) rfl rfl hl.1 rfl (lv_room (Nat.le_of_ble_eq_true rfl)) dX8_years_145 ⟨Nat.zero_le _, Nat.zero_le _⟩) hS (fun H_26 lo_27 hX hS => ?_)
                        refine lv_goto (tgt := 152) hx hb dX8_years_148 (by decide) ?_
                        exact kJ_23 (sFree (x 5) n j (yQ (yZ seed k)) ((((((((yZ seed k)) * 16807) - (((yZ seed k)) * 16807) / 2147483647 * 2147483647) * 16807) - (((((yZ seed k)) * 16807) - (((yZ seed k)) * 16807) / 2147483647 * 2147483647) * 16807) / 2147483647 * 2147483647) - ((((((yZ seed k)) * 16807) - (((yZ seed k)) * 16807) / 2147483647 * 2147483647) * 16807) - (((((yZ seed k)) * 16807) - (((yZ seed k)) * 16807) / 2147483647 * 2147483647) * 16807) / 2147483647 * 2147483647) / 101 * 101 : Int64).toInt32) 0 hNo) (by rw [if_pos c_21]) _ _ hX hS ls (lv_sub hl [0, 1, 2, 3, 4, 5, 6, 7, 8, 9] rfl)
                      · refine lv_iload_n hx hb dX8_years_129 rfl (lv_at hl 9 rfl) ?_
                        refine lv_iload hx hb dX8_years_130 (lv_at hl 0 rfl) ?_
                        refine lv_icmp_ne (tgt := 151) hx hb dX8_years_132 (by decide) (fun c_28 => ?_) (fun c_28 => ?_)
                        · refine lv_iconst (v := 0) hx hb dX8_years_151 (by decide) ?_
                          exact kJ_23 (0) (by rw [if_neg c_21, if_neg c_28]) _ _ hX hS ls (lv_sub hl [0, 1, 2, 3, 4, 5, 6, 7, 8, 9] rfl)
                        · refine lv_aload_n hx hb dX8_years_135 rfl (lv_at hl 6 rfl) ?_
                          refine lv_iload hx hb dX8_years_136 (lv_at hl 0 rfl) ?_
                          refine lv_iload hx hb dX8_years_138 (lv_at hl 3 rfl) ?_
                          refine lv_iload hx hb dX8_years_140 (lv_at hl 1 rfl) ?_
                          refine lv_iconst (v := 0) hx hb dX8_years_142 (by decide) ?_
                          refine lv_ldc (v := (-1000000)) hx hb hown (hts _ kX8_years_215) dX8_years_143 ?_
                          refine x_ip (w := (wM G B)) (x := x) (v := sFree (x 5) n j (yQ (yZ seed k)) ((((((((yZ seed k)) * 16807) - (((yZ seed k)) * 16807) / 2147483647 * 2147483647) * 16807) - (((((yZ seed k)) * 16807) - (((yZ seed k)) * 16807) / 2147483647 * 2147483647) * 16807) / 2147483647 * 2147483647) - ((((((yZ seed k)) * 16807) - (((yZ seed k)) * 16807) / 2147483647 * 2147483647) * 16807) - (((((yZ seed k)) * 16807) - (((yZ seed k)) * 16807) / 2147483647 * 2147483647) * 16807) / 2147483647 * 2147483647) / 101 * 101 : Int64).toInt32) 0 hNo) (va_runV (As := [.int (nI j), .int (nI (yQ (yZ seed k))), .int ((((((((yZ seed k)) * 16807) - (((yZ seed k)) * 16807) / 2147483647 * 2147483647) * 16807) - (((((yZ seed k)) * 16807) - (((yZ seed k)) * 16807) / 2147483647 * 2147483647) * 16807) / 2147483647 * 2147483647) - ((((((yZ seed k)) * 16807) - (((yZ seed k)) * 16807) / 2147483647 * 2147483647) * 16807) - (((((yZ seed k)) * 16807) - (((yZ seed k)) * 16807) / 2147483647 * 2147483647) * 16807) / 2147483647 * 2147483647) / 101 * 101 : Int64).toInt32), .int (0), .int ((-1000000))]) (rest := [.int (sj)]) ⟨hx, hb, hml, hown, hts⟩ (c_X8_grindsFree (l := l) (G := G) (B := B) (hW := hW) (x := x) (ml := j) (q := yQ (yZ seed k)) (w := (((((((yZ seed k)) * 16807) - (((yZ seed k)) * 16807) / 2147483647 * 2147483647) * 16807) - (((((yZ seed k)) * 16807) - (((yZ seed k)) * 16807) / 2147483647 * 2147483647) * 16807) / 2147483647 * 2147483647) - ((((((yZ seed k)) * 16807) - (((yZ seed k)) * 16807) / 2147483647 * 2147483647) * 16807) - (((((yZ seed k)) * 16807) - (((yZ seed k)) * 16807) / 2147483647 * 2147483647) * 16807) / 2147483647 * 2147483647) / 101 * 101 : Int64).toInt32) (s := 0) (h := hNo) (n := n) (hN := hN) (hn8 := hn8) (hml9 := (by omega)) (hq := (by omega)) (hs := (by omega))) (cwV 5 hts gX8_years_X8_grindsFree rfl rfl rfl (by decide +kernel) ⟨Nat.le_of_ble_eq_true rfl, Nat.le_of_ble_eq_true rfl⟩) (x_pv (w := (wM G B)) (a := 0) hW hX hK hE hS [.int (nI j), .int (nI (yQ (yZ seed k))), .int ((((((((yZ seed k)) * 16807) - (((yZ seed k)) * 16807) / 2147483647 * 2147483647) * 16807) - (((((yZ seed k)) * 16807) - (((yZ seed k)) * 16807) / 2147483647 * 2147483647) * 16807) / 2147483647 * 2147483647) - ((((((yZ seed k)) * 16807) - (((yZ seed k)) * 16807) / 2147483647 * 2147483647) * 16807) - (((((yZ seed k)) * 16807) - (((yZ seed k)) * 16807) / 2147483647 * 2147483647) * 16807) / 2147483647 * 2147483647) / 101 * 101 : Int64).toInt32), .int (0), .int ((-1000000))] (Nat.le_of_ble_eq_true rfl) (shM_0 (G := G) (B := B)) rfl) rfl rfl hl.1 rfl (lv_room (Nat.le_of_ble_eq_true rfl)) dX8_years_145 ⟨Nat.zero_le _, Nat.zero_le _⟩) hS (fun H_29 lo_30 hX hS => ?_)
                          refine lv_goto (tgt := 152) hx hb dX8_years_148 (by decide) ?_
                          exact kJ_23 (sFree (x 5) n j (yQ (yZ seed k)) ((((((((yZ seed k)) * 16807) - (((yZ seed k)) * 16807) / 2147483647 * 2147483647) * 16807) - (((((yZ seed k)) * 16807) - (((yZ seed k)) * 16807) / 2147483647 * 2147483647) * 16807) / 2147483647 * 2147483647) - ((((((yZ seed k)) * 16807) - (((yZ seed k)) * 16807) / 2147483647 * 2147483647) * 16807) - (((((yZ seed k)) * 16807) - (((yZ seed k)) * 16807) / 2147483647 * 2147483647) * 16807) / 2147483647 * 2147483647) / 101 * 101 : Int64).toInt32) 0 hNo) (by rw [if_neg c_21, if_pos c_28]) _ _ hX hS ls (lv_sub hl [0, 1, 2, 3, 4, 5, 6, 7, 8, 9] rfl)
                exact L_17 _ (0) (sm) rfl ⟨Nat.zero_le _, by rw [hsm]; exact (Int32.add_zero _).symm⟩ _ _ hX hS ls (lv_sub hl [0, 1, 2, 3, 4, 5, 6, 7, 8, 9] rfl)
          exact L_13 _ (0) (0) ((seed : Int32).toInt64) rfl ⟨Nat.zero_le _, rfl, rfl⟩ _ _ hX hS ls (lv_sub hl [0, 1, 2, 3, 4, 5, 6] rfl)
        refine lv_icmp_eq (tgt := 50) hx hb dX8_years_36 (by decide) (fun c_31 => ?_) (fun c_31 => ?_)
        · have hask : (decide (m = -1) || (decide (0 ≤ m) && decide (m < nI n))) = true := by rw [decide_eq_true c_31]; rfl
          have hmm : m = -1 ∨ ∃ j, j < n ∧ m = nI j := Or.inl c_31
          exact K_10  ⟨hask, hmm⟩ _ _ hX hS ls (lv_sub hl [0, 1, 2, 3] rfl)
        · refine lv_aload_n hx hb dX8_years_39 rfl (lv_at hl 0 rfl) ?_
          refine lv_iload_n hx hb dX8_years_40 rfl (lv_at hl 3 rfl) ?_
          refine x_ip (w := (wM G B)) (x := x) (v := bI (decide (0 ≤ m) && decide (m < nI n))) (va_runV (As := [.int (m)]) (rest := []) ⟨hx, hb, hml, hown, hts⟩ (c_X8_isMill (l := l) (G := G) (B := B) (hW := hW) (x := x) (v := m) (n := n) (hN := hN) (hn8 := hn8)) (cwV 1 hts gX8_years_X8_isMill rfl rfl rfl (by decide +kernel) ⟨Nat.le_of_ble_eq_true rfl, Nat.le_of_ble_eq_true rfl⟩) (x_pv (w := (wM G B)) (a := 0) hW hX hK hE hS [.int (m)] (Nat.le_of_ble_eq_true rfl) (shM_0 (G := G) (B := B)) rfl) rfl rfl hl.1 rfl (lv_room (Nat.le_of_ble_eq_true rfl)) dX8_years_41 ⟨Nat.zero_le _, Nat.zero_le _⟩) hS (fun H_32 lo_33 hX hS => ?_)
          refine x_ifne (tgt := 50) hx hb dX8_years_44 (by decide) (fun c_34 => ?_) (fun c_34 => ?_)
          · have hask : (decide (m = -1) || (decide (0 ≤ m) && decide (m < nI n))) = true := by rw [c_34, Bool.or_true]
            have hmm : m = -1 ∨ ∃ j, j < n ∧ m = nI j := Or.inr (let z := hasM (c := nI n) rfl hn8 c_34; ⟨tn m, z.2, z.1⟩)
            exact K_10  ⟨hask, hmm⟩ _ _ hX hS ls (lv_sub hl [0, 1, 2, 3] rfl)
          · refine lv_ldc (v := (-1000001)) hx hb hown (hts _ kX8_years_63) dX8_years_47 ?_
            rw [← hQ]
            refine x_iret (v := (-1000001)) hx hb hr hX hS hlocks dX8_years_49 ?_
            show PT_X8_years _ _ _ _ _ _ _
            unfold PT_X8_years
            rw [if_pos c_3, if_neg (ne_of_true c_6), if_neg (ne_of_true c_9), if_neg (show ¬ (decide (m = -1) || (decide (0 ≤ m) && decide (m < nI n))) = true by rw [decide_eq_false c_31, c_34]; decide)]
            exact ⟨rfl, rfl⟩
  · refine lv_ldc (v := (-1000002)) hx hb hown (hts _ kX8_years_185) dX8_years_7 ?_
    rw [← hQ]
    refine x_iret (v := (-1000002)) hx hb hr hX hS hlocks dX8_years_9 ?_
    show PT_X8_years _ _ _ _ _ _ _
    unfold PT_X8_years
    rw [if_neg (ne_of_true c_3)]
    exact ⟨rfl, rfl⟩

def PT_X8_count (x : Mem) (wh : Int32) (n : Nat) (r : Int32) (u : Mem) : Prop := (if wh = 0 then (r = nI (cntN (fun j => !decide (x 1 j < 0)) 8) ∧ u = x) else (if wh = 1 then (r = x (5) 0 ∧ u = x) else (if wh = 2 then (r = x (5) 1 ∧ u = x) else (if wh = 3 then (r = sumN (fun j => sF (x 5) j 4) n ∧ u = x) else (if wh = 4 then (r = sumN (fun j => sF (x 5) j 7) n ∧ u = x) else (if wh = 5 then (r = x (0) 4 ∧ u = x) else (r = (-1000001) ∧ u = x)))))))
theorem kX8_count_22 : (.fieldLink RX8 22 "WindTakenModel" "now" "[I" : Cond) ∈ wsX8_count := by decide +kernel
theorem iX8_count_X8 : ∀ w ∈ wsX80, w ∈ wsX8_count := by decide +kernel
theorem kX8_count_82 : (.fieldLink RX8 82 "WindTakenModel" "tapeLong" "I" : Cond) ∈ wsX8_count := by decide +kernel
theorem kX8_count_63 : (.constant RX8 63 (-1000001) : Cond) ∈ wsX8_count := by decide +kernel
abbrev rmX8_count : Room := { frames := 1, cells := 0, slots := 0, locals := 22 }
set_option maxHeartbeats 4000000 in
set_option maxRecDepth 100000 in
theorem c_X8_count (l : Launch) (G : GG) (B : Nat) (hW : WOK (wM G B)) (x : Mem) (wh : Int32) {n : Nat} (hN : x 5 0 = nI n) (hn8 : n ≤ 8) : Met l yX8_count wsX8_count rmX8_count (XP G (wM G B) [.ref (B + (0)), .int (wh)] x) (va_Qi (fun r u => PT_X8_count x wh n r u) (XB G (wM G B)) (blkA B (B + 13))) 0 0 (blkA B (B + 13)) := by
  refine Met.ofW (cc := cX8_count) (maxL := 4) (ret := (some .int)) (by decide) rfl ?_
  intro pp ee ss mm aa bb mt cd s1 Bd hml hv
  obtain ⟨hae, hX, hK, hE⟩ := hv
  have hx := Bd.exec
  have hb := Bd.bytes
  have hr := Bd.returns
  have hts := atoms_spec (ws := wsX8_count) Bd.pre
  have hown : ss.vm.findClass RX8 = some mm.cls := findClass_of_methodNamed Bd.named
  have hlocks := Bd.notSynchronized
  have hS : va_S (blkA B (B + 13)) ss.heap ss.heap [] := va_S.rf
  have hl := lv_entry ([.ref (B + (0)), .int (wh)]) (n := 4) (Nat.le_of_ble_eq_true rfl)
  subst hae
  rw [lg_entry_eq]
  generalize (lg_sl ([.ref (B + (0)), .int (wh)]) ++ List.replicate (4 - (lg_sl ([.ref (B + (0)), .int (wh)])).length) Slot.unset).toArray = ls at hl ⊢
  have hl : lv_has ls 4 [(0, .ref (B + (0))), (1, .int (wh))] := hl
  generalize ([.ref (B + (0)), .int (wh)] : List Value).toArray = aa at hts ⊢
  show W pp l ee rmX8_count ss mm aa bb mt cd ss.heap [] 0 0 _ (F0 mm 0 ls [])
  generalize hQ : MQ bb (va_Qi (fun r u => PT_X8_count x wh n r u) (XB G (wM G B)) (blkA B (B + 13))) aa ss 0 0 (blkA B (B + 13)) = Q
  refine lv_iconst (v := 0) hx hb dX8_count_0 (by decide) ?_
  refine lv_istore_n (lv' := [(2, .int (0)), (0, .ref (B + (0))), (1, .int (wh))]) hx hb dX8_count_1 rfl hl (by decide) rfl (fun ls hl => ?_)
  refine lv_iload_n hx hb dX8_count_2 rfl (lv_at hl 2 rfl) ?_
  by_cases c_2 : wh = 0
  · subst c_2
    refine lv_tableIn (tgt := 40) (off := 37) hx hb dX8_count_3 (by decide) (by decide) rfl (by decide) ?_
    refine lv_iconst (v := 0) hx hb dX8_count_40 (by decide) ?_
    refine lv_istore_n (lv' := [(3, .int (0)), (2, .int (0)), (0, .ref (B + (0))), (1, .int (0))]) hx hb dX8_count_41 rfl hl (by decide) rfl (fun ls hl => ?_)
    have L_3 : ∀ (n9 : Nat) (i : Nat) (sm : Int32)  (_ : n9 = 8 - i) (_ : i ≤ 8 ∧ sm = nI (cntN (fun j => !decide (x 1 j < 0)) i)) (H_4 : Heap) (lo_5 : List Loc) (_ : MR G (wM G B) x H_4) (_ : va_S (blkA B (B + 13)) ss.heap H_4 lo_5) (ls : Array Slot) (_ : lv_has ls 4 [(3, .int (nI i)), (2, .int (sm)), (0, .ref (B + (0))), (1, .int (0))]), W pp l ee rmX8_count ss mm aa bb mt cd H_4 lo_5 0 0 Q (F0 mm 42 ls []) := by
      intro n9
      induction n9 using Nat.strongRecOn with
      | _ n9 ih => 
        have ih_42 := ih
        intro i sm hn9 hI H_4 lo_5 hX hS ls hl
        obtain ⟨hi, hsm⟩ := hI
        refine lv_iload_n hx hb dX8_count_42 rfl (lv_at hl 0 rfl) ?_
        refine lv_bipush (v := 8) hx hb dX8_count_43 (by decide) ?_
        refine lv_icmp_ge (tgt := 70) hx hb dX8_count_45 (by decide) (fun c_6 => ?_) (fun c_6 => ?_)
        · have nc_6 := (n_le (a := 8) (b := i) rfl rfl (by omega) (by omega)).mp c_6
          refine lv_iload_n hx hb dX8_count_70 rfl (lv_at hl 1 rfl) ?_
          rw [← hQ]
          refine x_iret (v := sm) hx hb hr hX hS hlocks dX8_count_71 ?_
          show PT_X8_count _ _ _ _ _
          unfold PT_X8_count
          rw [if_pos rfl]
          have e9 : i = 8 := by omega
          exact ⟨by rw [hsm, e9], rfl⟩
        · have nc_6 := Nat.not_le.mp (fun q => c_6 ((n_le (a := 8) (b := i) rfl rfl (by omega) (by omega)).mpr q))
          refine lv_iload_n hx hb dX8_count_48 rfl (lv_at hl 1 rfl) ?_
          refine lv_aload_n hx hb dX8_count_49 rfl (lv_at hl 2 rfl) ?_
          refine lv_iload_n hx hb dX8_count_50 rfl (lv_at hl 0 rfl) ?_
          refine x_ip (w := (wM G B)) (x := x) (v := bI (decide (x 1 i < 0))) (va_runV (As := [.int (nI i)]) (rest := [.int (sm)]) ⟨hx, hb, hml, hown, hts⟩ (c_X8_isMissing (l := l) (G := G) (B := B) (hW := hW) (x := x) (i := i) (hi := (by omega))) (cwV 1 hts gX8_count_X8_isMissing rfl rfl rfl (by decide +kernel) ⟨Nat.le_of_ble_eq_true rfl, Nat.le_of_ble_eq_true rfl⟩) (x_pv (w := (wM G B)) (a := 0) hW hX hK hE hS [.int (nI i)] (Nat.le_of_ble_eq_true rfl) (shM_0 (G := G) (B := B)) rfl) rfl rfl hl.1 rfl (lv_room (Nat.le_of_ble_eq_true rfl)) dX8_count_51 ⟨Nat.zero_le _, Nat.zero_le _⟩) hS (fun H_7 lo_8 hX hS => ?_)
          have kJ_11 : ∀ (v_10 : Bool) (_ : v_10 = (if (decide (x 1 i < 0)) = false then true else false)) (H_12 : Heap) (lo_13 : List Loc) (_ : MR G (wM G B) x H_12) (_ : va_S (blkA B (B + 13)) ss.heap H_12 lo_13) (ls : Array Slot) (_ : lv_has ls 4 [(3, .int (nI i)), (2, .int (sm)), (0, .ref (B + (0))), (1, .int (0))]), W pp l ee rmX8_count ss mm aa bb mt cd H_12 lo_13 0 0 Q (F0 mm 62 ls [.int (bI (v_10)), .int (sm)]) := by
            intro v_10 ev_10 H_12 lo_13 hX hS ls hl
            refine lv_iadd hx hb dX8_count_62 ?_
            refine lv_istore_n (lv' := [(2, .int (sm + (bI (v_10)))), (3, .int (nI i)), (0, .ref (B + (0))), (1, .int (0))]) hx hb dX8_count_63 rfl hl (by decide) rfl (fun ls hl => ?_)
            refine lv_iinc (v := nI (i + 1)) (lv' := [(3, .int (nI (i + 1))), (2, .int (sm + (bI (v_10)))), (0, .ref (B + (0))), (1, .int (0))]) hx hb dX8_count_64 hl (k := 1) rfl (inc_nI _) (by decide) rfl (fun ls hl => ?_)
            refine lv_goto (tgt := 42) hx hb dX8_count_67 (by decide) ?_
            exact ih_42 _ (by omega) (i + 1) (sm + (bI (v_10))) rfl ⟨by omega, by rw [hsm, ev_10, cntN]; cases decide (x 1 i < 0) <;> first | exact n_add (y := 1) (b := 1) rfl rfl | exact Int32.add_zero _⟩ _ _ hX hS ls (lv_sub hl [0, 1, 2, 3] rfl)
          refine x_ifeq (tgt := 61) hx hb dX8_count_54 (by decide) (fun c_9 => ?_) (fun c_9 => ?_)
          · refine lv_iconst (v := 1) hx hb dX8_count_61 (by decide) ?_
            exact kJ_11 (true) (by rw [if_pos c_9]) _ _ hX hS ls (lv_sub hl [0, 1, 2, 3] rfl)
          · refine lv_iconst (v := 0) hx hb dX8_count_57 (by decide) ?_
            refine lv_goto (tgt := 62) hx hb dX8_count_58 (by decide) ?_
            exact kJ_11 (false) (by rw [if_neg (ne_of_true c_9)]) _ _ hX hS ls (lv_sub hl [0, 1, 2, 3] rfl)
    exact L_3 _ (0) (0) rfl ⟨Nat.zero_le _, rfl⟩ _ _ hX hS ls (lv_sub hl [0, 1, 2, 3] rfl)
  by_cases c_14 : wh = 1
  · subst c_14
    refine lv_tableIn (tgt := 72) (off := 69) hx hb dX8_count_3 (by decide) (by decide) rfl (by decide) ?_
    refine lv_aload_n hx hb dX8_count_72 rfl (lv_at hl 1 rfl) ?_
    refine x_get (w := (wM G B)) (a := 0) (v := .ref (B + (5))) hx hb hts iX8_count_X8 hown hK hX (Nat.le_of_ble_eq_true rfl) (shM_0 (G := G) (B := B)) rfl 7 (by decide) (hts _ kX8_count_22) (fun _ h9 => h9) rfl dX8_count_73 ?_
    refine lv_iconst (v := 0) hx hb dX8_count_76 (by decide) ?_
    refine x_iald (w := (wM G B)) (a := 5) (n := 93) (j := 0) hx hb hK hX (Nat.le_of_ble_eq_true rfl) (shM_a (G := G) (B := B) (a := 5) (f := x (5)) (by decide)) rfl (by decide) (by decide) dX8_count_77 ?_
    rw [← hQ]
    refine x_iret (v := x (5) 0) hx hb hr hX hS hlocks dX8_count_78 ?_
    show PT_X8_count _ _ _ _ _
    unfold PT_X8_count
    rw [if_neg (by decide), if_pos rfl]
    exact ⟨rfl, rfl⟩
  by_cases c_15 : wh = 2
  · subst c_15
    refine lv_tableIn (tgt := 79) (off := 76) hx hb dX8_count_3 (by decide) (by decide) rfl (by decide) ?_
    refine lv_aload_n hx hb dX8_count_79 rfl (lv_at hl 1 rfl) ?_
    refine x_get (w := (wM G B)) (a := 0) (v := .ref (B + (5))) hx hb hts iX8_count_X8 hown hK hX (Nat.le_of_ble_eq_true rfl) (shM_0 (G := G) (B := B)) rfl 7 (by decide) (hts _ kX8_count_22) (fun _ h9 => h9) rfl dX8_count_80 ?_
    refine lv_iconst (v := 1) hx hb dX8_count_83 (by decide) ?_
    refine x_iald (w := (wM G B)) (a := 5) (n := 93) (j := 1) hx hb hK hX (Nat.le_of_ble_eq_true rfl) (shM_a (G := G) (B := B) (a := 5) (f := x (5)) (by decide)) rfl (by decide) (by decide) dX8_count_84 ?_
    rw [← hQ]
    refine x_iret (v := x (5) 1) hx hb hr hX hS hlocks dX8_count_85 ?_
    show PT_X8_count _ _ _ _ _
    unfold PT_X8_count
    rw [if_neg (by decide), if_neg (by decide), if_pos rfl]
    exact ⟨rfl, rfl⟩
  by_cases c_16 : wh = 3
  · subst c_16
    refine lv_tableIn (tgt := 86) (off := 83) hx hb dX8_count_3 (by decide) (by decide) rfl (by decide) ?_
    refine lv_iconst (v := 0) hx hb dX8_count_86 (by decide) ?_
    refine lv_istore_n (lv' := [(3, .int (0)), (2, .int (0)), (0, .ref (B + (0))), (1, .int (3))]) hx hb dX8_count_87 rfl hl (by decide) rfl (fun ls hl => ?_)
    have L_17 : ∀ (n9 : Nat) (i : Nat) (sm : Int32)  (_ : n9 = n - i) (_ : i ≤ n ∧ sm = sumN (fun j => sF (x 5) j 4) i) (H_18 : Heap) (lo_19 : List Loc) (_ : MR G (wM G B) x H_18) (_ : va_S (blkA B (B + 13)) ss.heap H_18 lo_19) (ls : Array Slot) (_ : lv_has ls 4 [(3, .int (nI i)), (2, .int (sm)), (0, .ref (B + (0))), (1, .int (3))]), W pp l ee rmX8_count ss mm aa bb mt cd H_18 lo_19 0 0 Q (F0 mm 88 ls []) := by
      intro n9
      induction n9 using Nat.strongRecOn with
      | _ n9 ih => 
        have ih_88 := ih
        intro i sm hn9 hI H_18 lo_19 hX hS ls hl
        obtain ⟨hi, hsm⟩ := hI
        refine lv_iload_n hx hb dX8_count_88 rfl (lv_at hl 0 rfl) ?_
        refine lv_aload_n hx hb dX8_count_89 rfl (lv_at hl 2 rfl) ?_
        refine x_get (w := (wM G B)) (a := 0) (v := .ref (B + (5))) hx hb hts iX8_count_X8 hown hK hX (Nat.le_of_ble_eq_true rfl) (shM_0 (G := G) (B := B)) rfl 7 (by decide) (hts _ kX8_count_22) (fun _ h9 => h9) rfl dX8_count_90 ?_
        refine lv_iconst (v := 0) hx hb dX8_count_93 (by decide) ?_
        refine x_iald (w := (wM G B)) (a := 5) (n := 93) (j := 0) hx hb hK hX (Nat.le_of_ble_eq_true rfl) (shM_a (G := G) (B := B) (a := 5) (f := x (5)) (by decide)) rfl (by decide) (by decide) dX8_count_94 ?_
        refine lv_icmp_ge (tgt := 113) hx hb dX8_count_95 (by decide) (fun c_20 => ?_) (fun c_20 => ?_)
        · have nc_20 := (n_le (a := n) (b := i) hN rfl (by omega) (by omega)).mp c_20
          refine lv_iload_n hx hb dX8_count_113 rfl (lv_at hl 1 rfl) ?_
          rw [← hQ]
          refine x_iret (v := sm) hx hb hr hX hS hlocks dX8_count_114 ?_
          show PT_X8_count _ _ _ _ _
          unfold PT_X8_count
          rw [if_neg (by decide), if_neg (by decide), if_neg (by decide), if_pos rfl]
          have e9 : i = n := by omega
          exact ⟨by rw [hsm, e9], rfl⟩
        · have nc_20 := Nat.not_le.mp (fun q => c_20 ((n_le (a := n) (b := i) hN rfl (by omega) (by omega)).mpr q))
          refine lv_iload_n hx hb dX8_count_98 rfl (lv_at hl 1 rfl) ?_
          refine lv_aload_n hx hb dX8_count_99 rfl (lv_at hl 2 rfl) ?_
          refine lv_iload_n hx hb dX8_count_100 rfl (lv_at hl 0 rfl) ?_
          refine lv_iconst (v := 4) hx hb dX8_count_101 (by decide) ?_
          refine x_ip (w := (wM G B)) (x := x) (v := sF (x 5) i 4) (va_runV (As := [.int (nI i), .int (4)]) (rest := [.int (sm)]) ⟨hx, hb, hml, hown, hts⟩ (c_X8_of (l := l) (G := G) (B := B) (hW := hW) (x := x) (ml := i) (k := 4) (hml9 := (by omega)) (hk10 := (by omega))) (cwV 2 hts gX8_count_X8_of rfl rfl rfl (by decide +kernel) ⟨Nat.le_of_ble_eq_true rfl, Nat.le_of_ble_eq_true rfl⟩) (x_pv (w := (wM G B)) (a := 0) hW hX hK hE hS [.int (nI i), .int (4)] (Nat.le_of_ble_eq_true rfl) (shM_0 (G := G) (B := B)) rfl) rfl rfl hl.1 rfl (lv_room (Nat.le_of_ble_eq_true rfl)) dX8_count_102 ⟨Nat.zero_le _, Nat.zero_le _⟩) hS (fun H_21 lo_22 hX hS => ?_)
          refine lv_iadd hx hb dX8_count_105 ?_
          refine lv_istore_n (lv' := [(2, .int (sm + (sF (x 5) i 4))), (3, .int (nI i)), (0, .ref (B + (0))), (1, .int (3))]) hx hb dX8_count_106 rfl hl (by decide) rfl (fun ls hl => ?_)
          refine lv_iinc (v := nI (i + 1)) (lv' := [(3, .int (nI (i + 1))), (2, .int (sm + (sF (x 5) i 4))), (0, .ref (B + (0))), (1, .int (3))]) hx hb dX8_count_107 hl (k := 1) rfl (inc_nI _) (by decide) rfl (fun ls hl => ?_)
          refine lv_goto (tgt := 88) hx hb dX8_count_110 (by decide) ?_
          exact ih_88 _ (by omega) (i + 1) (sm + (sF (x 5) i 4)) rfl ⟨by omega, by rw [sumN, ← hsm]⟩ _ _ hX hS ls (lv_sub hl [0, 1, 2, 3] rfl)
    exact L_17 _ (0) (0) rfl ⟨Nat.zero_le _, rfl⟩ _ _ hX hS ls (lv_sub hl [0, 1, 2, 3] rfl)
  by_cases c_23 : wh = 4
  · subst c_23
    refine lv_tableIn (tgt := 115) (off := 112) hx hb dX8_count_3 (by decide) (by decide) rfl (by decide) ?_
    refine lv_iconst (v := 0) hx hb dX8_count_115 (by decide) ?_
    refine lv_istore_n (lv' := [(3, .int (0)), (2, .int (0)), (0, .ref (B + (0))), (1, .int (4))]) hx hb dX8_count_116 rfl hl (by decide) rfl (fun ls hl => ?_)
    have L_24 : ∀ (n9 : Nat) (i : Nat) (sm : Int32)  (_ : n9 = n - i) (_ : i ≤ n ∧ sm = sumN (fun j => sF (x 5) j 7) i) (H_25 : Heap) (lo_26 : List Loc) (_ : MR G (wM G B) x H_25) (_ : va_S (blkA B (B + 13)) ss.heap H_25 lo_26) (ls : Array Slot) (_ : lv_has ls 4 [(3, .int (nI i)), (2, .int (sm)), (0, .ref (B + (0))), (1, .int (4))]), W pp l ee rmX8_count ss mm aa bb mt cd H_25 lo_26 0 0 Q (F0 mm 117 ls []) := by
      intro n9
      induction n9 using Nat.strongRecOn with
      | _ n9 ih => 
        have ih_117 := ih
        intro i sm hn9 hI H_25 lo_26 hX hS ls hl
        obtain ⟨hi, hsm⟩ := hI
        refine lv_iload_n hx hb dX8_count_117 rfl (lv_at hl 0 rfl) ?_
        refine lv_aload_n hx hb dX8_count_118 rfl (lv_at hl 2 rfl) ?_
        refine x_get (w := (wM G B)) (a := 0) (v := .ref (B + (5))) hx hb hts iX8_count_X8 hown hK hX (Nat.le_of_ble_eq_true rfl) (shM_0 (G := G) (B := B)) rfl 7 (by decide) (hts _ kX8_count_22) (fun _ h9 => h9) rfl dX8_count_119 ?_
        refine lv_iconst (v := 0) hx hb dX8_count_122 (by decide) ?_
        refine x_iald (w := (wM G B)) (a := 5) (n := 93) (j := 0) hx hb hK hX (Nat.le_of_ble_eq_true rfl) (shM_a (G := G) (B := B) (a := 5) (f := x (5)) (by decide)) rfl (by decide) (by decide) dX8_count_123 ?_
        refine lv_icmp_ge (tgt := 143) hx hb dX8_count_124 (by decide) (fun c_27 => ?_) (fun c_27 => ?_)
        · have nc_27 := (n_le (a := n) (b := i) hN rfl (by omega) (by omega)).mp c_27
          refine lv_iload_n hx hb dX8_count_143 rfl (lv_at hl 1 rfl) ?_
          rw [← hQ]
          refine x_iret (v := sm) hx hb hr hX hS hlocks dX8_count_144 ?_
          show PT_X8_count _ _ _ _ _
          unfold PT_X8_count
          rw [if_neg (by decide), if_neg (by decide), if_neg (by decide), if_neg (by decide), if_pos rfl]
          have e9 : i = n := by omega
          exact ⟨by rw [hsm, e9], rfl⟩
        · have nc_27 := Nat.not_le.mp (fun q => c_27 ((n_le (a := n) (b := i) hN rfl (by omega) (by omega)).mpr q))
          refine lv_iload_n hx hb dX8_count_127 rfl (lv_at hl 1 rfl) ?_
          refine lv_aload_n hx hb dX8_count_128 rfl (lv_at hl 2 rfl) ?_
          refine lv_iload_n hx hb dX8_count_129 rfl (lv_at hl 0 rfl) ?_
          refine lv_bipush (v := 7) hx hb dX8_count_130 (by decide) ?_
          refine x_ip (w := (wM G B)) (x := x) (v := sF (x 5) i 7) (va_runV (As := [.int (nI i), .int (7)]) (rest := [.int (sm)]) ⟨hx, hb, hml, hown, hts⟩ (c_X8_of (l := l) (G := G) (B := B) (hW := hW) (x := x) (ml := i) (k := 7) (hml9 := (by omega)) (hk10 := (by omega))) (cwV 2 hts gX8_count_X8_of rfl rfl rfl (by decide +kernel) ⟨Nat.le_of_ble_eq_true rfl, Nat.le_of_ble_eq_true rfl⟩) (x_pv (w := (wM G B)) (a := 0) hW hX hK hE hS [.int (nI i), .int (7)] (Nat.le_of_ble_eq_true rfl) (shM_0 (G := G) (B := B)) rfl) rfl rfl hl.1 rfl (lv_room (Nat.le_of_ble_eq_true rfl)) dX8_count_132 ⟨Nat.zero_le _, Nat.zero_le _⟩) hS (fun H_28 lo_29 hX hS => ?_)
          refine lv_iadd hx hb dX8_count_135 ?_
          refine lv_istore_n (lv' := [(2, .int (sm + (sF (x 5) i 7))), (3, .int (nI i)), (0, .ref (B + (0))), (1, .int (4))]) hx hb dX8_count_136 rfl hl (by decide) rfl (fun ls hl => ?_)
          refine lv_iinc (v := nI (i + 1)) (lv' := [(3, .int (nI (i + 1))), (2, .int (sm + (sF (x 5) i 7))), (0, .ref (B + (0))), (1, .int (4))]) hx hb dX8_count_137 hl (k := 1) rfl (inc_nI _) (by decide) rfl (fun ls hl => ?_)
          refine lv_goto (tgt := 117) hx hb dX8_count_140 (by decide) ?_
          exact ih_117 _ (by omega) (i + 1) (sm + (sF (x 5) i 7)) rfl ⟨by omega, by rw [sumN, ← hsm]⟩ _ _ hX hS ls (lv_sub hl [0, 1, 2, 3] rfl)
    exact L_24 _ (0) (0) rfl ⟨Nat.zero_le _, rfl⟩ _ _ hX hS ls (lv_sub hl [0, 1, 2, 3] rfl)
  by_cases c_30 : wh = 5
  · subst c_30
    refine lv_tableIn (tgt := 145) (off := 142) hx hb dX8_count_3 (by decide) (by decide) rfl (by decide) ?_
    refine lv_aload_n hx hb dX8_count_145 rfl (lv_at hl 1 rfl) ?_
    refine x_get (w := (wM G B)) (a := 0) (v := .int (x (0) 4)) hx hb hts iX8_count_X8 hown hK hX (Nat.le_of_ble_eq_true rfl) (shM_0 (G := G) (B := B)) rfl 4 (by decide) (hts _ kX8_count_82) (fun _ h9 => h9) rfl dX8_count_146 ?_
    rw [← hQ]
    refine x_iret (v := x (0) 4) hx hb hr hX hS hlocks dX8_count_149 ?_
    show PT_X8_count _ _ _ _ _
    unfold PT_X8_count
    rw [if_neg (by decide), if_neg (by decide), if_neg (by decide), if_neg (by decide), if_neg (by decide), if_pos rfl]
    exact ⟨rfl, rfl⟩
  refine lv_tableOut (tgt := 150) hx hb dX8_count_3 (ts_out (fun k h1 h2 => by
    have h3 : k = 0 ∨ k = 1 ∨ k = 2 ∨ k = 3 ∨ k = 4 ∨ k = 5 := by omega
    rcases h3 with rfl | rfl | rfl | rfl | rfl | rfl
    · exact c_2
    · exact c_14
    · exact c_15
    · exact c_16
    · exact c_23
    · exact c_30
    )) (by decide) ?_
  refine lv_ldc (v := (-1000001)) hx hb hown (hts _ kX8_count_63) dX8_count_150 ?_
  rw [← hQ]
  refine x_iret (v := (-1000001)) hx hb hr hX hS hlocks dX8_count_152 ?_
  show PT_X8_count _ _ _ _ _
  unfold PT_X8_count
  rw [if_neg c_2, if_neg c_14, if_neg c_15, if_neg c_16, if_neg c_23, if_neg c_30]
  exact ⟨rfl, rfl⟩
