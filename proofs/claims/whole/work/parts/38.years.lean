def PT_X7_years (x : Mem) (ny : Int32) (seed : Int32) (m : Int32) (n : Nat) (nw : Nat → Int32) (r : Int32) (u : Mem) : Prop := (if (decide (x 5 1 = 0)) = false then (if (decide (((1 : Int32)) ≤ ny) && decide (ny ≤ ((1000 : Int32)))) = false then (r = (-1000001) ∧ u = x) else (if (decide (((1 : Int32)) ≤ seed) && decide (seed ≤ ((999999 : Int32)))) = false then (r = (-1000001) ∧ u = x) else (if (((decide (m = -1) || (decide (0 ≤ m) && decide (m < x (5) 1))))) = true then (r = yS nw n m seed (tn ny) ∧ offY x u) else (r = (-1000001) ∧ u = x)))) else (r = (-1000002) ∧ u = x))
theorem kX7_years_25 : (.fieldLink RX7 25 "WindTaken" "ridge" "LWindTaken$Ridge;" : Cond) ∈ wsX7_years := by decide +kernel
theorem iX7_years_X7 : ∀ w ∈ wsX70, w ∈ wsX7_years := by decide +kernel
theorem kX7_years_59 : (.constant RX7 59 (-1000001) : Cond) ∈ wsX7_years := by decide +kernel
theorem kX7_years_248 : (.constant RX7 248 (999999) : Cond) ∈ wsX7_years := by decide +kernel
theorem kX7_years_249 : (.constantLong RX7 249 (16807) : Cond) ∈ wsX7_years := by decide +kernel
theorem kX7_years_251 : (.constantLong RX7 251 (2147483647) : Cond) ∈ wsX7_years := by decide +kernel
theorem kX7_years_38 : (.fieldLink RX7 38 "WindTaken" "quarters" "[LWindTaken$Quarter;" : Cond) ∈ wsX7_years := by decide +kernel
theorem kX7_years_253 : (.constantLong RX7 253 (3) : Cond) ∈ wsX7_years := by decide +kernel
theorem kX7_years_255 : (.constantLong RX7 255 (101) : Cond) ∈ wsX7_years := by decide +kernel
theorem kX7_years_155 : (.constant RX7 155 (-1000002) : Cond) ∈ wsX7_years := by decide +kernel
abbrev rmX7_years : Room := { frames := 4, cells := 0, slots := 0, locals := 94 }
set_option maxHeartbeats 4000000 in
set_option maxRecDepth 100000 in
theorem c_X7_years (l : Launch) (G : GG) (B : Nat) (tt : Nat → Nat) (hW : WOK (wX G B tt)) (x : Mem) (ny : Int32) (seed : Int32) (m : Int32) {n : Nat} {nw : Nat → Int32} (hR : RR n x 5 nw) : Met l yX7_years wsX7_years rmX7_years (XP G (wX G B tt) [.ref (B + (0)), .int (ny), .int (seed), .int (m)] x) (va_Qi (fun r u => PT_X7_years x ny seed m n nw r u) (XB G (wX G B tt)) (blkA B (B + 117))) 0 0 (blkA B (B + 117)) := by
  refine Met.ofW (cc := cX7_years) (maxL := 10) (ret := (some .int)) (by decide) rfl ?_
  intro pp ee ss mm aa bb mt cd s1 Bd hml hv
  obtain ⟨hae, hX, hK, hE⟩ := hv
  have hx := Bd.exec
  have hb := Bd.bytes
  have hr := Bd.returns
  have hts := atoms_spec (ws := wsX7_years) Bd.pre
  have hown : ss.vm.findClass RX7 = some mm.cls := findClass_of_methodNamed Bd.named
  have hlocks := Bd.notSynchronized
  have hS : va_S (blkA B (B + 117)) ss.heap ss.heap [] := va_S.rf
  have hl := lv_entry ([.ref (B + (0)), .int (ny), .int (seed), .int (m)]) (n := 10) (Nat.le_of_ble_eq_true rfl)
  subst hae
  rw [lg_entry_eq]
  generalize (lg_sl ([.ref (B + (0)), .int (ny), .int (seed), .int (m)]) ++ List.replicate (10 - (lg_sl ([.ref (B + (0)), .int (ny), .int (seed), .int (m)])).length) Slot.unset).toArray = ls at hl ⊢
  have hl : lv_has ls 10 [(0, .ref (B + (0))), (1, .int (ny)), (2, .int (seed)), (3, .int (m))] := hl
  generalize ([.ref (B + (0)), .int (ny), .int (seed), .int (m)] : List Value).toArray = aa at hts ⊢
  show W pp l ee rmX7_years ss mm aa bb mt cd ss.heap [] 0 0 _ (F0 mm 0 ls [])
  generalize hQ : MQ bb (va_Qi (fun r u => PT_X7_years x ny seed m n nw r u) (XB G (wX G B tt)) (blkA B (B + 117))) aa ss 0 0 (blkA B (B + 117)) = Q
  have hn8 := hR.1
  refine lv_aload_n hx hb dX7_years_0 rfl (lv_at hl 0 rfl) ?_
  refine x_get (w := (wX G B tt)) (a := 0) (v := .ref (B + (5))) hx hb hts iX7_years_X7 hown hK hX (Nat.le_of_ble_eq_true rfl) (shX_mn (G := G) (B := B)) rfl 2 (by decide) (hts _ kX7_years_25) (fun _ h9 => h9) rfl dX7_years_1 ?_
  refine x_ip (w := (wX G B tt)) (x := x) (v := bI (decide (x 5 1 = 0))) (va_runV (As := []) (rest := []) ⟨hx, hb, hml, hown, hts⟩ (c_X3_isNone (l := l) (G := G) (B := B) (tt := tt) (hW := hW) (x := x) (ρ := 5) (hρ := rg5)) (cwV 0 hts gX7_years_X3_isNone rfl rfl rfl (by decide +kernel) ⟨Nat.le_of_ble_eq_true rfl, Nat.le_of_ble_eq_true rfl⟩) (x_pv (w := (wX G B tt)) (a := 5) hW hX hK hE hS [] (rg_lt rg5) (shX_ri (G := G) (B := B) rg5) rfl) rfl rfl hl.1 rfl (lv_room (Nat.le_of_ble_eq_true rfl)) dX7_years_4 ⟨Nat.zero_le _, Nat.zero_le _⟩) hS (fun H_1 lo_2 hX hS => ?_)
  refine x_ifeq (tgt := 13) hx hb dX7_years_7 (by decide) (fun c_3 => ?_) (fun c_3 => ?_)
  · refine lv_iload_n hx hb dX7_years_13 rfl (lv_at hl 3 rfl) ?_
    refine lv_iconst (v := (-1)) hx hb dX7_years_14 (by decide) ?_
    have kJ_6 : ∀ (v_5 : Bool) (_ : v_5 = (if m = ((-1)) then true else (if (decide (0 ≤ m) && decide (m < x 5 1)) = false then false else true))) (H_7 : Heap) (lo_8 : List Loc) (_ : MR G (wX G B tt) x H_7) (_ : va_S (blkA B (B + 117)) ss.heap H_7 lo_8) (ls : Array Slot) (_ : lv_has ls 10 [(0, .ref (B + (0))), (1, .int (ny)), (2, .int (seed)), (3, .int (m))]), W pp l ee rmX7_years ss mm aa bb mt cd H_7 lo_8 0 0 Q (F0 mm 34 ls [.int (bI (v_5))]) := by
      intro v_5 ev_5 H_7 lo_8 hX hS ls hl
      have hv : v_5 = (decide (m = -1) || (decide (0 ≤ m) && decide (m < x (5) 1))) := by rw [ev_5]; exact or_ite
      subst hv
      refine lv_istore (lv' := [(4, .int (bI (((decide (m = -1) || (decide (0 ≤ m) && decide (m < x (5) 1))))))), (0, .ref (B + (0))), (1, .int (ny)), (2, .int (seed)), (3, .int (m))]) hx hb dX7_years_34 hl (by decide) rfl (fun ls hl => ?_)
      refine lv_iload_n hx hb dX7_years_36 rfl (lv_at hl 2 rfl) ?_
      refine lv_iconst (v := 1) hx hb dX7_years_37 (by decide) ?_
      refine lv_sipush (v := 1000) hx hb dX7_years_38 (by decide) ?_
      refine x_ip (w := (wX G B tt)) (x := x) (v := bI (decide (((1 : Int32)) ≤ ny) && decide (ny ≤ ((1000 : Int32))))) (va_runS (As := [.int (ny), .int (1), .int (1000)]) (rest := []) ⟨hx, hb, hml, hown, hts⟩ (c_X7_isWithin (l := l) (G := G) (B := B) (tt := tt) (hW := hW) (x := x) (v := ny) (lo := 1) (hi := 1000)) (va_cwS 3 hts gX7_years_X7_isWithin rfl rfl rfl (by decide +kernel) ⟨Nat.le_of_ble_eq_true rfl, Nat.le_of_ble_eq_true rfl⟩) (x_ps (w := (wX G B tt)) hW hX hK hE hS [.int (ny), .int (1), .int (1000)]) rfl rfl hl.1 rfl (lv_room (Nat.le_of_ble_eq_true rfl)) dX7_years_41 ⟨Nat.zero_le _, Nat.zero_le _⟩) hS (fun H_9 lo_10 hX hS => ?_)
      refine x_ifeq (tgt := 62) hx hb dX7_years_44 (by decide) (fun c_11 => ?_) (fun c_11 => ?_)
      · refine lv_ldc (v := (-1000001)) hx hb hown (hts _ kX7_years_59) dX7_years_62 ?_
        rw [← hQ]
        refine x_iret (v := (-1000001)) hx hb hr hX hS hlocks dX7_years_64 ?_
        show PT_X7_years _ _ _ _ _ _ _ _
        unfold PT_X7_years
        rw [if_pos c_3, if_pos c_11]
        exact ⟨rfl, rfl⟩
      · obtain ⟨hne, hn1, hn1000⟩ := within1 (k := 1000) rfl (by decide) c_11
        refine lv_iload_n hx hb dX7_years_47 rfl (lv_at hl 3 rfl) ?_
        refine lv_iconst (v := 1) hx hb dX7_years_48 (by decide) ?_
        refine lv_ldc (v := 999999) hx hb hown (hts _ kX7_years_248) dX7_years_49 ?_
        refine x_ip (w := (wX G B tt)) (x := x) (v := bI (decide (((1 : Int32)) ≤ seed) && decide (seed ≤ ((999999 : Int32))))) (va_runS (As := [.int (seed), .int (1), .int (999999)]) (rest := []) ⟨hx, hb, hml, hown, hts⟩ (c_X7_isWithin (l := l) (G := G) (B := B) (tt := tt) (hW := hW) (x := x) (v := seed) (lo := 1) (hi := 999999)) (va_cwS 3 hts gX7_years_X7_isWithin rfl rfl rfl (by decide +kernel) ⟨Nat.le_of_ble_eq_true rfl, Nat.le_of_ble_eq_true rfl⟩) (x_ps (w := (wX G B tt)) hW hX hK hE hS [.int (seed), .int (1), .int (999999)]) rfl rfl hl.1 rfl (lv_room (Nat.le_of_ble_eq_true rfl)) dX7_years_51 ⟨Nat.zero_le _, Nat.zero_le _⟩) hS (fun H_12 lo_13 hX hS => ?_)
        refine x_ifeq (tgt := 62) hx hb dX7_years_54 (by decide) (fun c_14 => ?_) (fun c_14 => ?_)
        · refine lv_ldc (v := (-1000001)) hx hb hown (hts _ kX7_years_59) dX7_years_62 ?_
          rw [← hQ]
          refine x_iret (v := (-1000001)) hx hb hr hX hS hlocks dX7_years_64 ?_
          show PT_X7_years _ _ _ _ _ _ _ _
          unfold PT_X7_years
          rw [if_pos c_3, if_neg (ne_of_true c_11), if_pos c_14]
          exact ⟨rfl, rfl⟩
        · refine lv_iload hx hb dX7_years_57 (lv_at hl 0 rfl) ?_
          refine x_ifne (tgt := 65) hx hb dX7_years_59 (by decide) (fun c_15 => ?_) (fun c_15 => ?_)
          · have hask := c_15
            refine lv_iconst (v := 0) hx hb dX7_years_65 (by decide) ?_
            refine lv_istore (lv' := [(5, .int (0)), (4, .int (bI (((decide (m = -1) || (decide (0 ≤ m) && decide (m < x (5) 1))))))), (0, .ref (B + (0))), (1, .int (ny)), (2, .int (seed)), (3, .int (m))]) hx hb dX7_years_66 hl (by decide) rfl (fun ls hl => ?_)
            have L_16 : ∀ (n9 : Nat) (i : Nat)  (u : Mem) (_ : n9 = 4 - i) (_ : i ≤ 4 ∧ offY x u ∧ ∀ k, k < i → SQ n nw u k) (H_17 : Heap) (lo_18 : List Loc) (_ : MR G (wX G B tt) u H_17) (_ : va_S (blkA B (B + 117)) ss.heap H_17 lo_18) (ls : Array Slot) (_ : lv_has ls 10 [(5, .int (nI i)), (4, .int (bI (((decide (m = -1) || (decide (0 ≤ m) && decide (m < x (5) 1))))))), (0, .ref (B + (0))), (1, .int (ny)), (2, .int (seed)), (3, .int (m))]), W pp l ee rmX7_years ss mm aa bb mt cd H_17 lo_18 0 0 Q (F0 mm 68 ls []) := by
              intro n9
              induction n9 using Nat.strongRecOn with
              | _ n9 ih => 
                have ih_68 := ih
                intro i u hn9 hI H_17 lo_18 hX hS ls hl
                obtain ⟨hi, hof, hsv⟩ := hI
                have hRu := hR.offY rc5 hof
                refine lv_iload hx hb dX7_years_68 (lv_at hl 0 rfl) ?_
                refine lv_iconst (v := 4) hx hb dX7_years_70 (by decide) ?_
                refine lv_icmp_ge (tgt := 97) hx hb dX7_years_71 (by decide) (fun c_19 => ?_) (fun c_19 => ?_)
                · have nc_19 := (n_le (a := 4) (b := i) rfl rfl (by omega) (by omega)).mp c_19
                  have hsv4 : ∀ k, k < 4 → SQ n nw u k := fun k hk => hsv k (by omega)
                  refine lv_iconst (v := 0) hx hb dX7_years_97 (by decide) ?_
                  refine lv_istore (lv' := [(5, .int (0)), (4, .int (bI (((decide (m = -1) || (decide (0 ≤ m) && decide (m < x (5) 1))))))), (0, .ref (B + (0))), (1, .int (ny)), (2, .int (seed)), (3, .int (m))]) hx hb dX7_years_98 hl (by decide) rfl (fun ls hl => ?_)
                  refine lv_iload_n hx hb dX7_years_100 rfl (lv_at hl 4 rfl) ?_
                  refine lv_i2l (v := (seed : Int32).toInt64) hx hb dX7_years_101 rfl ?_
                  refine lv_lstore (lv' := [(6, .long ((seed : Int32).toInt64)), (5, .int (0)), (4, .int (bI (((decide (m = -1) || (decide (0 ≤ m) && decide (m < x (5) 1))))))), (0, .ref (B + (0))), (1, .int (ny)), (2, .int (seed)), (3, .int (m))]) hx hb dX7_years_102 hl (by decide) rfl (fun ls hl => ?_)
                  refine lv_iconst (v := 0) hx hb dX7_years_104 (by decide) ?_
                  refine lv_istore (lv' := [(8, .int (0)), (6, .long ((seed : Int32).toInt64)), (5, .int (0)), (4, .int (bI (((decide (m = -1) || (decide (0 ≤ m) && decide (m < x (5) 1))))))), (0, .ref (B + (0))), (1, .int (ny)), (2, .int (seed)), (3, .int (m))]) hx hb dX7_years_105 hl (by decide) rfl (fun ls hl => ?_)
                  have L_20 : ∀ (n9 : Nat) (k : Nat) (sm : Int32) (z : Int64)  (u2 : Mem) (_ : n9 = tn ny - k) (_ : k ≤ tn ny ∧ sm = yS nw n m seed k ∧ z = yZ seed k ∧ offY x u2 ∧ ∀ j, j < 4 → SQ n nw u2 j) (H_21 : Heap) (lo_22 : List Loc) (_ : MR G (wX G B tt) u2 H_21) (_ : va_S (blkA B (B + 117)) ss.heap H_21 lo_22) (ls : Array Slot) (_ : lv_has ls 10 [(8, .int (nI k)), (6, .long (z)), (5, .int (sm)), (4, .int (bI (((decide (m = -1) || (decide (0 ≤ m) && decide (m < x (5) 1))))))), (0, .ref (B + (0))), (1, .int (ny)), (2, .int (seed)), (3, .int (m))]), W pp l ee rmX7_years ss mm aa bb mt cd H_21 lo_22 0 0 Q (F0 mm 107 ls []) := by
                    intro n9
                    induction n9 using Nat.strongRecOn with
                    | _ n9 ih => 
                      have ih_107 := ih
                      intro k sm z u2 hn9 hI H_21 lo_22 hX hS ls hl
                      obtain ⟨hk, hsm, hz, hof2, hsv2⟩ := hI
                      subst hz
                      have hRv := hR.offY rc5 hof2
                      refine lv_iload hx hb dX7_years_107 (lv_at hl 0 rfl) ?_
                      refine lv_iload_n hx hb dX7_years_109 rfl (lv_at hl 5 rfl) ?_
                      refine lv_icmp_ge (tgt := 194) hx hb dX7_years_110 (by decide) (fun c_23 => ?_) (fun c_23 => ?_)
                      · have nc_23 := (n_le (a := tn ny) (b := k) hne rfl (by omega) (by omega)).mp c_23
                        have e9 : k = tn ny := by omega
                        subst e9
                        refine lv_iload hx hb dX7_years_194 (lv_at hl 2 rfl) ?_
                        rw [← hQ]
                        refine x_iret (v := sm) hx hb hr hX hS hlocks dX7_years_196 ?_
                        show PT_X7_years _ _ _ _ _ _ _ _
                        unfold PT_X7_years
                        rw [if_pos c_3, if_neg (ne_of_true c_11), if_neg (ne_of_true c_14), if_pos c_15]
                        exact ⟨hsm, hof2⟩
                      · have nc_23 := Nat.not_le.mp (fun q => c_23 ((n_le (a := tn ny) (b := k) hne rfl (by omega) (by omega)).mpr q))
                        refine lv_lload hx hb dX7_years_113 (lv_at hl 1 rfl) ?_
                        refine lv_ldc2 (v := 16807) hx hb hown (hts _ kX7_years_249) dX7_years_115 ?_
                        refine lv_lmul hx hb dX7_years_118 ?_
                        refine lv_ldc2 (v := 2147483647) hx hb hown (hts _ kX7_years_251) dX7_years_119 ?_
                        refine lv_lrem hx hb dX7_years_122 (by decide) ?_
                        refine lv_lstore (lv' := [(6, .long ((((yZ seed k)) * 16807) - (((yZ seed k)) * 16807) / 2147483647 * 2147483647)), (8, .int (nI k)), (5, .int (sm)), (4, .int (bI (((decide (m = -1) || (decide (0 ≤ m) && decide (m < x (5) 1))))))), (0, .ref (B + (0))), (1, .int (ny)), (2, .int (seed)), (3, .int (m))]) hx hb dX7_years_123 hl (by decide) rfl (fun ls hl => ?_)
                        refine lv_aload_n hx hb dX7_years_125 rfl (lv_at hl 4 rfl) ?_
                        refine x_get (w := (wX G B tt)) (a := 0) (v := .ref (B + (26))) hx hb hts iX7_years_X7 hown hK hX (Nat.le_of_ble_eq_true rfl) (shX_mn (G := G) (B := B)) rfl 5 (by decide) (hts _ kX7_years_38) (fun _ h9 => h9) rfl dX7_years_126 ?_
                        refine lv_lload hx hb dX7_years_129 (lv_at hl 0 rfl) ?_
                        refine lv_ldc2 (v := 3) hx hb hown (hts _ kX7_years_253) dX7_years_131 ?_
                        refine lv_land hx hb dX7_years_134 ?_
                        refine lv_l2i (v := (((((yZ seed k)) * 16807) - (((yZ seed k)) * 16807) / 2147483647 * 2147483647) &&& 3 : Int64).toInt32) hx hb dX7_years_135 rfl ?_
                        refine x_aald (w := (wX G B tt)) (a := 26) (n := 4) (j := yQ (yZ seed k)) (q := B + (65 + 13 * (yQ (yZ seed k)))) (t0 := 3) hx hb hK hX (Nat.le_of_ble_eq_true rfl) (shX_qa (G := G) (B := B) (f := u2 (26))) rfl (yq_lt (yZ seed k)).1 (yq_lt (yZ seed k)).2 (by decide) rfl dX7_years_136 ?_
                        refine lv_astore (lv' := [(9, .ref (B + (65 + 13 * (yQ (yZ seed k))))), (6, .long ((((yZ seed k)) * 16807) - (((yZ seed k)) * 16807) / 2147483647 * 2147483647)), (8, .int (nI k)), (5, .int (sm)), (4, .int (bI (((decide (m = -1) || (decide (0 ≤ m) && decide (m < x (5) 1))))))), (0, .ref (B + (0))), (1, .int (ny)), (2, .int (seed)), (3, .int (m))]) hx hb dX7_years_137 hl (by decide) rfl (fun ls hl => ?_)
                        refine lv_lload hx hb dX7_years_139 (lv_at hl 1 rfl) ?_
                        refine lv_ldc2 (v := 16807) hx hb hown (hts _ kX7_years_249) dX7_years_141 ?_
                        refine lv_lmul hx hb dX7_years_144 ?_
                        refine lv_ldc2 (v := 2147483647) hx hb hown (hts _ kX7_years_251) dX7_years_145 ?_
                        refine lv_lrem hx hb dX7_years_148 (by decide) ?_
                        refine lv_lstore (lv' := [(6, .long ((((((yZ seed k)) * 16807) - (((yZ seed k)) * 16807) / 2147483647 * 2147483647) * 16807) - (((((yZ seed k)) * 16807) - (((yZ seed k)) * 16807) / 2147483647 * 2147483647) * 16807) / 2147483647 * 2147483647)), (9, .ref (B + (65 + 13 * (yQ (yZ seed k))))), (8, .int (nI k)), (5, .int (sm)), (4, .int (bI (((decide (m = -1) || (decide (0 ≤ m) && decide (m < x (5) 1))))))), (0, .ref (B + (0))), (1, .int (ny)), (2, .int (seed)), (3, .int (m))]) hx hb dX7_years_149 hl (by decide) rfl (fun ls hl => ?_)
                        refine lv_aload hx hb dX7_years_151 (lv_at hl 1 rfl) ?_
                        refine lv_lload hx hb dX7_years_153 (lv_at hl 0 rfl) ?_
                        refine lv_ldc2 (v := 101) hx hb hown (hts _ kX7_years_255) dX7_years_155 ?_
                        refine lv_lrem hx hb dX7_years_158 (by decide) ?_
                        refine lv_l2i (v := (((((((yZ seed k)) * 16807) - (((yZ seed k)) * 16807) / 2147483647 * 2147483647) * 16807) - (((((yZ seed k)) * 16807) - (((yZ seed k)) * 16807) / 2147483647 * 2147483647) * 16807) / 2147483647 * 2147483647) - ((((((yZ seed k)) * 16807) - (((yZ seed k)) * 16807) / 2147483647 * 2147483647) * 16807) - (((((yZ seed k)) * 16807) - (((yZ seed k)) * 16807) / 2147483647 * 2147483647) * 16807) / 2147483647 * 2147483647) / 101 * 101 : Int64).toInt32) hx hb dX7_years_159 rfl ?_
                        refine x_vf (w := (wX G B tt)) (va_runV (As := [.int ((((((((yZ seed k)) * 16807) - (((yZ seed k)) * 16807) / 2147483647 * 2147483647) * 16807) - (((((yZ seed k)) * 16807) - (((yZ seed k)) * 16807) / 2147483647 * 2147483647) * 16807) / 2147483647 * 2147483647) - ((((((yZ seed k)) * 16807) - (((yZ seed k)) * 16807) / 2147483647 * 2147483647) * 16807) - (((((yZ seed k)) * 16807) - (((yZ seed k)) * 16807) / 2147483647 * 2147483647) * 16807) / 2147483647 * 2147483647) / 101 * 101 : Int64).toInt32)]) (rest := []) ⟨hx, hb, hml, hown, hts⟩ (c_X1_blow (l := l) (G := G) (B := B) (tt := tt) (hW := hW) (x := u2) (q := yQ (yZ seed k)) (hq := (yq_lt (yZ seed k)).2) (w := (((((((yZ seed k)) * 16807) - (((yZ seed k)) * 16807) / 2147483647 * 2147483647) * 16807) - (((((yZ seed k)) * 16807) - (((yZ seed k)) * 16807) / 2147483647 * 2147483647) * 16807) / 2147483647 * 2147483647) - ((((((yZ seed k)) * 16807) - (((yZ seed k)) * 16807) / 2147483647 * 2147483647) * 16807) - (((((yZ seed k)) * 16807) - (((yZ seed k)) * 16807) / 2147483647 * 2147483647) * 16807) / 2147483647 * 2147483647) / 101 * 101 : Int64).toInt32) (n := n) (nw := nw) (hRq := (hsv2 _ (yq_lt (yZ seed k)).2).2)) (cwV 1 hts gX7_years_X1_blow rfl rfl rfl (by decide +kernel) ⟨Nat.le_of_ble_eq_true rfl, Nat.le_of_ble_eq_true rfl⟩) (x_pv (w := (wX G B tt)) (a := 65 + 13 * (yQ (yZ seed k))) hW hX hK hE hS [.int ((((((((yZ seed k)) * 16807) - (((yZ seed k)) * 16807) / 2147483647 * 2147483647) * 16807) - (((((yZ seed k)) * 16807) - (((yZ seed k)) * 16807) / 2147483647 * 2147483647) * 16807) / 2147483647 * 2147483647) - ((((((yZ seed k)) * 16807) - (((yZ seed k)) * 16807) / 2147483647 * 2147483647) * 16807) - (((((yZ seed k)) * 16807) - (((yZ seed k)) * 16807) / 2147483647 * 2147483647) * 16807) / 2147483647 * 2147483647) / 101 * 101 : Int64).toInt32)] (qu_lt (yq_lt (yZ seed k)).2) (shX_qu (G := G) (B := B) (yq_lt (yZ seed k)).2) rfl) rfl rfl hl.1 rfl (lv_room (Nat.le_of_ble_eq_true rfl)) dX7_years_160 ⟨Nat.zero_le _, Nat.zero_le _⟩) hS (fun x_26 H_24 lo_25 h_160 hX hS => ?_)
                        try dsimp only at h_160
                        obtain ⟨ho3, hBL3⟩ := h_160
                        have hsq := (hsv2 _ (yq_lt (yZ seed k)).2).keep (fun a a1 a2 a3 => ho3 a a3)
                        have hR3 := hRv.off (q := yQ (yZ seed k)) rc5 (fun a h9 => ho3 a (by omega))
                        have hBL4 : BL nw x_26 (yQ (yZ seed k)) (yW (yZ seed k)) := hBL3
                        refine lv_iload hx hb dX7_years_163 (lv_at hl 3 rfl) ?_
                        refine lv_iload_n hx hb dX7_years_165 rfl (lv_at hl 8 rfl) ?_
                        refine lv_iconst (v := (-1)) hx hb dX7_years_166 (by decide) ?_
                        refine lv_icmp_ne (tgt := 178) hx hb dX7_years_167 (by decide) (fun c_27 => ?_) (fun c_27 => ?_)
                        · obtain ⟨hme, hmn⟩ := hasM hR.cnt hn8 (by simpa [c_27] using hask)
                          refine lv_aload hx hb dX7_years_178 (lv_at hl 1 rfl) ?_
                          refine lv_iload_n hx hb dX7_years_180 rfl (lv_at hl 8 rfl) ?_
                          refine lv_iconst (v := 0) hx hb dX7_years_181 (by decide) ?_
                          refine W.eq (g2 := F0 mm 182 ls [.int (0), .int (nI (tn m)), .ref (B + (65 + 13 * (yQ (yZ seed k)))), .int (sm)]) (congrArg (fun z9 : Int32 => F0 mm 182 ls [.int (0), .int (z9), .ref (B + (65 + 13 * (yQ (yZ seed k)))), .int (sm)]) hme) ?_
                          refine x_ip (w := (wX G B tt)) (x := x_26) (v := sFree nw n (tn m) (yQ (yZ seed k)) ((yW (yZ seed k))) 0 hNo) (va_runV (As := [.int (nI (tn m)), .int (0)]) (rest := [.int (sm)]) ⟨hx, hb, hml, hown, hts⟩ (c_X1_strengthOf (l := l) (G := G) (B := B) (tt := tt) (hW := hW) (x := x_26) (q := yQ (yZ seed k)) (hq := (yq_lt (yZ seed k)).2) (m := tn m) (s := 0) (n := n) (nw := nw) (h := hNo) (w := (yW (yZ seed k))) (hRq := hsq.2) (hSV := hsq.1) (hBL := hBL4) (hm := (by omega))) (cwV 2 hts gX7_years_X1_strengthOf rfl rfl rfl (by decide +kernel) ⟨Nat.le_of_ble_eq_true rfl, Nat.le_of_ble_eq_true rfl⟩) (x_pv (w := (wX G B tt)) (a := 65 + 13 * (yQ (yZ seed k))) hW hX hK hE hS [.int (nI (tn m)), .int (0)] (qu_lt (yq_lt (yZ seed k)).2) (shX_qu (G := G) (B := B) (yq_lt (yZ seed k)).2) rfl) rfl rfl hl.1 rfl (lv_room (Nat.le_of_ble_eq_true rfl)) dX7_years_182 ⟨Nat.zero_le _, Nat.zero_le _⟩) hS (fun H_28 lo_29 hX hS => ?_)
                          refine lv_iadd hx hb dX7_years_185 ?_
                          refine lv_istore (lv' := [(5, .int (sm + (sFree nw n (tn m) (yQ (yZ seed k)) ((yW (yZ seed k))) 0 hNo))), (6, .long ((((((yZ seed k)) * 16807) - (((yZ seed k)) * 16807) / 2147483647 * 2147483647) * 16807) - (((((yZ seed k)) * 16807) - (((yZ seed k)) * 16807) / 2147483647 * 2147483647) * 16807) / 2147483647 * 2147483647)), (9, .ref (B + (65 + 13 * (yQ (yZ seed k))))), (8, .int (nI k)), (4, .int (bI (((decide (m = -1) || (decide (0 ≤ m) && decide (m < x (5) 1))))))), (0, .ref (B + (0))), (1, .int (ny)), (2, .int (seed)), (3, .int (m))]) hx hb dX7_years_186 hl (by decide) rfl (fun ls hl => ?_)
                          refine lv_iinc (v := nI (k + 1)) (lv' := [(8, .int (nI (k + 1))), (5, .int (sm + (sFree nw n (tn m) (yQ (yZ seed k)) ((yW (yZ seed k))) 0 hNo))), (6, .long ((((((yZ seed k)) * 16807) - (((yZ seed k)) * 16807) / 2147483647 * 2147483647) * 16807) - (((((yZ seed k)) * 16807) - (((yZ seed k)) * 16807) / 2147483647 * 2147483647) * 16807) / 2147483647 * 2147483647)), (9, .ref (B + (65 + 13 * (yQ (yZ seed k))))), (4, .int (bI (((decide (m = -1) || (decide (0 ≤ m) && decide (m < x (5) 1))))))), (0, .ref (B + (0))), (1, .int (ny)), (2, .int (seed)), (3, .int (m))]) hx hb dX7_years_188 hl (k := 3) rfl (inc_nI _) (by decide) rfl (fun ls hl => ?_)
                          refine lv_goto (tgt := 107) hx hb dX7_years_191 (by decide) ?_
                          exact ih_107 _ (by omega) (k + 1) (sm + (sFree nw n (tn m) (yQ (yZ seed k)) ((yW (yZ seed k))) 0 hNo)) ((((((yZ seed k)) * 16807) - (((yZ seed k)) * 16807) / 2147483647 * 2147483647) * 16807) - (((((yZ seed k)) * 16807) - (((yZ seed k)) * 16807) / 2147483647 * 2147483647) * 16807) / 2147483647 * 2147483647) (x_26) rfl ⟨by omega, by rw [hsm, yS, yG]; first | rw [if_pos c_27] | rw [if_neg c_27], rfl, hof2.st (fun a h9 => ho3 a (by omega)) (yq_lt (yZ seed k)).2, SQ.all hsv2 ho3⟩ _ _ hX hS ls (lv_sub hl [0, 2, 1, 4, 5, 6, 7, 8] rfl)
                        · refine lv_aload hx hb dX7_years_170 (lv_at hl 1 rfl) ?_
                          refine x_ip (w := (wX G B tt)) (x := x_26) (v := sumN (fun m => sFree nw n m (yQ (yZ seed k)) ((yW (yZ seed k))) 0 hNo) n) (va_runV (As := []) (rest := [.int (sm)]) ⟨hx, hb, hml, hown, hts⟩ (c_X1_strengthOfAll (l := l) (G := G) (B := B) (tt := tt) (hW := hW) (x := x_26) (q := yQ (yZ seed k)) (hq := (yq_lt (yZ seed k)).2) (n := n) (nw := nw) (h := hNo) (w := (yW (yZ seed k))) (hRq := hsq.2) (hSV := hsq.1) (hBL := hBL4)) (cwV 0 hts gX7_years_X1_strengthOfAll rfl rfl rfl (by decide +kernel) ⟨Nat.le_of_ble_eq_true rfl, Nat.le_of_ble_eq_true rfl⟩) (x_pv (w := (wX G B tt)) (a := 65 + 13 * (yQ (yZ seed k))) hW hX hK hE hS [] (qu_lt (yq_lt (yZ seed k)).2) (shX_qu (G := G) (B := B) (yq_lt (yZ seed k)).2) rfl) rfl rfl hl.1 rfl (lv_room (Nat.le_of_ble_eq_true rfl)) dX7_years_172 ⟨Nat.zero_le _, Nat.zero_le _⟩) hS (fun H_30 lo_31 hX hS => ?_)
                          refine lv_goto (tgt := 185) hx hb dX7_years_175 (by decide) ?_
                          refine lv_iadd hx hb dX7_years_185 ?_
                          refine lv_istore (lv' := [(5, .int (sm + (sumN (fun m => sFree nw n m (yQ (yZ seed k)) ((yW (yZ seed k))) 0 hNo) n))), (6, .long ((((((yZ seed k)) * 16807) - (((yZ seed k)) * 16807) / 2147483647 * 2147483647) * 16807) - (((((yZ seed k)) * 16807) - (((yZ seed k)) * 16807) / 2147483647 * 2147483647) * 16807) / 2147483647 * 2147483647)), (9, .ref (B + (65 + 13 * (yQ (yZ seed k))))), (8, .int (nI k)), (4, .int (bI (((decide (m = -1) || (decide (0 ≤ m) && decide (m < x (5) 1))))))), (0, .ref (B + (0))), (1, .int (ny)), (2, .int (seed)), (3, .int (m))]) hx hb dX7_years_186 hl (by decide) rfl (fun ls hl => ?_)
                          refine lv_iinc (v := nI (k + 1)) (lv' := [(8, .int (nI (k + 1))), (5, .int (sm + (sumN (fun m => sFree nw n m (yQ (yZ seed k)) ((yW (yZ seed k))) 0 hNo) n))), (6, .long ((((((yZ seed k)) * 16807) - (((yZ seed k)) * 16807) / 2147483647 * 2147483647) * 16807) - (((((yZ seed k)) * 16807) - (((yZ seed k)) * 16807) / 2147483647 * 2147483647) * 16807) / 2147483647 * 2147483647)), (9, .ref (B + (65 + 13 * (yQ (yZ seed k))))), (4, .int (bI (((decide (m = -1) || (decide (0 ≤ m) && decide (m < x (5) 1))))))), (0, .ref (B + (0))), (1, .int (ny)), (2, .int (seed)), (3, .int (m))]) hx hb dX7_years_188 hl (k := 3) rfl (inc_nI _) (by decide) rfl (fun ls hl => ?_)
                          refine lv_goto (tgt := 107) hx hb dX7_years_191 (by decide) ?_
                          exact ih_107 _ (by omega) (k + 1) (sm + (sumN (fun m => sFree nw n m (yQ (yZ seed k)) ((yW (yZ seed k))) 0 hNo) n)) ((((((yZ seed k)) * 16807) - (((yZ seed k)) * 16807) / 2147483647 * 2147483647) * 16807) - (((((yZ seed k)) * 16807) - (((yZ seed k)) * 16807) / 2147483647 * 2147483647) * 16807) / 2147483647 * 2147483647) (x_26) rfl ⟨by omega, by rw [hsm, yS, yG]; first | rw [if_pos c_27] | rw [if_neg c_27], rfl, hof2.st (fun a h9 => ho3 a (by omega)) (yq_lt (yZ seed k)).2, SQ.all hsv2 ho3⟩ _ _ hX hS ls (lv_sub hl [0, 2, 1, 4, 5, 6, 7, 8] rfl)
                  exact L_20 _ (0) (0) ((seed : Int32).toInt64) (u) rfl ⟨Nat.zero_le _, rfl, rfl, hof, hsv4⟩ _ _ hX hS ls (lv_sub hl [0, 1, 2, 3, 4, 5, 6, 7] rfl)
                · have nc_19 := Nat.not_le.mp (fun q => c_19 ((n_le (a := 4) (b := i) rfl rfl (by omega) (by omega)).mpr q))
                  refine lv_aload_n hx hb dX7_years_74 rfl (lv_at hl 2 rfl) ?_
                  refine x_get (w := (wX G B tt)) (a := 0) (v := .ref (B + (26))) hx hb hts iX7_years_X7 hown hK hX (Nat.le_of_ble_eq_true rfl) (shX_mn (G := G) (B := B)) rfl 5 (by decide) (hts _ kX7_years_38) (fun _ h9 => h9) rfl dX7_years_75 ?_
                  refine lv_iload hx hb dX7_years_78 (lv_at hl 0 rfl) ?_
                  refine x_aald (w := (wX G B tt)) (a := 26) (n := 4) (j := i) (q := B + (65 + 13 * i)) (t0 := 3) hx hb hK hX (Nat.le_of_ble_eq_true rfl) (shX_qa (G := G) (B := B) (f := u (26))) rfl rfl (by omega) (by decide) rfl dX7_years_80 ?_
                  refine lv_aload_n hx hb dX7_years_81 rfl (lv_at hl 2 rfl) ?_
                  refine x_get (w := (wX G B tt)) (a := 0) (v := .ref (B + (5))) hx hb hts iX7_years_X7 hown hK hX (Nat.le_of_ble_eq_true rfl) (shX_mn (G := G) (B := B)) rfl 2 (by decide) (hts _ kX7_years_25) (fun _ h9 => h9) rfl dX7_years_82 ?_
                  refine lv_iload hx hb dX7_years_85 (lv_at hl 0 rfl) ?_
                  refine lv_iconst (v := (-1)) hx hb dX7_years_87 (by decide) ?_
                  refine x_vf (w := (wX G B tt)) (va_runV (As := [.ref (B + (5)), .int (nI i), .int ((-1))]) (rest := []) ⟨hx, hb, hml, hown, hts⟩ (c_X1_survey (l := l) (G := G) (B := B) (tt := tt) (hW := hW) (x := u) (q := i) (hq := (by omega)) (rz := (-1)) (n := n) (nw := nw) (h := hNo) (hR := hRu) (hh := (hh_no hn8))) (cwV 3 hts gX7_years_X1_survey rfl rfl rfl (by decide +kernel) ⟨Nat.le_of_ble_eq_true rfl, Nat.le_of_ble_eq_true rfl⟩) (x_pv (w := (wX G B tt)) (a := 65 + 13 * i) hW hX hK hE hS [.ref (B + (5)), .int (nI i), .int ((-1))] (qu_lt (by omega)) (shX_qu (G := G) (B := B) (by omega)) rfl) rfl rfl hl.1 rfl (lv_room (Nat.le_of_ble_eq_true rfl)) dX7_years_88 ⟨Nat.zero_le _, Nat.zero_le _⟩) hS (fun x_34 H_32 lo_33 h_88 hX hS => ?_)
                  try dsimp only at h_88
                  refine lv_iinc (v := nI (i + 1)) (lv' := [(5, .int (nI (i + 1))), (4, .int (bI (((decide (m = -1) || (decide (0 ≤ m) && decide (m < x (5) 1))))))), (0, .ref (B + (0))), (1, .int (ny)), (2, .int (seed)), (3, .int (m))]) hx hb dX7_years_91 hl (k := 0) rfl (inc_nI _) (by decide) rfl (fun ls hl => ?_)
                  refine lv_goto (tgt := 68) hx hb dX7_years_94 (by decide) ?_
                  exact ih_68 _ (by omega) (i + 1) (x_34) rfl ⟨by omega, hof.st h_88.1 (by omega), fun k hk => by
          by_cases hki : k = i
          · rw [hki]; exact ⟨h_88.2.1, h_88.2.2.1⟩
          · exact (hsv k (by omega)).keep (fun a a1 a2 a3 => h_88.1 a (by omega))⟩ _ _ hX hS ls (lv_sub hl [0, 1, 2, 3, 4, 5] rfl)
            exact L_16 _ (0) (x) rfl ⟨Nat.zero_le _, fun a9 _ => rfl, fun k hk => absurd hk (Nat.not_lt_zero k)⟩ _ _ hX hS ls (lv_sub hl [0, 1, 2, 3, 4, 5] rfl)
          · refine lv_ldc (v := (-1000001)) hx hb hown (hts _ kX7_years_59) dX7_years_62 ?_
            rw [← hQ]
            refine x_iret (v := (-1000001)) hx hb hr hX hS hlocks dX7_years_64 ?_
            show PT_X7_years _ _ _ _ _ _ _ _
            unfold PT_X7_years
            rw [if_pos c_3, if_neg (ne_of_true c_11), if_neg (ne_of_true c_14), if_neg (ne_of_false c_15)]
            exact ⟨rfl, rfl⟩
    refine lv_icmp_eq (tgt := 29) hx hb dX7_years_15 (by decide) (fun c_4 => ?_) (fun c_4 => ?_)
    · refine lv_iconst (v := 1) hx hb dX7_years_29 (by decide) ?_
      refine lv_goto (tgt := 34) hx hb dX7_years_30 (by decide) ?_
      exact kJ_6 (true) (by rw [if_pos c_4]) _ _ hX hS ls (lv_sub hl [0, 1, 2, 3] rfl)
    · refine lv_aload_n hx hb dX7_years_18 rfl (lv_at hl 0 rfl) ?_
      refine x_get (w := (wX G B tt)) (a := 0) (v := .ref (B + (5))) hx hb hts iX7_years_X7 hown hK hX (Nat.le_of_ble_eq_true rfl) (shX_mn (G := G) (B := B)) rfl 2 (by decide) (hts _ kX7_years_25) (fun _ h9 => h9) rfl dX7_years_19 ?_
      refine lv_iload_n hx hb dX7_years_22 rfl (lv_at hl 3 rfl) ?_
      refine x_ip (w := (wX G B tt)) (x := x) (v := bI (decide (0 ≤ m) && decide (m < x 5 1))) (va_runV (As := [.int (m)]) (rest := []) ⟨hx, hb, hml, hown, hts⟩ (c_X3_has (l := l) (G := G) (B := B) (tt := tt) (hW := hW) (x := x) (ρ := 5) (hρ := rg5) (v := m)) (cwV 1 hts gX7_years_X3_has rfl rfl rfl (by decide +kernel) ⟨Nat.le_of_ble_eq_true rfl, Nat.le_of_ble_eq_true rfl⟩) (x_pv (w := (wX G B tt)) (a := 5) hW hX hK hE hS [.int (m)] (rg_lt rg5) (shX_ri (G := G) (B := B) rg5) rfl) rfl rfl hl.1 rfl (lv_room (Nat.le_of_ble_eq_true rfl)) dX7_years_23 ⟨Nat.zero_le _, Nat.zero_le _⟩) hS (fun H_35 lo_36 hX hS => ?_)
      refine x_ifeq (tgt := 33) hx hb dX7_years_26 (by decide) (fun c_37 => ?_) (fun c_37 => ?_)
      · refine lv_iconst (v := 0) hx hb dX7_years_33 (by decide) ?_
        exact kJ_6 (false) (by rw [if_neg c_4, if_pos c_37]) _ _ hX hS ls (lv_sub hl [0, 1, 2, 3] rfl)
      · refine lv_iconst (v := 1) hx hb dX7_years_29 (by decide) ?_
        refine lv_goto (tgt := 34) hx hb dX7_years_30 (by decide) ?_
        exact kJ_6 (true) (by rw [if_neg c_4, if_neg (ne_of_true c_37)]) _ _ hX hS ls (lv_sub hl [0, 1, 2, 3] rfl)
  · refine lv_ldc (v := (-1000002)) hx hb hown (hts _ kX7_years_155) dX7_years_10 ?_
    rw [← hQ]
    refine x_iret (v := (-1000002)) hx hb hr hX hS hlocks dX7_years_12 ?_
    show PT_X7_years _ _ _ _ _ _ _ _
    unfold PT_X7_years
    rw [if_neg (ne_of_true c_3)]
    exact ⟨rfl, rfl⟩
