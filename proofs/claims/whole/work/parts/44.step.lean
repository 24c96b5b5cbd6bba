theorem kX2_step_12 : (.fieldLink RX2 12 "WindTaken$Reader" "tape" "LWindTaken$Tape;" : Cond) ∈ wsX2_step := by decide +kernel
theorem iX2_step_X2 : ∀ w ∈ wsX20, w ∈ wsX2_step := by decide +kernel
theorem kX2_step_18 : (.fieldLink RX2 18 "WindTaken$Reader" "end" "I" : Cond) ∈ wsX2_step := by decide +kernel
theorem kX2_step_117 : (.fieldLink RX2 117 "WindTaken$Reader" "start" "I" : Cond) ∈ wsX2_step := by decide +kernel
theorem kX2_step_148 : (.fieldLink RX2 148 "WindTaken$Tape" "length" "I" : Cond) ∈ wsX2_step := by decide +kernel
theorem iX2_step_X5 : ∀ w ∈ wsX50, w ∈ wsX2_step := by decide +kernel
theorem kX2_step_154 : (.fieldLink RX2 154 "WindTaken$Tape" "bytes" "[B" : Cond) ∈ wsX2_step := by decide +kernel
theorem kX2_step_43 : (.fieldLink RX2 43 "WindTaken$Reader" "token" "I" : Cond) ∈ wsX2_step := by decide +kernel
theorem kX2_step_95 : (.fieldLink RX2 95 "WindTaken$Reader" "number" "I" : Cond) ∈ wsX2_step := by decide +kernel
abbrev rmX2_step : Room := { frames := 1, cells := 0, slots := 0, locals := 24 }
set_option maxHeartbeats 4000000 in
set_option maxRecDepth 100000 in
theorem c_X2_step (l : Launch) (G : GG) (B : Nat) (tt : Nat → Nat) (hW : WOK (wX G B tt)) (x : Mem) {t : Nat} {p : Nat} (ht9 : x 3 1 = nI t) (ht400 : t ≤ 400) (hp : x 2 3 = nI p) (hpt : p ≤ t) : Met l yX2_step wsX2_step rmX2_step (XP G (wX G B tt) [.ref (B + (2))] x) (va_Qv (fun u => (∀ a, a ≠ 2 → u a = x a) ∧ LD (x 4) t p u ∧ u 2 5 = x 2 5 ∧ u 2 6 = x 2 6) (XB G (wX G B tt)) (blkA B (B + 117))) 0 0 (blkA B (B + 117)) := by
  refine Met.ofW (cc := cX2_step) (maxL := 3) (ret := none) (by decide) rfl ?_
  intro pp ee ss mm aa bb mt cd s1 Bd hml hv
  obtain ⟨hae, hX, hK, hE⟩ := hv
  have hx := Bd.exec
  have hb := Bd.bytes
  have hr := Bd.returns
  have hts := atoms_spec (ws := wsX2_step) Bd.pre
  have hown : ss.vm.findClass RX2 = some mm.cls := findClass_of_methodNamed Bd.named
  have hlocks := Bd.notSynchronized
  have hS : va_S (blkA B (B + 117)) ss.heap ss.heap [] := va_S.rf
  have hl := lv_entry ([.ref (B + (2))]) (n := 3) (Nat.le_of_ble_eq_true rfl)
  subst hae
  rw [lg_entry_eq]
  generalize (lg_sl ([.ref (B + (2))]) ++ List.replicate (3 - (lg_sl ([.ref (B + (2))])).length) Slot.unset).toArray = ls at hl ⊢
  have hl : lv_has ls 3 [(0, .ref (B + (2)))] := hl
  generalize ([.ref (B + (2))] : List Value).toArray = aa at hts ⊢
  show W pp l ee rmX2_step ss mm aa bb mt cd ss.heap [] 0 0 _ (F0 mm 0 ls [])
  generalize hQ : MQ bb (va_Qv (fun u => (∀ a, a ≠ 2 → u a = x a) ∧ LD (x 4) t p u ∧ u 2 5 = x 2 5 ∧ u 2 6 = x 2 6) (XB G (wX G B tt)) (blkA B (B + 117))) aa ss 0 0 (blkA B (B + 117)) = Q
  have hs9 := tsN_le (f := x 4) hpt
  have hl9 := leN_le (f := x 4) hpt
  have hf9 := fiN_le (f := x 4) hpt
  refine lv_aload_n hx hb dX2_step_0 rfl (lv_at hl 0 rfl) ?_
  refine lv_aload_n hx hb dX2_step_1 rfl (lv_at hl 0 rfl) ?_
  refine x_get (w := (wX G B tt)) (a := 2) (v := .ref (B + (3))) hx hb hts iX2_step_X2 hown hK hX (Nat.le_of_ble_eq_true rfl) (shX_rd (G := G) (B := B)) rfl 0 (by decide) (hts _ kX2_step_12) (fun _ h9 => h9) rfl dX2_step_2 ?_
  refine lv_aload_n hx hb dX2_step_5 rfl (lv_at hl 0 rfl) ?_
  refine x_get (w := (wX G B tt)) (a := 2) (v := .int (x (2) 3)) hx hb hts iX2_step_X2 hown hK hX (Nat.le_of_ble_eq_true rfl) (shX_rd (G := G) (B := B)) rfl 3 (by decide) (hts _ kX2_step_18) (fun _ h9 => h9) rfl dX2_step_6 ?_
  refine W.eq (g2 := F0 mm 9 ls [.int (nI (p)), .ref (B + (3)), .ref (B + (2))]) (congrArg (fun z9 : Int32 => F0 mm 9 ls [.int (z9), .ref (B + (3)), .ref (B + (2))]) hp) ?_
  refine x_ip (w := (wX G B tt)) (x := x) (v := nI (runE (blP (x 4)) t p)) (va_runV (As := [.int (nI (p))]) (rest := [.ref (B + (2))]) ⟨hx, hb, hml, hown, hts⟩ (c_X5_blanksEnd (l := l) (G := G) (B := B) (tt := tt) (hW := hW) (x := x) (i := p) (t := t) (ht9 := ht9) (ht400 := ht400) (hit := (by omega))) (cwV 1 hts gX2_step_X5_blanksEnd rfl rfl rfl (by decide +kernel) ⟨Nat.le_of_ble_eq_true rfl, Nat.le_of_ble_eq_true rfl⟩) (x_pv (w := (wX G B tt)) (a := 3) hW hX hK hE hS [.int (nI (p))] (Nat.le_of_ble_eq_true rfl) (shX_tp (G := G) (B := B)) rfl) rfl rfl hl.1 rfl (lv_room (Nat.le_of_ble_eq_true rfl)) dX2_step_9 ⟨Nat.zero_le _, Nat.zero_le _⟩) hS (fun H_1 lo_2 hX hS => ?_)
  refine W.eq (g2 := F0 mm 12 ls [.int (nI (tsN (x 4) t p)), .ref (B + (2))]) (congrArg (fun z9 : Int32 => F0 mm 12 ls [.int (z9), .ref (B + (2))]) rfl) ?_
  refine x_put (w := (wX G B tt)) (a := 2) (v := nI (tsN (x 4) t p)) (ty := .int) hx hb hts iX2_step_X2 tyX2 tyX2_ok nmX2 hown hK hW hX hS (Nat.le_of_ble_eq_true rfl) (shX_rd (G := G) (B := B)) rfl 2 (by decide) (hts _ kX2_step_117) (fun _ h9 => h9) rfl (by decide +kernel) rfl rfl (Nat.le_of_ble_eq_true rfl) (shX_rd (G := G) (B := B)) dX2_step_12 (fun H_4 lo_5 hX hS => ?_)
  obtain ⟨x_3, ex_3⟩ : ∃ z, z = mst x (2) 2 (nI (tsN (x 4) t p)) := ⟨_, rfl⟩
  rw [← ex_3] at hX
  have z_6 : x_3 (3) 1 = nI (t) := by rw [ex_3, mst_ne (by first | decide | omega)]; exact ht9
  have z_7 : x_3 (2) 3 = nI (p) := by rw [ex_3, mst_eq, upd_ne (by first | decide | omega)]; exact hp
  have z_8 : x_3 (2) 2 = nI (tsN (x 4) t p) := by rw [ex_3, mst_self]; first | done | exact rfl
  have hA1 : x_3 3 1 = nI t := by rw [ex_3, mst_ne (by decide)]; exact ht9
  have hB1 : x_3 4 = x 4 := by rw [ex_3]; exact mst_ne (by decide)
  refine lv_aload_n hx hb dX2_step_15 rfl (lv_at hl 0 rfl) ?_
  refine x_get (w := (wX G B tt)) (a := 2) (v := .ref (B + (3))) hx hb hts iX2_step_X2 hown hK hX (Nat.le_of_ble_eq_true rfl) (shX_rd (G := G) (B := B)) rfl 0 (by decide) (hts _ kX2_step_12) (fun _ h9 => h9) rfl dX2_step_16 ?_
  refine lv_aload_n hx hb dX2_step_19 rfl (lv_at hl 0 rfl) ?_
  refine x_get (w := (wX G B tt)) (a := 2) (v := .int (x_3 (2) 2)) hx hb hts iX2_step_X2 hown hK hX (Nat.le_of_ble_eq_true rfl) (shX_rd (G := G) (B := B)) rfl 2 (by decide) (hts _ kX2_step_117) (fun _ h9 => h9) rfl dX2_step_20 ?_
  refine W.eq (g2 := F0 mm 23 ls [.int (nI (tsN (x 4) t p)), .ref (B + (3))]) (congrArg (fun z9 : Int32 => F0 mm 23 ls [.int (z9), .ref (B + (3))]) z_8) ?_
  refine x_ip (w := (wX G B tt)) (x := x_3) (v := nI (runE (leP (x_3 4)) t (tsN (x 4) t p))) (va_runV (As := [.int (nI (tsN (x 4) t p))]) (rest := []) ⟨hx, hb, hml, hown, hts⟩ (c_X5_lettersEnd (l := l) (G := G) (B := B) (tt := tt) (hW := hW) (x := x_3) (i := tsN (x 4) t p) (t := t) (ht9 := hA1) (ht400 := ht400) (hit := (by omega))) (cwV 1 hts gX2_step_X5_lettersEnd rfl rfl rfl (by decide +kernel) ⟨Nat.le_of_ble_eq_true rfl, Nat.le_of_ble_eq_true rfl⟩) (x_pv (w := (wX G B tt)) (a := 3) hW hX hK hE hS [.int (nI (tsN (x 4) t p))] (Nat.le_of_ble_eq_true rfl) (shX_tp (G := G) (B := B)) rfl) rfl rfl hl.1 rfl (lv_room (Nat.le_of_ble_eq_true rfl)) dX2_step_23 ⟨Nat.zero_le _, Nat.zero_le _⟩) hS (fun H_9 lo_10 hX hS => ?_)
  refine W.eq (g2 := F0 mm 26 ls [.int (nI (leN (x 4) t p))]) (congrArg (fun z9 : Int32 => F0 mm 26 ls [.int (z9)]) (show nI (runE (leP (x_3 4)) t (tsN (x 4) t p)) = nI (leN (x 4) t p) by rw [hB1]; rfl)) ?_
  refine lv_istore_n (lv' := [(1, .int (nI (leN (x 4) t p))), (0, .ref (B + (2)))]) hx hb dX2_step_26 rfl hl (by decide) rfl (fun ls hl => ?_)
  refine lv_aload_n hx hb dX2_step_27 rfl (lv_at hl 1 rfl) ?_
  refine x_get (w := (wX G B tt)) (a := 2) (v := .ref (B + (3))) hx hb hts iX2_step_X2 hown hK hX (Nat.le_of_ble_eq_true rfl) (shX_rd (G := G) (B := B)) rfl 0 (by decide) (hts _ kX2_step_12) (fun _ h9 => h9) rfl dX2_step_28 ?_
  refine lv_aload_n hx hb dX2_step_31 rfl (lv_at hl 1 rfl) ?_
  refine x_get (w := (wX G B tt)) (a := 2) (v := .int (x_3 (2) 2)) hx hb hts iX2_step_X2 hown hK hX (Nat.le_of_ble_eq_true rfl) (shX_rd (G := G) (B := B)) rfl 2 (by decide) (hts _ kX2_step_117) (fun _ h9 => h9) rfl dX2_step_32 ?_
  refine W.eq (g2 := F0 mm 35 ls [.int (nI (tsN (x 4) t p)), .ref (B + (3))]) (congrArg (fun z9 : Int32 => F0 mm 35 ls [.int (z9), .ref (B + (3))]) z_8) ?_
  refine x_ip (w := (wX G B tt)) (x := x_3) (v := nI (runE (fiP (x_3 4)) t (tsN (x 4) t p))) (va_runV (As := [.int (nI (tsN (x 4) t p))]) (rest := []) ⟨hx, hb, hml, hown, hts⟩ (c_X5_figuresEnd (l := l) (G := G) (B := B) (tt := tt) (hW := hW) (x := x_3) (i := tsN (x 4) t p) (t := t) (ht9 := hA1) (ht400 := ht400) (hit := (by omega))) (cwV 1 hts gX2_step_X5_figuresEnd rfl rfl rfl (by decide +kernel) ⟨Nat.le_of_ble_eq_true rfl, Nat.le_of_ble_eq_true rfl⟩) (x_pv (w := (wX G B tt)) (a := 3) hW hX hK hE hS [.int (nI (tsN (x 4) t p))] (Nat.le_of_ble_eq_true rfl) (shX_tp (G := G) (B := B)) rfl) rfl rfl hl.1 rfl (lv_room (Nat.le_of_ble_eq_true rfl)) dX2_step_35 ⟨Nat.zero_le _, Nat.zero_le _⟩) hS (fun H_11 lo_12 hX hS => ?_)
  refine W.eq (g2 := F0 mm 38 ls [.int (nI (fiN (x 4) t p))]) (congrArg (fun z9 : Int32 => F0 mm 38 ls [.int (z9)]) (show nI (runE (fiP (x_3 4)) t (tsN (x 4) t p)) = nI (fiN (x 4) t p) by rw [hB1]; rfl)) ?_
  refine lv_istore_n (lv' := [(2, .int (nI (fiN (x 4) t p))), (1, .int (nI (leN (x 4) t p))), (0, .ref (B + (2)))]) hx hb dX2_step_38 rfl hl (by decide) rfl (fun ls hl => ?_)
  refine lv_aload_n hx hb dX2_step_39 rfl (lv_at hl 2 rfl) ?_
  refine x_get (w := (wX G B tt)) (a := 2) (v := .int (x_3 (2) 2)) hx hb hts iX2_step_X2 hown hK hX (Nat.le_of_ble_eq_true rfl) (shX_rd (G := G) (B := B)) rfl 2 (by decide) (hts _ kX2_step_117) (fun _ h9 => h9) rfl dX2_step_40 ?_
  refine lv_aload_n hx hb dX2_step_43 rfl (lv_at hl 2 rfl) ?_
  refine x_get (w := (wX G B tt)) (a := 2) (v := .ref (B + (3))) hx hb hts iX2_step_X2 hown hK hX (Nat.le_of_ble_eq_true rfl) (shX_rd (G := G) (B := B)) rfl 0 (by decide) (hts _ kX2_step_12) (fun _ h9 => h9) rfl dX2_step_44 ?_
  refine x_get (w := (wX G B tt)) (a := 3) (v := .int (x_3 (3) 1)) hx hb hts iX2_step_X5 hown hK hX (Nat.le_of_ble_eq_true rfl) (shX_tp (G := G) (B := B)) rfl 1 (by decide) (hts _ kX2_step_148) (fun _ h9 => h9) rfl dX2_step_47 ?_
  refine lv_icmp_lt (tgt := 61) hx hb dX2_step_50 (by decide) (fun c_13 => ?_) (fun c_13 => ?_)
  · have nc_13 := (n_lt (a := tsN (x 4) t p) (b := t) z_8 z_6 (by omega) (by omega)).mp c_13
    refine lv_iload_n hx hb dX2_step_61 rfl (lv_at hl 1 rfl) ?_
    refine lv_aload_n hx hb dX2_step_62 rfl (lv_at hl 2 rfl) ?_
    refine x_get (w := (wX G B tt)) (a := 2) (v := .int (x_3 (2) 2)) hx hb hts iX2_step_X2 hown hK hX (Nat.le_of_ble_eq_true rfl) (shX_rd (G := G) (B := B)) rfl 2 (by decide) (hts _ kX2_step_117) (fun _ h9 => h9) rfl dX2_step_63 ?_
    refine lv_icmp_le (tgt := 82) hx hb dX2_step_66 (by decide) (fun c_14 => ?_) (fun c_14 => ?_)
    · have nc_14 := (n_le (a := leN (x 4) t p) (b := tsN (x 4) t p) rfl z_8 (by omega) (by omega)).mp c_14
      refine lv_iload_n hx hb dX2_step_82 rfl (lv_at hl 0 rfl) ?_
      refine lv_aload_n hx hb dX2_step_83 rfl (lv_at hl 2 rfl) ?_
      refine x_get (w := (wX G B tt)) (a := 2) (v := .int (x_3 (2) 2)) hx hb hts iX2_step_X2 hown hK hX (Nat.le_of_ble_eq_true rfl) (shX_rd (G := G) (B := B)) rfl 2 (by decide) (hts _ kX2_step_117) (fun _ h9 => h9) rfl dX2_step_84 ?_
      refine lv_isub hx hb dX2_step_87 ?_
      refine lv_iconst (v := 3) hx hb dX2_step_88 (by decide) ?_
      refine lv_icmp_le (tgt := 100) hx hb dX2_step_89 (by decide) (fun c_15 => ?_) (fun c_15 => ?_)
      · have nc_15 := (n_le (a := fiN (x 4) t p - (tsN (x 4) t p)) (b := 3) (n_sub rfl z_8 (by omega)) rfl (by omega) (by omega)).mp c_15
        refine lv_iload_n hx hb dX2_step_100 rfl (lv_at hl 0 rfl) ?_
        refine lv_aload_n hx hb dX2_step_101 rfl (lv_at hl 2 rfl) ?_
        refine x_get (w := (wX G B tt)) (a := 2) (v := .int (x_3 (2) 2)) hx hb hts iX2_step_X2 hown hK hX (Nat.le_of_ble_eq_true rfl) (shX_rd (G := G) (B := B)) rfl 2 (by decide) (hts _ kX2_step_117) (fun _ h9 => h9) rfl dX2_step_102 ?_
        refine lv_icmp_le (tgt := 137) hx hb dX2_step_105 (by decide) (fun c_16 => ?_) (fun c_16 => ?_)
        · have nc_16 := (n_le (a := fiN (x 4) t p) (b := tsN (x 4) t p) rfl z_8 (by omega) (by omega)).mp c_16
          refine lv_aload_n hx hb dX2_step_137 rfl (lv_at hl 2 rfl) ?_
          refine lv_aload_n hx hb dX2_step_138 rfl (lv_at hl 2 rfl) ?_
          refine x_get (w := (wX G B tt)) (a := 2) (v := .ref (B + (3))) hx hb hts iX2_step_X2 hown hK hX (Nat.le_of_ble_eq_true rfl) (shX_rd (G := G) (B := B)) rfl 0 (by decide) (hts _ kX2_step_12) (fun _ h9 => h9) rfl dX2_step_139 ?_
          refine x_get (w := (wX G B tt)) (a := 3) (v := .ref (B + (4))) hx hb hts iX2_step_X5 hown hK hX (Nat.le_of_ble_eq_true rfl) (shX_tp (G := G) (B := B)) rfl 0 (by decide) (hts _ kX2_step_154) (fun _ h9 => h9) rfl dX2_step_142 ?_
          refine lv_aload_n hx hb dX2_step_145 rfl (lv_at hl 2 rfl) ?_
          refine x_get (w := (wX G B tt)) (a := 2) (v := .int (x_3 (2) 2)) hx hb hts iX2_step_X2 hown hK hX (Nat.le_of_ble_eq_true rfl) (shX_rd (G := G) (B := B)) rfl 2 (by decide) (hts _ kX2_step_117) (fun _ h9 => h9) rfl dX2_step_146 ?_
          refine x_bald (w := (wX G B tt)) (a := 4) (n := 400) (j := tsN (x 4) t p) hx hb hK hX (Nat.le_of_ble_eq_true rfl) (shX_tb (G := G) (B := B) (f := x_3 (4))) z_8 (by omega) (by decide) dX2_step_149 ?_
          refine lv_bipush (v := 59) hx hb dX2_step_150 (by decide) ?_
          have kJ_19 : ∀ (v_18 : Int32) (_ : v_18 = (if (x_3 (4) (tsN (x 4) t p)) = 59 then (3 : Int32) else (4 : Int32))) (H_20 : Heap) (lo_21 : List Loc) (_ : MR G (wX G B tt) x_3 H_20) (_ : va_S (blkA B (B + 117)) ss.heap H_20 lo_21) (ls : Array Slot) (_ : lv_has ls 3 [(2, .int (nI (fiN (x 4) t p))), (1, .int (nI (leN (x 4) t p))), (0, .ref (B + (2)))]), W pp l ee rmX2_step ss mm aa bb mt cd H_20 lo_21 0 0 Q (F0 mm 160 ls [.int (v_18), .ref (B + (2))]) := by
            intro v_18 ev_18 H_20 lo_21 hX hS ls hl
            refine x_put (w := (wX G B tt)) (a := 2) (v := v_18) (ty := .int) hx hb hts iX2_step_X2 tyX2 tyX2_ok nmX2 hown hK hW hX hS (Nat.le_of_ble_eq_true rfl) (shX_rd (G := G) (B := B)) rfl 1 (by decide) (hts _ kX2_step_43) (fun _ h9 => h9) rfl (by decide +kernel) rfl rfl (Nat.le_of_ble_eq_true rfl) (shX_rd (G := G) (B := B)) dX2_step_160 (fun H_23 lo_24 hX hS => ?_)
            obtain ⟨x_22, ex_22⟩ : ∃ z, z = mst x_3 (2) 1 (v_18) := ⟨_, rfl⟩
            rw [← ex_22] at hX
            have z_25 : x_22 (3) 1 = nI (t) := by rw [ex_22, mst_ne (by first | decide | omega)]; exact z_6
            have z_26 : x_22 (2) 3 = nI (p) := by rw [ex_22, mst_eq, upd_ne (by first | decide | omega)]; exact z_7
            have z_27 : x_22 (2) 2 = nI (tsN (x 4) t p) := by rw [ex_22, mst_eq, upd_ne (by first | decide | omega)]; exact z_8
            refine lv_aload_n hx hb dX2_step_163 rfl (lv_at hl 2 rfl) ?_
            refine lv_aload_n hx hb dX2_step_164 rfl (lv_at hl 2 rfl) ?_
            refine x_get (w := (wX G B tt)) (a := 2) (v := .int (x_22 (2) 2)) hx hb hts iX2_step_X2 hown hK hX (Nat.le_of_ble_eq_true rfl) (shX_rd (G := G) (B := B)) rfl 2 (by decide) (hts _ kX2_step_117) (fun _ h9 => h9) rfl dX2_step_165 ?_
            refine lv_iconst (v := 1) hx hb dX2_step_168 (by decide) ?_
            refine lv_iadd hx hb dX2_step_169 ?_
            refine x_put (w := (wX G B tt)) (a := 2) (v := (x_22 (2) 2) + 1) (ty := .int) hx hb hts iX2_step_X2 tyX2 tyX2_ok nmX2 hown hK hW hX hS (Nat.le_of_ble_eq_true rfl) (shX_rd (G := G) (B := B)) rfl 3 (by decide) (hts _ kX2_step_18) (fun _ h9 => h9) rfl (by decide +kernel) rfl rfl (Nat.le_of_ble_eq_true rfl) (shX_rd (G := G) (B := B)) dX2_step_170 (fun H_29 lo_30 hX hS => ?_)
            obtain ⟨x_28, ex_28⟩ : ∃ z, z = mst x_22 (2) 3 ((x_22 (2) 2) + 1) := ⟨_, rfl⟩
            rw [← ex_28] at hX
            have z_31 : x_28 (3) 1 = nI (t) := by rw [ex_28, mst_ne (by first | decide | omega)]; exact z_25
            have z_33 : x_28 (2) 2 = nI (tsN (x 4) t p) := by rw [ex_28, mst_eq, upd_ne (by first | decide | omega)]; exact z_27
            have z_34 : x_28 (2) 3 = nI (tsN (x 4) t p + 1) := by rw [ex_28, mst_self]; first | done | exact (n_add z_27 rfl)
            rw [← hQ]
            refine x_vret hx hb hr hX hS hlocks dX2_step_173 ?_
            have hen : x 2 3 = nI p := hp
            refine ⟨fun a h => by simp [ex_28, ex_22, ex_3, mst_ne h], ?_, by simp [ex_28, ex_22, ex_3, mst_eq, mst_ne, upd], by simp [ex_28, ex_22, ex_3, mst_eq, mst_ne, upd]⟩
            first | exact ld0 (by omega) (by simp [ex_28, ex_22, ex_3, mst_eq, mst_ne, upd]) (by simp [ex_28, ex_22, ex_3, mst_eq, mst_ne, upd]) (by simp [ex_28, ex_22, ex_3, mst_eq, mst_ne, upd]; exact hen) | exact ld1 (by omega) (by omega) (by simp [ex_28, ex_22, ex_3, mst_eq, mst_ne, upd]) (by simp [ex_28, ex_22, ex_3, mst_eq, mst_ne, upd]) (by simp [ex_28, ex_22, ex_3, mst_eq, mst_ne, upd]) | exact ld4 (by omega) (by omega) (by omega) (by simp [ex_28, ex_22, ex_3, mst_eq, mst_ne, upd]) (by simp [ex_28, ex_22, ex_3, mst_eq, mst_ne, upd]) (by simp [ex_28, ex_22, ex_3, mst_eq, mst_ne, upd]; exact hen) | exact ld2 (by omega) (by omega) (by omega) (by omega) (by simp [ex_28, ex_22, ex_3, mst_eq, mst_ne, upd]) (by simp [ex_28, ex_22, ex_3, mst_eq, mst_ne, upd]) (by simp [ex_28, ex_22, ex_3, mst_eq, mst_ne, upd]) (by simp [ex_28, ex_22, ex_3, mst_eq, mst_ne, upd]; rfl) | exact ld3 (by omega) (by omega) (by omega) (by simp [ev_18, ex_28, ex_22, ex_3, mst_eq, mst_ne, upd]) (by simp [ex_28, ex_22, ex_3, mst_eq, mst_ne, upd]) (by simp [ex_28, ex_22, ex_3, mst_eq, mst_ne, upd]; exact n_add rfl rfl)
          refine lv_icmp_ne (tgt := 159) hx hb dX2_step_152 (by decide) (fun c_17 => ?_) (fun c_17 => ?_)
          · refine lv_iconst (v := 4) hx hb dX2_step_159 (by decide) ?_
            exact kJ_19 (4) (by rw [if_neg c_17]) _ _ hX hS ls (lv_sub hl [0, 1, 2] rfl)
          · refine lv_iconst (v := 3) hx hb dX2_step_155 (by decide) ?_
            refine lv_goto (tgt := 160) hx hb dX2_step_156 (by decide) ?_
            exact kJ_19 (3) (by rw [if_pos c_17]) _ _ hX hS ls (lv_sub hl [0, 1, 2] rfl)
        · have nc_16 := Nat.not_le.mp (fun q => c_16 ((n_le (a := fiN (x 4) t p) (b := tsN (x 4) t p) rfl z_8 (by omega) (by omega)).mpr q))
          refine lv_aload_n hx hb dX2_step_108 rfl (lv_at hl 2 rfl) ?_
          refine lv_iconst (v := 2) hx hb dX2_step_109 (by decide) ?_
          refine x_put (w := (wX G B tt)) (a := 2) (v := 2) (ty := .int) hx hb hts iX2_step_X2 tyX2 tyX2_ok nmX2 hown hK hW hX hS (Nat.le_of_ble_eq_true rfl) (shX_rd (G := G) (B := B)) rfl 1 (by decide) (hts _ kX2_step_43) (fun _ h9 => h9) rfl (by decide +kernel) rfl rfl (Nat.le_of_ble_eq_true rfl) (shX_rd (G := G) (B := B)) dX2_step_110 (fun H_36 lo_37 hX hS => ?_)
          obtain ⟨x_35, ex_35⟩ : ∃ z, z = mst x_3 (2) 1 (2) := ⟨_, rfl⟩
          rw [← ex_35] at hX
          have z_38 : x_35 (3) 1 = nI (t) := by rw [ex_35, mst_ne (by first | decide | omega)]; exact z_6
          have z_39 : x_35 (2) 3 = nI (p) := by rw [ex_35, mst_eq, upd_ne (by first | decide | omega)]; exact z_7
          have z_40 : x_35 (2) 2 = nI (tsN (x 4) t p) := by rw [ex_35, mst_eq, upd_ne (by first | decide | omega)]; exact z_8
          have z_41 : x_35 (2) 1 = nI (2) := by rw [ex_35, mst_self]; first | done | exact rfl
          refine lv_aload_n hx hb dX2_step_113 rfl (lv_at hl 2 rfl) ?_
          refine lv_aload_n hx hb dX2_step_114 rfl (lv_at hl 2 rfl) ?_
          refine x_get (w := (wX G B tt)) (a := 2) (v := .ref (B + (3))) hx hb hts iX2_step_X2 hown hK hX (Nat.le_of_ble_eq_true rfl) (shX_rd (G := G) (B := B)) rfl 0 (by decide) (hts _ kX2_step_12) (fun _ h9 => h9) rfl dX2_step_115 ?_
          refine lv_aload_n hx hb dX2_step_118 rfl (lv_at hl 2 rfl) ?_
          refine x_get (w := (wX G B tt)) (a := 2) (v := .int (x_35 (2) 2)) hx hb hts iX2_step_X2 hown hK hX (Nat.le_of_ble_eq_true rfl) (shX_rd (G := G) (B := B)) rfl 2 (by decide) (hts _ kX2_step_117) (fun _ h9 => h9) rfl dX2_step_119 ?_
          refine lv_iload_n hx hb dX2_step_122 rfl (lv_at hl 0 rfl) ?_
          have hA2 : x_35 3 1 = nI t := by rw [ex_35, mst_ne (by decide)]; exact hA1
          refine W.eq (g2 := F0 mm 123 ls [.int (nI (fiN (x 4) t p)), .int (nI (tsN (x 4) t p)), .ref (B + (3)), .ref (B + (2))]) (congrArg (fun z9 : Int32 => F0 mm 123 ls [.int (nI (fiN (x 4) t p)), .int (z9), .ref (B + (3)), .ref (B + (2))]) z_40) ?_
          refine x_ip (w := (wX G B tt)) (x := x_35) (v := valP (x_35 4) (tsN (x 4) t p) ((fiN (x 4) t p) - (tsN (x 4) t p))) (va_runV (As := [.int (nI (tsN (x 4) t p)), .int (nI (fiN (x 4) t p))]) (rest := [.ref (B + (2))]) ⟨hx, hb, hml, hown, hts⟩ (c_X5_valueOf (l := l) (G := G) (B := B) (tt := tt) (hW := hW) (x := x_35) (i := tsN (x 4) t p) (j := fiN (x 4) t p) (t := t) (ht9 := hA2) (ht400 := ht400) (hij := (by omega)) (hjt := (by omega))) (cwV 2 hts gX2_step_X5_valueOf rfl rfl rfl (by decide +kernel) ⟨Nat.le_of_ble_eq_true rfl, Nat.le_of_ble_eq_true rfl⟩) (x_pv (w := (wX G B tt)) (a := 3) hW hX hK hE hS [.int (nI (tsN (x 4) t p)), .int (nI (fiN (x 4) t p))] (Nat.le_of_ble_eq_true rfl) (shX_tp (G := G) (B := B)) rfl) rfl rfl hl.1 rfl (lv_room (Nat.le_of_ble_eq_true rfl)) dX2_step_123 ⟨Nat.zero_le _, Nat.zero_le _⟩) hS (fun H_42 lo_43 hX hS => ?_)
          refine x_put (w := (wX G B tt)) (a := 2) (v := valP (x_35 4) (tsN (x 4) t p) ((fiN (x 4) t p) - (tsN (x 4) t p))) (ty := .int) hx hb hts iX2_step_X2 tyX2 tyX2_ok nmX2 hown hK hW hX hS (Nat.le_of_ble_eq_true rfl) (shX_rd (G := G) (B := B)) rfl 4 (by decide) (hts _ kX2_step_95) (fun _ h9 => h9) rfl (by decide +kernel) rfl rfl (Nat.le_of_ble_eq_true rfl) (shX_rd (G := G) (B := B)) dX2_step_126 (fun H_45 lo_46 hX hS => ?_)
          obtain ⟨x_44, ex_44⟩ : ∃ z, z = mst x_35 (2) 4 (valP (x_35 4) (tsN (x 4) t p) ((fiN (x 4) t p) - (tsN (x 4) t p))) := ⟨_, rfl⟩
          rw [← ex_44] at hX
          have z_47 : x_44 (3) 1 = nI (t) := by rw [ex_44, mst_ne (by first | decide | omega)]; exact z_38
          have z_48 : x_44 (2) 3 = nI (p) := by rw [ex_44, mst_eq, upd_ne (by first | decide | omega)]; exact z_39
          have z_49 : x_44 (2) 2 = nI (tsN (x 4) t p) := by rw [ex_44, mst_eq, upd_ne (by first | decide | omega)]; exact z_40
          have z_50 : x_44 (2) 1 = nI (2) := by rw [ex_44, mst_eq, upd_ne (by first | decide | omega)]; exact z_41
          refine lv_aload_n hx hb dX2_step_129 rfl (lv_at hl 2 rfl) ?_
          refine lv_iload_n hx hb dX2_step_130 rfl (lv_at hl 0 rfl) ?_
          refine x_put (w := (wX G B tt)) (a := 2) (v := nI (fiN (x 4) t p)) (ty := .int) hx hb hts iX2_step_X2 tyX2 tyX2_ok nmX2 hown hK hW hX hS (Nat.le_of_ble_eq_true rfl) (shX_rd (G := G) (B := B)) rfl 3 (by decide) (hts _ kX2_step_18) (fun _ h9 => h9) rfl (by decide +kernel) rfl rfl (Nat.le_of_ble_eq_true rfl) (shX_rd (G := G) (B := B)) dX2_step_131 (fun H_52 lo_53 hX hS => ?_)
          obtain ⟨x_51, ex_51⟩ : ∃ z, z = mst x_44 (2) 3 (nI (fiN (x 4) t p)) := ⟨_, rfl⟩
          rw [← ex_51] at hX
          have z_54 : x_51 (3) 1 = nI (t) := by rw [ex_51, mst_ne (by first | decide | omega)]; exact z_47
          have z_56 : x_51 (2) 2 = nI (tsN (x 4) t p) := by rw [ex_51, mst_eq, upd_ne (by first | decide | omega)]; exact z_49
          have z_57 : x_51 (2) 1 = nI (2) := by rw [ex_51, mst_eq, upd_ne (by first | decide | omega)]; exact z_50
          have z_58 : x_51 (2) 3 = nI (fiN (x 4) t p) := by rw [ex_51, mst_self]; first | done | exact rfl
          refine lv_goto (tgt := 173) hx hb dX2_step_134 (by decide) ?_
          rw [← hQ]
          refine x_vret hx hb hr hX hS hlocks dX2_step_173 ?_
          have hen : x 2 3 = nI p := hp
          refine ⟨fun a h => by simp [ex_51, ex_44, ex_35, ex_3, mst_ne h], ?_, by simp [ex_51, ex_44, ex_35, ex_3, mst_eq, mst_ne, upd], by simp [ex_51, ex_44, ex_35, ex_3, mst_eq, mst_ne, upd]⟩
          first | exact ld0 (by omega) (by simp [ex_51, ex_44, ex_35, ex_3, mst_eq, mst_ne, upd]) (by simp [ex_51, ex_44, ex_35, ex_3, mst_eq, mst_ne, upd]) (by simp [ex_51, ex_44, ex_35, ex_3, mst_eq, mst_ne, upd]; exact hen) | exact ld1 (by omega) (by omega) (by simp [ex_51, ex_44, ex_35, ex_3, mst_eq, mst_ne, upd]) (by simp [ex_51, ex_44, ex_35, ex_3, mst_eq, mst_ne, upd]) (by simp [ex_51, ex_44, ex_35, ex_3, mst_eq, mst_ne, upd]) | exact ld4 (by omega) (by omega) (by omega) (by simp [ex_51, ex_44, ex_35, ex_3, mst_eq, mst_ne, upd]) (by simp [ex_51, ex_44, ex_35, ex_3, mst_eq, mst_ne, upd]) (by simp [ex_51, ex_44, ex_35, ex_3, mst_eq, mst_ne, upd]; exact hen) | exact ld2 (by omega) (by omega) (by omega) (by omega) (by simp [ex_51, ex_44, ex_35, ex_3, mst_eq, mst_ne, upd]) (by simp [ex_51, ex_44, ex_35, ex_3, mst_eq, mst_ne, upd]) (by simp [ex_51, ex_44, ex_35, ex_3, mst_eq, mst_ne, upd]) (by simp [ex_51, ex_44, ex_35, ex_3, mst_eq, mst_ne, upd]; rfl) | exact ld3 (by omega) (by omega) (by omega) (by simp [rfl, ex_51, ex_44, ex_35, ex_3, mst_eq, mst_ne, upd]) (by simp [ex_51, ex_44, ex_35, ex_3, mst_eq, mst_ne, upd]) (by simp [ex_51, ex_44, ex_35, ex_3, mst_eq, mst_ne, upd]; exact n_add rfl rfl)
      · have nc_15 := Nat.not_le.mp (fun q => c_15 ((n_le (a := fiN (x 4) t p - (tsN (x 4) t p)) (b := 3) (n_sub rfl z_8 (by omega)) rfl (by omega) (by omega)).mpr q))
        refine lv_aload_n hx hb dX2_step_92 rfl (lv_at hl 2 rfl) ?_
        refine lv_iconst (v := 4) hx hb dX2_step_93 (by decide) ?_
        refine x_put (w := (wX G B tt)) (a := 2) (v := 4) (ty := .int) hx hb hts iX2_step_X2 tyX2 tyX2_ok nmX2 hown hK hW hX hS (Nat.le_of_ble_eq_true rfl) (shX_rd (G := G) (B := B)) rfl 1 (by decide) (hts _ kX2_step_43) (fun _ h9 => h9) rfl (by decide +kernel) rfl rfl (Nat.le_of_ble_eq_true rfl) (shX_rd (G := G) (B := B)) dX2_step_94 (fun H_60 lo_61 hX hS => ?_)
        obtain ⟨x_59, ex_59⟩ : ∃ z, z = mst x_3 (2) 1 (4) := ⟨_, rfl⟩
        rw [← ex_59] at hX
        have z_62 : x_59 (3) 1 = nI (t) := by rw [ex_59, mst_ne (by first | decide | omega)]; exact z_6
        have z_63 : x_59 (2) 3 = nI (p) := by rw [ex_59, mst_eq, upd_ne (by first | decide | omega)]; exact z_7
        have z_64 : x_59 (2) 2 = nI (tsN (x 4) t p) := by rw [ex_59, mst_eq, upd_ne (by first | decide | omega)]; exact z_8
        have z_65 : x_59 (2) 1 = nI (4) := by rw [ex_59, mst_self]; first | done | exact rfl
        refine lv_goto (tgt := 173) hx hb dX2_step_97 (by decide) ?_
        rw [← hQ]
        refine x_vret hx hb hr hX hS hlocks dX2_step_173 ?_
        have hen : x 2 3 = nI p := hp
        refine ⟨fun a h => by simp [ex_59, ex_3, mst_ne h], ?_, by simp [ex_59, ex_3, mst_eq, mst_ne, upd], by simp [ex_59, ex_3, mst_eq, mst_ne, upd]⟩
        first | exact ld0 (by omega) (by simp [ex_59, ex_3, mst_eq, mst_ne, upd]) (by simp [ex_59, ex_3, mst_eq, mst_ne, upd]) (by simp [ex_59, ex_3, mst_eq, mst_ne, upd]; exact hen) | exact ld1 (by omega) (by omega) (by simp [ex_59, ex_3, mst_eq, mst_ne, upd]) (by simp [ex_59, ex_3, mst_eq, mst_ne, upd]) (by simp [ex_59, ex_3, mst_eq, mst_ne, upd]) | exact ld4 (by omega) (by omega) (by omega) (by simp [ex_59, ex_3, mst_eq, mst_ne, upd]) (by simp [ex_59, ex_3, mst_eq, mst_ne, upd]) (by simp [ex_59, ex_3, mst_eq, mst_ne, upd]; exact hen) | exact ld2 (by omega) (by omega) (by omega) (by omega) (by simp [ex_59, ex_3, mst_eq, mst_ne, upd]) (by simp [ex_59, ex_3, mst_eq, mst_ne, upd]) (by simp [ex_59, ex_3, mst_eq, mst_ne, upd]) (by simp [ex_59, ex_3, mst_eq, mst_ne, upd]; rfl) | exact ld3 (by omega) (by omega) (by omega) (by simp [rfl, ex_59, ex_3, mst_eq, mst_ne, upd]) (by simp [ex_59, ex_3, mst_eq, mst_ne, upd]) (by simp [ex_59, ex_3, mst_eq, mst_ne, upd]; exact n_add rfl rfl)
    · have nc_14 := Nat.not_le.mp (fun q => c_14 ((n_le (a := leN (x 4) t p) (b := tsN (x 4) t p) rfl z_8 (by omega) (by omega)).mpr q))
      refine lv_aload_n hx hb dX2_step_69 rfl (lv_at hl 2 rfl) ?_
      refine lv_iconst (v := 1) hx hb dX2_step_70 (by decide) ?_
      refine x_put (w := (wX G B tt)) (a := 2) (v := 1) (ty := .int) hx hb hts iX2_step_X2 tyX2 tyX2_ok nmX2 hown hK hW hX hS (Nat.le_of_ble_eq_true rfl) (shX_rd (G := G) (B := B)) rfl 1 (by decide) (hts _ kX2_step_43) (fun _ h9 => h9) rfl (by decide +kernel) rfl rfl (Nat.le_of_ble_eq_true rfl) (shX_rd (G := G) (B := B)) dX2_step_71 (fun H_67 lo_68 hX hS => ?_)
      obtain ⟨x_66, ex_66⟩ : ∃ z, z = mst x_3 (2) 1 (1) := ⟨_, rfl⟩
      rw [← ex_66] at hX
      have z_69 : x_66 (3) 1 = nI (t) := by rw [ex_66, mst_ne (by first | decide | omega)]; exact z_6
      have z_70 : x_66 (2) 3 = nI (p) := by rw [ex_66, mst_eq, upd_ne (by first | decide | omega)]; exact z_7
      have z_71 : x_66 (2) 2 = nI (tsN (x 4) t p) := by rw [ex_66, mst_eq, upd_ne (by first | decide | omega)]; exact z_8
      have z_72 : x_66 (2) 1 = nI (1) := by rw [ex_66, mst_self]; first | done | exact rfl
      refine lv_aload_n hx hb dX2_step_74 rfl (lv_at hl 2 rfl) ?_
      refine lv_iload_n hx hb dX2_step_75 rfl (lv_at hl 1 rfl) ?_
      refine x_put (w := (wX G B tt)) (a := 2) (v := nI (leN (x 4) t p)) (ty := .int) hx hb hts iX2_step_X2 tyX2 tyX2_ok nmX2 hown hK hW hX hS (Nat.le_of_ble_eq_true rfl) (shX_rd (G := G) (B := B)) rfl 3 (by decide) (hts _ kX2_step_18) (fun _ h9 => h9) rfl (by decide +kernel) rfl rfl (Nat.le_of_ble_eq_true rfl) (shX_rd (G := G) (B := B)) dX2_step_76 (fun H_74 lo_75 hX hS => ?_)
      obtain ⟨x_73, ex_73⟩ : ∃ z, z = mst x_66 (2) 3 (nI (leN (x 4) t p)) := ⟨_, rfl⟩
      rw [← ex_73] at hX
      have z_76 : x_73 (3) 1 = nI (t) := by rw [ex_73, mst_ne (by first | decide | omega)]; exact z_69
      have z_78 : x_73 (2) 2 = nI (tsN (x 4) t p) := by rw [ex_73, mst_eq, upd_ne (by first | decide | omega)]; exact z_71
      have z_79 : x_73 (2) 1 = nI (1) := by rw [ex_73, mst_eq, upd_ne (by first | decide | omega)]; exact z_72
      have z_80 : x_73 (2) 3 = nI (leN (x 4) t p) := by rw [ex_73, mst_self]; first | done | exact rfl
      refine lv_goto (tgt := 173) hx hb dX2_step_79 (by decide) ?_
      rw [← hQ]
      refine x_vret hx hb hr hX hS hlocks dX2_step_173 ?_
      have hen : x 2 3 = nI p := hp
      refine ⟨fun a h => by simp [ex_73, ex_66, ex_3, mst_ne h], ?_, by simp [ex_73, ex_66, ex_3, mst_eq, mst_ne, upd], by simp [ex_73, ex_66, ex_3, mst_eq, mst_ne, upd]⟩
      first | exact ld0 (by omega) (by simp [ex_73, ex_66, ex_3, mst_eq, mst_ne, upd]) (by simp [ex_73, ex_66, ex_3, mst_eq, mst_ne, upd]) (by simp [ex_73, ex_66, ex_3, mst_eq, mst_ne, upd]; exact hen) | exact ld1 (by omega) (by omega) (by simp [ex_73, ex_66, ex_3, mst_eq, mst_ne, upd]) (by simp [ex_73, ex_66, ex_3, mst_eq, mst_ne, upd]) (by simp [ex_73, ex_66, ex_3, mst_eq, mst_ne, upd]) | exact ld4 (by omega) (by omega) (by omega) (by simp [ex_73, ex_66, ex_3, mst_eq, mst_ne, upd]) (by simp [ex_73, ex_66, ex_3, mst_eq, mst_ne, upd]) (by simp [ex_73, ex_66, ex_3, mst_eq, mst_ne, upd]; exact hen) | exact ld2 (by omega) (by omega) (by omega) (by omega) (by simp [ex_73, ex_66, ex_3, mst_eq, mst_ne, upd]) (by simp [ex_73, ex_66, ex_3, mst_eq, mst_ne, upd]) (by simp [ex_73, ex_66, ex_3, mst_eq, mst_ne, upd]) (by simp [ex_73, ex_66, ex_3, mst_eq, mst_ne, upd]; rfl) | exact ld3 (by omega) (by omega) (by omega) (by simp [rfl, ex_73, ex_66, ex_3, mst_eq, mst_ne, upd]) (by simp [ex_73, ex_66, ex_3, mst_eq, mst_ne, upd]) (by simp [ex_73, ex_66, ex_3, mst_eq, mst_ne, upd]; exact n_add rfl rfl)
  · have nc_13 := Nat.not_lt.mp (fun q => c_13 ((n_lt (a := tsN (x 4) t p) (b := t) z_8 z_6 (by omega) (by omega)).mpr q))
    refine lv_aload_n hx hb dX2_step_53 rfl (lv_at hl 2 rfl) ?_
    refine lv_iconst (v := 0) hx hb dX2_step_54 (by decide) ?_
    refine x_put (w := (wX G B tt)) (a := 2) (v := 0) (ty := .int) hx hb hts iX2_step_X2 tyX2 tyX2_ok nmX2 hown hK hW hX hS (Nat.le_of_ble_eq_true rfl) (shX_rd (G := G) (B := B)) rfl 1 (by decide) (hts _ kX2_step_43) (fun _ h9 => h9) rfl (by decide +kernel) rfl rfl (Nat.le_of_ble_eq_true rfl) (shX_rd (G := G) (B := B)) dX2_step_55 (fun H_82 lo_83 hX hS => ?_)
    obtain ⟨x_81, ex_81⟩ : ∃ z, z = mst x_3 (2) 1 (0) := ⟨_, rfl⟩
    rw [← ex_81] at hX
    have z_84 : x_81 (3) 1 = nI (t) := by rw [ex_81, mst_ne (by first | decide | omega)]; exact z_6
    have z_85 : x_81 (2) 3 = nI (p) := by rw [ex_81, mst_eq, upd_ne (by first | decide | omega)]; exact z_7
    have z_86 : x_81 (2) 2 = nI (tsN (x 4) t p) := by rw [ex_81, mst_eq, upd_ne (by first | decide | omega)]; exact z_8
    have z_87 : x_81 (2) 1 = nI (0) := by rw [ex_81, mst_self]; first | done | exact rfl
    refine lv_goto (tgt := 173) hx hb dX2_step_58 (by decide) ?_
    rw [← hQ]
    refine x_vret hx hb hr hX hS hlocks dX2_step_173 ?_
    have hen : x 2 3 = nI p := hp
    refine ⟨fun a h => by simp [ex_81, ex_3, mst_ne h], ?_, by simp [ex_81, ex_3, mst_eq, mst_ne, upd], by simp [ex_81, ex_3, mst_eq, mst_ne, upd]⟩
    first | exact ld0 (by omega) (by simp [ex_81, ex_3, mst_eq, mst_ne, upd]) (by simp [ex_81, ex_3, mst_eq, mst_ne, upd]) (by simp [ex_81, ex_3, mst_eq, mst_ne, upd]; exact hen) | exact ld1 (by omega) (by omega) (by simp [ex_81, ex_3, mst_eq, mst_ne, upd]) (by simp [ex_81, ex_3, mst_eq, mst_ne, upd]) (by simp [ex_81, ex_3, mst_eq, mst_ne, upd]) | exact ld4 (by omega) (by omega) (by omega) (by simp [ex_81, ex_3, mst_eq, mst_ne, upd]) (by simp [ex_81, ex_3, mst_eq, mst_ne, upd]) (by simp [ex_81, ex_3, mst_eq, mst_ne, upd]; exact hen) | exact ld2 (by omega) (by omega) (by omega) (by omega) (by simp [ex_81, ex_3, mst_eq, mst_ne, upd]) (by simp [ex_81, ex_3, mst_eq, mst_ne, upd]) (by simp [ex_81, ex_3, mst_eq, mst_ne, upd]) (by simp [ex_81, ex_3, mst_eq, mst_ne, upd]; rfl) | exact ld3 (by omega) (by omega) (by omega) (by simp [rfl, ex_81, ex_3, mst_eq, mst_ne, upd]) (by simp [ex_81, ex_3, mst_eq, mst_ne, upd]) (by simp [ex_81, ex_3, mst_eq, mst_ne, upd]; exact n_add rfl rfl)
