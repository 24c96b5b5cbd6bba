theorem kX7_windOf_38 : (.fieldLink RX7 38 "WindTaken" "quarters" "[LWindTaken$Quarter;" : Cond) ∈ wsX7_windOf := by decide +kernel
theorem iX7_windOf_X7 : ∀ w ∈ wsX70, w ∈ wsX7_windOf := by decide +kernel
theorem kX7_windOf_25 : (.fieldLink RX7 25 "WindTaken" "ridge" "LWindTaken$Ridge;" : Cond) ∈ wsX7_windOf := by decide +kernel
abbrev rmX7_windOf : Room := { frames := 4, cells := 0, slots := 0, locals := 94 }
set_option maxHeartbeats 4000000 in
set_option maxRecDepth 100000 in
theorem c_X7_windOf (l : Launch) (G : GG) (B : Nat) (tt : Nat → Nat) (hW : WOK (wX G B tt)) (x : Mem) {q : Nat} (w : Int32) {n : Nat} {nw : Nat → Int32} (hR : RR n x 5 nw) (hq : q < 4) : Met l yX7_windOf wsX7_windOf rmX7_windOf (XP G (wX G B tt) [.ref (B + (0)), .int (nI q), .int (w)] x) (va_Qr (fun u => offQ q x u ∧ SV n nw u q hNo ∧ BL nw u q w ∧ RQ n u q nw) (XR G (wX G B tt) (B + (65 + 13 * q))) (blkA B (B + 117))) 0 0 (blkA B (B + 117)) := by
  refine Met.ofW (cc := cX7_windOf) (maxL := 4) (ret := (some (.object "WindTaken$Quarter"))) (by decide) rfl ?_
  intro pp ee ss mm aa bb mt cd s1 Bd hml hv
  obtain ⟨hae, hX, hK, hE⟩ := hv
  have hx := Bd.exec
  have hb := Bd.bytes
  have hr := Bd.returns
  have hts := atoms_spec (ws := wsX7_windOf) Bd.pre
  have hown : ss.vm.findClass RX7 = some mm.cls := findClass_of_methodNamed Bd.named
  have hlocks := Bd.notSynchronized
  have hS : va_S (blkA B (B + 117)) ss.heap ss.heap [] := va_S.rf
  have hl := lv_entry ([.ref (B + (0)), .int (nI q), .int (w)]) (n := 4) (Nat.le_of_ble_eq_true rfl)
  subst hae
  rw [lg_entry_eq]
  generalize (lg_sl ([.ref (B + (0)), .int (nI q), .int (w)]) ++ List.replicate (4 - (lg_sl ([.ref (B + (0)), .int (nI q), .int (w)])).length) Slot.unset).toArray = ls at hl ⊢
  have hl : lv_has ls 4 [(0, .ref (B + (0))), (1, .int (nI q)), (2, .int (w))] := hl
  generalize ([.ref (B + (0)), .int (nI q), .int (w)] : List Value).toArray = aa at hts ⊢
  show W pp l ee rmX7_windOf ss mm aa bb mt cd ss.heap [] 0 0 _ (F0 mm 0 ls [])
  generalize hQ : MQ bb (va_Qr (fun u => offQ q x u ∧ SV n nw u q hNo ∧ BL nw u q w ∧ RQ n u q nw) (XR G (wX G B tt) (B + (65 + 13 * q))) (blkA B (B + 117))) aa ss 0 0 (blkA B (B + 117)) = Q
  have hn8 := hR.1
  refine lv_aload_n hx hb dX7_windOf_0 rfl (lv_at hl 0 rfl) ?_
  refine x_get (w := (wX G B tt)) (a := 0) (v := .ref (B + (26))) hx hb hts iX7_windOf_X7 hown hK hX (Nat.le_of_ble_eq_true rfl) (shX_mn (G := G) (B := B)) rfl 5 (by decide) (hts _ kX7_windOf_38) (fun _ h9 => h9) rfl dX7_windOf_1 ?_
  refine lv_iload_n hx hb dX7_windOf_4 rfl (lv_at hl 1 rfl) ?_
  refine x_aald (w := (wX G B tt)) (a := 26) (n := 4) (j := q) (q := B + (65 + 13 * q)) (t0 := 3) hx hb hK hX (Nat.le_of_ble_eq_true rfl) (shX_qa (G := G) (B := B) (f := x (26))) rfl rfl (by omega) (by decide) rfl dX7_windOf_5 ?_
  refine lv_astore_n (lv' := [(3, .ref (B + (65 + 13 * q))), (0, .ref (B + (0))), (1, .int (nI q)), (2, .int (w))]) hx hb dX7_windOf_6 rfl hl (by decide) rfl (fun ls hl => ?_)
  refine lv_aload_n hx hb dX7_windOf_7 rfl (lv_at hl 0 rfl) ?_
  refine lv_aload_n hx hb dX7_windOf_8 rfl (lv_at hl 1 rfl) ?_
  refine x_get (w := (wX G B tt)) (a := 0) (v := .ref (B + (5))) hx hb hts iX7_windOf_X7 hown hK hX (Nat.le_of_ble_eq_true rfl) (shX_mn (G := G) (B := B)) rfl 2 (by decide) (hts _ kX7_windOf_25) (fun _ h9 => h9) rfl dX7_windOf_9 ?_
  refine lv_iload_n hx hb dX7_windOf_12 rfl (lv_at hl 2 rfl) ?_
  refine lv_iconst (v := (-1)) hx hb dX7_windOf_13 (by decide) ?_
  refine x_vf (w := (wX G B tt)) (va_runV (As := [.ref (B + (5)), .int (nI q), .int ((-1))]) (rest := []) ⟨hx, hb, hml, hown, hts⟩ (c_X1_survey (l := l) (G := G) (B := B) (tt := tt) (hW := hW) (x := x) (q := q) (hq := (by omega)) (rz := (-1)) (n := n) (nw := nw) (h := hNo) (hR := hR) (hh := (hh_no hn8))) (cwV 3 hts gX7_windOf_X1_survey rfl rfl rfl (by decide +kernel) ⟨Nat.le_of_ble_eq_true rfl, Nat.le_of_ble_eq_true rfl⟩) (x_pv (w := (wX G B tt)) (a := 65 + 13 * q) hW hX hK hE hS [.ref (B + (5)), .int (nI q), .int ((-1))] (qu_lt (by omega)) (shX_qu (G := G) (B := B) (by omega)) rfl) rfl rfl hl.1 rfl (lv_room (Nat.le_of_ble_eq_true rfl)) dX7_windOf_14 ⟨Nat.zero_le _, Nat.zero_le _⟩) hS (fun x_3 H_1 lo_2 h_14 hX hS => ?_)
  try dsimp only at h_14
  obtain ⟨hoS, hSVS, hRq, hzS⟩ := h_14
  refine lv_aload_n hx hb dX7_windOf_17 rfl (lv_at hl 0 rfl) ?_
  refine lv_iload_n hx hb dX7_windOf_18 rfl (lv_at hl 3 rfl) ?_
  refine x_vf (w := (wX G B tt)) (va_runV (As := [.int (w)]) (rest := []) ⟨hx, hb, hml, hown, hts⟩ (c_X1_blow (l := l) (G := G) (B := B) (tt := tt) (hW := hW) (x := x_3) (q := q) (hq := (by omega)) (w := w) (n := n) (nw := nw) (hRq := hRq)) (cwV 1 hts gX7_windOf_X1_blow rfl rfl rfl (by decide +kernel) ⟨Nat.le_of_ble_eq_true rfl, Nat.le_of_ble_eq_true rfl⟩) (x_pv (w := (wX G B tt)) (a := 65 + 13 * q) hW hX hK hE hS [.int (w)] (qu_lt (by omega)) (shX_qu (G := G) (B := B) (by omega)) rfl) rfl rfl hl.1 rfl (lv_room (Nat.le_of_ble_eq_true rfl)) dX7_windOf_19 ⟨Nat.zero_le _, Nat.zero_le _⟩) hS (fun x_6 H_4 lo_5 h_19 hX hS => ?_)
  try dsimp only at h_19
  refine lv_aload_n hx hb dX7_windOf_22 rfl (lv_at hl 0 rfl) ?_
  rw [← hQ]
  refine x_aret hx hb hr hX hS hlocks dX7_windOf_23 ?_
  exact ⟨hoS.tr (fun a h9 => h_19.1 a (by omega)), hSVS.keep (h_19.1 _ (by omega)) (h_19.1 _ (by omega)), h_19.2, hRq.keep (fun a a1 a2 => h_19.1 a (by omega))⟩

theorem kX7_pass_25 : (.fieldLink RX7 25 "WindTaken" "ridge" "LWindTaken$Ridge;" : Cond) ∈ wsX7_pass := by decide +kernel
theorem iX7_pass_X7 : ∀ w ∈ wsX70, w ∈ wsX7_pass := by decide +kernel
theorem kX7_pass_129 : (.fieldLink RX7 129 "WindTaken$Ridge" "count" "I" : Cond) ∈ wsX7_pass := by decide +kernel
theorem iX7_pass_X3 : ∀ w ∈ wsX30, w ∈ wsX7_pass := by decide +kernel
theorem kX7_pass_287 : (.fieldLink RX7 287 "WindTaken$Ridge" "gone" "I" : Cond) ∈ wsX7_pass := by decide +kernel
theorem kX7_pass_135 : (.fieldLink RX7 135 "WindTaken$Ridge" "mills" "[LWindTaken$Mill;" : Cond) ∈ wsX7_pass := by decide +kernel
theorem kX7_pass_162 : (.fieldLink RX7 162 "WindTaken$Mill" "corn" "I" : Cond) ∈ wsX7_pass := by decide +kernel
theorem iX7_pass_X0 : ∀ w ∈ wsX00, w ∈ wsX7_pass := by decide +kernel
theorem kX7_pass_192 : (.fieldLink RX7 192 "WindTaken$Mill" "flour" "I" : Cond) ∈ wsX7_pass := by decide +kernel
theorem kX7_pass_195 : (.fieldLink RX7 195 "WindTaken$Mill" "wear" "I" : Cond) ∈ wsX7_pass := by decide +kernel
abbrev rmX7_pass : Room := { frames := 5, cells := 0, slots := 0, locals := 117 }
set_option maxHeartbeats 4000000 in
set_option maxRecDepth 100000 in
theorem c_X7_pass (l : Launch) (G : GG) (B : Nat) (tt : Nat → Nat) (hW : WOK (wX G B tt)) (x : Mem) {q : Nat} (w : Int32) {n : Nat} {nw : Nat → Int32} (hR : RR n x 5 nw) (hq : q < 4) : Met l yX7_pass wsX7_pass rmX7_pass (XP G (wX G B tt) [.ref (B + (0)), .int (nI q), .int (w)] x) (va_Qi (fun r u => r = sMade nw n q w 0 ∧ RR n u 5 (hourNw nw n q w) ∧ offP q x u) (XB G (wX G B tt)) (blkA B (B + 117))) 0 0 (blkA B (B + 117)) := by
  refine Met.ofW (cc := cX7_pass) (maxL := 8) (ret := (some .int)) (by decide) rfl ?_
  intro pp ee ss mm aa bb mt cd s1 Bd hml hv
  obtain ⟨hae, hX, hK, hE⟩ := hv
  have hx := Bd.exec
  have hb := Bd.bytes
  have hr := Bd.returns
  have hts := atoms_spec (ws := wsX7_pass) Bd.pre
  have hown : ss.vm.findClass RX7 = some mm.cls := findClass_of_methodNamed Bd.named
  have hlocks := Bd.notSynchronized
  have hS : va_S (blkA B (B + 117)) ss.heap ss.heap [] := va_S.rf
  have hl := lv_entry ([.ref (B + (0)), .int (nI q), .int (w)]) (n := 8) (Nat.le_of_ble_eq_true rfl)
  subst hae
  rw [lg_entry_eq]
  generalize (lg_sl ([.ref (B + (0)), .int (nI q), .int (w)]) ++ List.replicate (8 - (lg_sl ([.ref (B + (0)), .int (nI q), .int (w)])).length) Slot.unset).toArray = ls at hl ⊢
  have hl : lv_has ls 8 [(0, .ref (B + (0))), (1, .int (nI q)), (2, .int (w))] := hl
  generalize ([.ref (B + (0)), .int (nI q), .int (w)] : List Value).toArray = aa at hts ⊢
  show W pp l ee rmX7_pass ss mm aa bb mt cd ss.heap [] 0 0 _ (F0 mm 0 ls [])
  generalize hQ : MQ bb (va_Qi (fun r u => r = sMade nw n q w 0 ∧ RR n u 5 (hourNw nw n q w) ∧ offP q x u) (XB G (wX G B tt)) (blkA B (B + 117))) aa ss 0 0 (blkA B (B + 117)) = Q
  have hn8 := hR.1
  refine lv_aload_n hx hb dX7_pass_0 rfl (lv_at hl 0 rfl) ?_
  refine lv_iload_n hx hb dX7_pass_1 rfl (lv_at hl 1 rfl) ?_
  refine lv_iload_n hx hb dX7_pass_2 rfl (lv_at hl 2 rfl) ?_
  refine x_rf (w := (wX G B tt)) (va_runV (As := [.int (nI q), .int (w)]) (rest := []) ⟨hx, hb, hml, hown, hts⟩ (c_X7_windOf (l := l) (G := G) (B := B) (tt := tt) (hW := hW) (x := x) (q := q) (w := w) (n := n) (nw := nw) (hR := hR) (hq := (by omega))) (cwV 2 hts gX7_pass_X7_windOf rfl rfl rfl (by decide +kernel) ⟨Nat.le_of_ble_eq_true rfl, Nat.le_of_ble_eq_true rfl⟩) (x_pv (w := (wX G B tt)) (a := 0) hW hX hK hE hS [.int (nI q), .int (w)] (Nat.le_of_ble_eq_true rfl) (shX_mn (G := G) (B := B)) rfl) rfl rfl hl.1 rfl (lv_room (Nat.le_of_ble_eq_true rfl)) dX7_pass_3 ⟨Nat.zero_le _, Nat.zero_le _⟩) hS (fun x_3 H_1 lo_2 h_3 hX hS => ?_)
  try dsimp only at h_3
  obtain ⟨ho, hSV0, hBL0, hRq0⟩ := h_3
  refine lv_astore_n (lv' := [(3, .ref (B + (65 + 13 * q))), (0, .ref (B + (0))), (1, .int (nI q)), (2, .int (w))]) hx hb dX7_pass_6 rfl hl (by decide) rfl (fun ls hl => ?_)
  refine lv_iconst (v := 0) hx hb dX7_pass_7 (by decide) ?_
  refine lv_istore (lv' := [(4, .int (0)), (3, .ref (B + (65 + 13 * q))), (0, .ref (B + (0))), (1, .int (nI q)), (2, .int (w))]) hx hb dX7_pass_8 hl (by decide) rfl (fun ls hl => ?_)
  refine lv_iconst (v := 0) hx hb dX7_pass_10 (by decide) ?_
  refine lv_istore (lv' := [(5, .int (0)), (4, .int (0)), (3, .ref (B + (65 + 13 * q))), (0, .ref (B + (0))), (1, .int (nI q)), (2, .int (w))]) hx hb dX7_pass_11 hl (by decide) rfl (fun ls hl => ?_)
  have L_4 : ∀ (n9 : Nat) (i : Nat) (sm : Int32)  (u : Mem) (_ : n9 = n - i) (_ : i ≤ n ∧ RR n u 5 (hourP nw n q w i) ∧ offP q x u ∧ SV n nw u q hNo ∧ BL nw u q w ∧ RQ n u q nw ∧ sm = sumN (fun m => sGr nw n m q w 0 hNo) i) (H_5 : Heap) (lo_6 : List Loc) (_ : MR G (wX G B tt) u H_5) (_ : va_S (blkA B (B + 117)) ss.heap H_5 lo_6) (ls : Array Slot) (_ : lv_has ls 8 [(5, .int (nI i)), (4, .int (sm)), (3, .ref (B + (65 + 13 * q))), (0, .ref (B + (0))), (1, .int (nI q)), (2, .int (w))]), W pp l ee rmX7_pass ss mm aa bb mt cd H_5 lo_6 0 0 Q (F0 mm 13 ls []) := by
    intro n9
    induction n9 using Nat.strongRecOn with
    | _ n9 ih => 
      have ih_13 := ih
      intro i sm u hn9 hI H_5 lo_6 hX hS ls hl
      obtain ⟨hi, hRi, hof, hSV, hBL, hRq, hsm⟩ := hI
      refine lv_iload hx hb dX7_pass_13 (lv_at hl 0 rfl) ?_
      refine lv_aload_n hx hb dX7_pass_15 rfl (lv_at hl 3 rfl) ?_
      refine x_get (w := (wX G B tt)) (a := 0) (v := .ref (B + (5))) hx hb hts iX7_pass_X7 hown hK hX (Nat.le_of_ble_eq_true rfl) (shX_mn (G := G) (B := B)) rfl 2 (by decide) (hts _ kX7_pass_25) (fun _ h9 => h9) rfl dX7_pass_16 ?_
      refine x_get (w := (wX G B tt)) (a := 5) (v := .int (u (5) 1)) hx hb hts iX7_pass_X3 hown hK hX (rg_lt rg5) (shX_ri (G := G) (B := B) rg5) rfl 1 (by decide) (hts _ kX7_pass_129) (fun _ h9 => h9) rfl dX7_pass_19 ?_
      refine lv_icmp_ge (tgt := 99) hx hb dX7_pass_22 (by decide) (fun c_7 => ?_) (fun c_7 => ?_)
      · have nc_7 := (n_le (a := n) (b := i) hRi.cnt rfl (by omega) (by omega)).mp c_7
        refine lv_aload_n hx hb dX7_pass_99 rfl (lv_at hl 3 rfl) ?_
        refine x_get (w := (wX G B tt)) (a := 0) (v := .ref (B + (5))) hx hb hts iX7_pass_X7 hown hK hX (Nat.le_of_ble_eq_true rfl) (shX_mn (G := G) (B := B)) rfl 2 (by decide) (hts _ kX7_pass_25) (fun _ h9 => h9) rfl dX7_pass_100 ?_
        refine lv_dup hx hb dX7_pass_103 rfl ?_
        refine x_get (w := (wX G B tt)) (a := 5) (v := .int (u (5) 2)) hx hb hts iX7_pass_X3 hown hK hX (rg_lt rg5) (shX_ri (G := G) (B := B) rg5) rfl 2 (by decide) (hts _ kX7_pass_287) (fun _ h9 => h9) rfl dX7_pass_104 ?_
        refine lv_iconst (v := 1) hx hb dX7_pass_107 (by decide) ?_
        refine lv_iadd hx hb dX7_pass_108 ?_
        refine x_put (w := (wX G B tt)) (a := 5) (v := (u (5) 2) + 1) (ty := .int) hx hb hts iX7_pass_X3 tyX3 tyX3_ok nmX3 hown hK hW hX hS (rg_lt rg5) (shX_ri (G := G) (B := B) rg5) rfl 2 (by decide) (hts _ kX7_pass_287) (fun _ h9 => h9) rfl (by decide +kernel) rfl rfl (Nat.le_of_ble_eq_true rfl) (shX_ri (G := G) (B := B) rg5) dX7_pass_109 (fun H_9 lo_10 hX hS => ?_)
        obtain ⟨x_8, ex_8⟩ : ∃ z, z = mst u (5) 2 ((u (5) 2) + 1) := ⟨_, rfl⟩
        rw [← ex_8] at hX
        have z_11 : x_8 (5) 1 = nI (n) := by rw [ex_8, mst_eq, upd_ne (by first | decide | omega)]; exact hRi.cnt
        refine lv_iload hx hb dX7_pass_112 (lv_at hl 1 rfl) ?_
        rw [← hQ]
        refine x_iret (v := sm) hx hb hr hX hS hlocks dX7_pass_114 ?_
        have e9 : i = n := by omega
        subst e9
        exact ⟨hsm, by rw [ex_8]; exact hour_end hRi, fun a a1 a2 => by rw [ex_8, mst_ne (by omega)]; exact hof a a1 a2⟩
      · have nc_7 := Nat.not_le.mp (fun q => c_7 ((n_le (a := n) (b := i) hRi.cnt rfl (by omega) (by omega)).mpr q))
        refine lv_aload_n hx hb dX7_pass_25 rfl (lv_at hl 3 rfl) ?_
        refine x_get (w := (wX G B tt)) (a := 0) (v := .ref (B + (5))) hx hb hts iX7_pass_X7 hown hK hX (Nat.le_of_ble_eq_true rfl) (shX_mn (G := G) (B := B)) rfl 2 (by decide) (hts _ kX7_pass_25) (fun _ h9 => h9) rfl dX7_pass_26 ?_
        refine x_get (w := (wX G B tt)) (a := 5) (v := .ref (B + (5 + 1))) hx hb hts iX7_pass_X3 hown hK hX (rg_lt rg5) (shX_ri (G := G) (B := B) rg5) rfl 0 (by decide) (hts _ kX7_pass_135) (fun _ h9 => h9) rfl dX7_pass_29 ?_
        refine lv_iload hx hb dX7_pass_32 (lv_at hl 0 rfl) ?_
        refine x_aald (w := (wX G B tt)) (a := 5 + 1) (n := 8) (j := i) (q := B + (5 + 1 + 1 + i)) (t0 := 2) hx hb hK hX (rg_lt1 rg5) (shX_ma (G := G) (B := B) (f := u (5 + 1)) rg5) rfl rfl (by omega) (by decide) rfl dX7_pass_34 ?_
        refine lv_astore (lv' := [(6, .ref (B + (5 + 1 + 1 + i))), (5, .int (nI i)), (4, .int (sm)), (3, .ref (B + (65 + 13 * q))), (0, .ref (B + (0))), (1, .int (nI q)), (2, .int (w))]) hx hb dX7_pass_35 hl (by decide) rfl (fun ls hl => ?_)
        refine lv_aload_n hx hb dX7_pass_37 rfl (lv_at hl 3 rfl) ?_
        refine lv_iload hx hb dX7_pass_38 (lv_at hl 1 rfl) ?_
        refine lv_iconst (v := 0) hx hb dX7_pass_40 (by decide) ?_
        refine x_ip (w := (wX G B tt)) (x := u) (v := sGr nw n i q w 0 hNo) (va_runV (As := [.int (nI i), .int (0)]) (rest := []) ⟨hx, hb, hml, hown, hts⟩ (c_X1_grindsBy (l := l) (G := G) (B := B) (tt := tt) (hW := hW) (x := u) (q := q) (hq := (by omega)) (m := i) (s := 0) (n := n) (nw := nw) (h := hNo) (w := w) (hRq := hRq) (hSV := hSV) (hBL := hBL) (hm := (by omega))) (cwV 2 hts gX7_pass_X1_grindsBy rfl rfl rfl (by decide +kernel) ⟨Nat.le_of_ble_eq_true rfl, Nat.le_of_ble_eq_true rfl⟩) (x_pv (w := (wX G B tt)) (a := 65 + 13 * q) hW hX hK hE hS [.int (nI i), .int (0)] (qu_lt (by omega)) (shX_qu (G := G) (B := B) (by omega)) rfl) rfl rfl hl.1 rfl (lv_room (Nat.le_of_ble_eq_true rfl)) dX7_pass_41 ⟨Nat.zero_le _, Nat.zero_le _⟩) hS (fun H_12 lo_13 hX hS => ?_)
        refine lv_istore (lv' := [(7, .int (sGr nw n i q w 0 hNo)), (6, .ref (B + (5 + 1 + 1 + i))), (5, .int (nI i)), (4, .int (sm)), (3, .ref (B + (65 + 13 * q))), (0, .ref (B + (0))), (1, .int (nI q)), (2, .int (w))]) hx hb dX7_pass_44 hl (by decide) rfl (fun ls hl => ?_)
        refine lv_aload hx hb dX7_pass_46 (lv_at hl 1 rfl) ?_
        refine lv_dup hx hb dX7_pass_48 rfl ?_
        refine x_get (w := (wX G B tt)) (a := 5 + 1 + 1 + i) (v := .int (u (5 + 1 + 1 + i) 7)) hx hb hts iX7_pass_X0 hown hK hX (rg_ltm rg5 (by omega)) (shX_mi (G := G) (B := B) rg5 (by omega)) rfl 7 (by decide) (hts _ kX7_pass_162) (fun _ h9 => h9) rfl dX7_pass_49 ?_
        refine lv_iload hx hb dX7_pass_52 (lv_at hl 0 rfl) ?_
        refine lv_isub hx hb dX7_pass_54 ?_
        refine x_put (w := (wX G B tt)) (a := 5 + 1 + 1 + i) (v := (u (5 + 1 + 1 + i) 7) - (sGr nw n i q w 0 hNo)) (ty := .int) hx hb hts iX7_pass_X0 tyX0 tyX0_ok nmX0 hown hK hW hX hS (rg_ltm rg5 (by omega)) (shX_mi (G := G) (B := B) rg5 (by omega)) rfl 7 (by decide) (hts _ kX7_pass_162) (fun _ h9 => h9) rfl (by decide +kernel) rfl rfl (Nat.le_of_ble_eq_true rfl) (shX_mi (G := G) (B := B) rg5 (by omega)) dX7_pass_55 (fun H_15 lo_16 hX hS => ?_)
        obtain ⟨x_14, ex_14⟩ : ∃ z, z = mst u (5 + 1 + 1 + i) 7 ((u (5 + 1 + 1 + i) 7) - (sGr nw n i q w 0 hNo)) := ⟨_, rfl⟩
        rw [← ex_14] at hX
        have z_17 : x_14 (5) 1 = nI (n) := by rw [ex_14, mst_ne (by first | decide | omega)]; exact hRi.cnt
        refine lv_aload hx hb dX7_pass_58 (lv_at hl 1 rfl) ?_
        refine lv_dup hx hb dX7_pass_60 rfl ?_
        refine x_get (w := (wX G B tt)) (a := 5 + 1 + 1 + i) (v := .int (x_14 (5 + 1 + 1 + i) 8)) hx hb hts iX7_pass_X0 hown hK hX (rg_ltm rg5 (by omega)) (shX_mi (G := G) (B := B) rg5 (by omega)) rfl 8 (by decide) (hts _ kX7_pass_192) (fun _ h9 => h9) rfl dX7_pass_61 ?_
        refine lv_iload hx hb dX7_pass_64 (lv_at hl 0 rfl) ?_
        refine lv_iadd hx hb dX7_pass_66 ?_
        refine x_put (w := (wX G B tt)) (a := 5 + 1 + 1 + i) (v := (x_14 (5 + 1 + 1 + i) 8) + (sGr nw n i q w 0 hNo)) (ty := .int) hx hb hts iX7_pass_X0 tyX0 tyX0_ok nmX0 hown hK hW hX hS (rg_ltm rg5 (by omega)) (shX_mi (G := G) (B := B) rg5 (by omega)) rfl 8 (by decide) (hts _ kX7_pass_192) (fun _ h9 => h9) rfl (by decide +kernel) rfl rfl (Nat.le_of_ble_eq_true rfl) (shX_mi (G := G) (B := B) rg5 (by omega)) dX7_pass_67 (fun H_19 lo_20 hX hS => ?_)
        obtain ⟨x_18, ex_18⟩ : ∃ z, z = mst x_14 (5 + 1 + 1 + i) 8 ((x_14 (5 + 1 + 1 + i) 8) + (sGr nw n i q w 0 hNo)) := ⟨_, rfl⟩
        rw [← ex_18] at hX
        have z_21 : x_18 (5) 1 = nI (n) := by rw [ex_18, mst_ne (by first | decide | omega)]; exact z_17
        refine lv_aload hx hb dX7_pass_70 (lv_at hl 1 rfl) ?_
        refine lv_dup hx hb dX7_pass_72 rfl ?_
        refine x_get (w := (wX G B tt)) (a := 5 + 1 + 1 + i) (v := .int (x_18 (5 + 1 + 1 + i) 9)) hx hb hts iX7_pass_X0 hown hK hX (rg_ltm rg5 (by omega)) (shX_mi (G := G) (B := B) rg5 (by omega)) rfl 9 (by decide) (hts _ kX7_pass_195) (fun _ h9 => h9) rfl dX7_pass_73 ?_
        have hqk : ∀ a, 65 ≤ a → x_18 a = u a := fun a a1 => by rw [ex_18, mst_ne (by omega), ex_14, mst_ne (by omega)]
        have hSV1 : SV n nw x_18 q hNo := hSV.keep (hqk _ (by omega)) (hqk _ (by omega))
        have hBL1 : BL nw x_18 q w := fun k hk => by rw [hqk _ (by omega)]; exact hBL k hk
        have hRq1 : RQ n x_18 q nw := hRq.keep (fun a a1 a2 => hqk a (by omega))
        refine lv_aload_n hx hb dX7_pass_76 rfl (lv_at hl 4 rfl) ?_
        refine lv_iload hx hb dX7_pass_77 (lv_at hl 2 rfl) ?_
        refine x_ip (w := (wX G B tt)) (x := x_18) (v := if sTakes nw i q 0 then sLeft nw n i q w 0 hNo / 10 else 0) (va_runV (As := [.int (nI i)]) (rest := [.int (x_18 (5 + 1 + 1 + i) 9), .ref (B + (5 + 1 + 1 + i))]) ⟨hx, hb, hml, hown, hts⟩ (c_X1_wearOf (l := l) (G := G) (B := B) (tt := tt) (hW := hW) (x := x_18) (q := q) (hq := (by omega)) (m := i) (n := n) (nw := nw) (h := hNo) (w := w) (hn8 := hn8) (hSV := hSV1) (hBL := hBL1) (hm := (by omega))) (cwV 1 hts gX7_pass_X1_wearOf rfl rfl rfl (by decide +kernel) ⟨Nat.le_of_ble_eq_true rfl, Nat.le_of_ble_eq_true rfl⟩) (x_pv (w := (wX G B tt)) (a := 65 + 13 * q) hW hX hK hE hS [.int (nI i)] (qu_lt (by omega)) (shX_qu (G := G) (B := B) (by omega)) rfl) rfl rfl hl.1 rfl (lv_room (Nat.le_of_ble_eq_true rfl)) dX7_pass_79 ⟨Nat.zero_le _, Nat.zero_le _⟩) hS (fun H_22 lo_23 hX hS => ?_)
        refine lv_iadd hx hb dX7_pass_82 ?_
        refine x_put (w := (wX G B tt)) (a := 5 + 1 + 1 + i) (v := (x_18 (5 + 1 + 1 + i) 9) + (if sTakes nw i q 0 then sLeft nw n i q w 0 hNo / 10 else 0)) (ty := .int) hx hb hts iX7_pass_X0 tyX0 tyX0_ok nmX0 hown hK hW hX hS (rg_ltm rg5 (by omega)) (shX_mi (G := G) (B := B) rg5 (by omega)) rfl 9 (by decide) (hts _ kX7_pass_195) (fun _ h9 => h9) rfl (by decide +kernel) rfl rfl (Nat.le_of_ble_eq_true rfl) (shX_mi (G := G) (B := B) rg5 (by omega)) dX7_pass_83 (fun H_25 lo_26 hX hS => ?_)
        obtain ⟨x_24, ex_24⟩ : ∃ z, z = mst x_18 (5 + 1 + 1 + i) 9 ((x_18 (5 + 1 + 1 + i) 9) + (if sTakes nw i q 0 then sLeft nw n i q w 0 hNo / 10 else 0)) := ⟨_, rfl⟩
        rw [← ex_24] at hX
        have z_27 : x_24 (5) 1 = nI (n) := by rw [ex_24, mst_ne (by first | decide | omega)]; exact z_21
        refine lv_iload hx hb dX7_pass_86 (lv_at hl 3 rfl) ?_
        refine lv_iload hx hb dX7_pass_88 (lv_at hl 0 rfl) ?_
        refine lv_iadd hx hb dX7_pass_90 ?_
        refine lv_istore (lv' := [(4, .int (sm + (sGr nw n i q w 0 hNo))), (7, .int (sGr nw n i q w 0 hNo)), (6, .ref (B + (5 + 1 + 1 + i))), (5, .int (nI i)), (3, .ref (B + (65 + 13 * q))), (0, .ref (B + (0))), (1, .int (nI q)), (2, .int (w))]) hx hb dX7_pass_91 hl (by decide) rfl (fun ls hl => ?_)
        refine lv_iinc (v := nI (i + 1)) (lv' := [(5, .int (nI (i + 1))), (4, .int (sm + (sGr nw n i q w 0 hNo))), (7, .int (sGr nw n i q w 0 hNo)), (6, .ref (B + (5 + 1 + 1 + i))), (3, .ref (B + (65 + 13 * q))), (0, .ref (B + (0))), (1, .int (nI q)), (2, .int (w))]) hx hb dX7_pass_93 hl (k := 3) rfl (inc_nI _) (by decide) rfl (fun ls hl => ?_)
        refine lv_goto (tgt := 13) hx hb dX7_pass_96 (by decide) ?_
        have h82 : x_14 (5 + 1 + 1 + i) 8 = u (5 + 1 + 1 + i) 8 := by rw [ex_14, mst_eq, upd_ne (by decide)]
        have h81 : x_18 (5 + 1 + 1 + i) 9 = u (5 + 1 + 1 + i) 9 := by rw [ex_18, mst_eq, upd_ne (by decide), ex_14, mst_eq, upd_ne (by decide)]
        have hRe : RR n x_24 5 (hourP nw n q w (i + 1)) := by
          rw [ex_24, h81, ex_18, h82, ex_14]
          exact hour_step hRi (by omega) rfl rfl
        have hofe : offP q x x_24 := fun a a1 a2 => by
          rw [ex_24, mst_ne (by omega), ex_18, mst_ne (by omega), ex_14, mst_ne (by omega)]
          exact hof a a1 a2
        have hqke : ∀ a, 65 ≤ a → x_24 a = u a := fun a a1 => by rw [ex_24, mst_ne (by omega)]; exact hqk a a1
        have hSVe : SV n nw x_24 q hNo := hSV.keep (hqke _ (by omega)) (hqke _ (by omega))
        have hBLe : BL nw x_24 q w := fun k hk => by rw [hqke _ (by omega)]; exact hBL k hk
        have hRqe : RQ n x_24 q nw := hRq.keep (fun a a1 a2 => hqke a (by omega))
        exact ih_13 _ (by omega) (i + 1) (sm + (sGr nw n i q w 0 hNo)) (x_24) rfl ⟨by omega, hRe, hofe, hSVe, hBLe, hRqe, by rw [sumN, ← hsm]⟩ _ _ hX hS ls (lv_sub hl [0, 1, 4, 5, 6, 7] rfl)
  exact L_4 _ (0) (0) (x_3) rfl ⟨Nat.zero_le _, RR_hour0 (hR.off rc5 ho), fun a a1 a2 => ho a a2, hSV0, hBL0, hRq0, rfl⟩ _ _ hX hS ls (lv_sub hl [0, 1, 2, 3, 4, 5] rfl)

def PT_X7_hour (x : Mem) (q : Int32) (w : Int32) (n : Nat) (nw : Nat → Int32) (r : Int32) (u : Mem) : Prop := (if (decide (x 5 1 = 0)) = false then (if ((decide (0 ≤ q) && decide (q ≤ 3)) && (decide (0 ≤ w) && decide (w ≤ 100))) = true then (r = sMade nw n (tn q) w 0 ∧ RR n u 5 (hourNw nw n (tn q) w) ∧ offP (tn q) x u) else (r = (-1000001) ∧ u = x)) else (r = (-1000002) ∧ u = x))
theorem kX7_hour_25 : (.fieldLink RX7 25 "WindTaken" "ridge" "LWindTaken$Ridge;" : Cond) ∈ wsX7_hour := by decide +kernel
theorem iX7_hour_X7 : ∀ w ∈ wsX70, w ∈ wsX7_hour := by decide +kernel
theorem kX7_hour_59 : (.constant RX7 59 (-1000001) : Cond) ∈ wsX7_hour := by decide +kernel
theorem kX7_hour_155 : (.constant RX7 155 (-1000002) : Cond) ∈ wsX7_hour := by decide +kernel
abbrev rmX7_hour : Room := { frames := 6, cells := 0, slots := 0, locals := 144 }
set_option maxHeartbeats 4000000 in
set_option maxRecDepth 100000 in
theorem c_X7_hour (l : Launch) (G : GG) (B : Nat) (tt : Nat → Nat) (hW : WOK (wX G B tt)) (x : Mem) (q : Int32) (w : Int32) {n : Nat} {nw : Nat → Int32} (hR : RR n x 5 nw) : Met l yX7_hour wsX7_hour rmX7_hour (XP G (wX G B tt) [.ref (B + (0)), .int (q), .int (w)] x) (va_Qi (fun r u => PT_X7_hour x q w n nw r u) (XB G (wX G B tt)) (blkA B (B + 117))) 0 0 (blkA B (B + 117)) := by
  refine Met.ofW (cc := cX7_hour) (maxL := 3) (ret := (some .int)) (by decide) rfl ?_
  intro pp ee ss mm aa bb mt cd s1 Bd hml hv
  obtain ⟨hae, hX, hK, hE⟩ := hv
  have hx := Bd.exec
  have hb := Bd.bytes
  have hr := Bd.returns
  have hts := atoms_spec (ws := wsX7_hour) Bd.pre
  have hown : ss.vm.findClass RX7 = some mm.cls := findClass_of_methodNamed Bd.named
  have hlocks := Bd.notSynchronized
  have hS : va_S (blkA B (B + 117)) ss.heap ss.heap [] := va_S.rf
  have hl := lv_entry ([.ref (B + (0)), .int (q), .int (w)]) (n := 3) (Nat.le_of_ble_eq_true rfl)
  subst hae
  rw [lg_entry_eq]
  generalize (lg_sl ([.ref (B + (0)), .int (q), .int (w)]) ++ List.replicate (3 - (lg_sl ([.ref (B + (0)), .int (q), .int (w)])).length) Slot.unset).toArray = ls at hl ⊢
  have hl : lv_has ls 3 [(0, .ref (B + (0))), (1, .int (q)), (2, .int (w))] := hl
  generalize ([.ref (B + (0)), .int (q), .int (w)] : List Value).toArray = aa at hts ⊢
  show W pp l ee rmX7_hour ss mm aa bb mt cd ss.heap [] 0 0 _ (F0 mm 0 ls [])
  generalize hQ : MQ bb (va_Qi (fun r u => PT_X7_hour x q w n nw r u) (XB G (wX G B tt)) (blkA B (B + 117))) aa ss 0 0 (blkA B (B + 117)) = Q
  have hn8 := hR.1
  refine lv_aload_n hx hb dX7_hour_0 rfl (lv_at hl 0 rfl) ?_
  refine x_get (w := (wX G B tt)) (a := 0) (v := .ref (B + (5))) hx hb hts iX7_hour_X7 hown hK hX (Nat.le_of_ble_eq_true rfl) (shX_mn (G := G) (B := B)) rfl 2 (by decide) (hts _ kX7_hour_25) (fun _ h9 => h9) rfl dX7_hour_1 ?_
  refine x_ip (w := (wX G B tt)) (x := x) (v := bI (decide (x 5 1 = 0))) (va_runV (As := []) (rest := []) ⟨hx, hb, hml, hown, hts⟩ (c_X3_isNone (l := l) (G := G) (B := B) (tt := tt) (hW := hW) (x := x) (ρ := 5) (hρ := rg5)) (cwV 0 hts gX7_hour_X3_isNone rfl rfl rfl (by decide +kernel) ⟨Nat.le_of_ble_eq_true rfl, Nat.le_of_ble_eq_true rfl⟩) (x_pv (w := (wX G B tt)) (a := 5) hW hX hK hE hS [] (rg_lt rg5) (shX_ri (G := G) (B := B) rg5) rfl) rfl rfl hl.1 rfl (lv_room (Nat.le_of_ble_eq_true rfl)) dX7_hour_4 ⟨Nat.zero_le _, Nat.zero_le _⟩) hS (fun H_1 lo_2 hX hS => ?_)
  refine x_ifeq (tgt := 13) hx hb dX7_hour_7 (by decide) (fun c_3 => ?_) (fun c_3 => ?_)
  · refine lv_iload_n hx hb dX7_hour_13 rfl (lv_at hl 1 rfl) ?_
    refine lv_iload_n hx hb dX7_hour_14 rfl (lv_at hl 2 rfl) ?_
    refine x_ip (w := (wX G B tt)) (x := x) (v := bI ((decide (0 ≤ q) && decide (q ≤ 3)) && (decide (0 ≤ w) && decide (w ≤ 100)))) (va_runS (As := [.int (q), .int (w)]) (rest := []) ⟨hx, hb, hml, hown, hts⟩ (c_X7_isWind (l := l) (G := G) (B := B) (tt := tt) (hW := hW) (x := x) (q := q) (v := w)) (va_cwS 2 hts gX7_hour_X7_isWind rfl rfl rfl (by decide +kernel) ⟨Nat.le_of_ble_eq_true rfl, Nat.le_of_ble_eq_true rfl⟩) (x_ps (w := (wX G B tt)) hW hX hK hE hS [.int (q), .int (w)]) rfl rfl hl.1 rfl (lv_room (Nat.le_of_ble_eq_true rfl)) dX7_hour_15 ⟨Nat.zero_le _, Nat.zero_le _⟩) hS (fun H_4 lo_5 hX hS => ?_)
    refine x_ifne (tgt := 24) hx hb dX7_hour_18 (by decide) (fun c_6 => ?_) (fun c_6 => ?_)
    · obtain ⟨hqe, hq4⟩ := windQ c_6
      refine lv_aload_n hx hb dX7_hour_24 rfl (lv_at hl 0 rfl) ?_
      refine lv_iload_n hx hb dX7_hour_25 rfl (lv_at hl 1 rfl) ?_
      refine lv_iload_n hx hb dX7_hour_26 rfl (lv_at hl 2 rfl) ?_
      refine W.eq (g2 := F0 mm 27 ls [.int (w), .int (nI (tn q)), .ref (B + (0))]) (congrArg (fun z9 : Int32 => F0 mm 27 ls [.int (w), .int (z9), .ref (B + (0))]) hqe) ?_
      refine x_if (w := (wX G B tt)) (va_runV (As := [.int (nI (tn q)), .int (w)]) (rest := []) ⟨hx, hb, hml, hown, hts⟩ (c_X7_pass (l := l) (G := G) (B := B) (tt := tt) (hW := hW) (x := x) (q := tn q) (w := w) (n := n) (nw := nw) (hR := hR) (hq := (by omega))) (cwV 2 hts gX7_hour_X7_pass rfl rfl rfl (by decide +kernel) ⟨Nat.le_of_ble_eq_true rfl, Nat.le_of_ble_eq_true rfl⟩) (x_pv (w := (wX G B tt)) (a := 0) hW hX hK hE hS [.int (nI (tn q)), .int (w)] (Nat.le_of_ble_eq_true rfl) (shX_mn (G := G) (B := B)) rfl) rfl rfl hl.1 rfl (lv_room (Nat.le_of_ble_eq_true rfl)) dX7_hour_27 ⟨Nat.zero_le _, Nat.zero_le _⟩) hS (fun r_9 x_10 H_7 lo_8 h_27 hX hS => ?_)
      try dsimp only at h_27
      rw [← hQ]
      refine x_iret (v := r_9) hx hb hr hX hS hlocks dX7_hour_30 ?_
      show PT_X7_hour _ _ _ _ _ _ _
      unfold PT_X7_hour
      rw [if_pos c_3, if_pos c_6]
      exact h_27
    · refine lv_ldc (v := (-1000001)) hx hb hown (hts _ kX7_hour_59) dX7_hour_21 ?_
      rw [← hQ]
      refine x_iret (v := (-1000001)) hx hb hr hX hS hlocks dX7_hour_23 ?_
      show PT_X7_hour _ _ _ _ _ _ _
      unfold PT_X7_hour
      rw [if_pos c_3, if_neg (ne_of_false c_6)]
      exact ⟨rfl, rfl⟩
  · refine lv_ldc (v := (-1000002)) hx hb hown (hts _ kX7_hour_155) dX7_hour_10 ?_
    rw [← hQ]
    refine x_iret (v := (-1000002)) hx hb hr hX hS hlocks dX7_hour_12 ?_
    show PT_X7_hour _ _ _ _ _ _ _
    unfold PT_X7_hour
    rw [if_neg (ne_of_true c_3)]
    exact ⟨rfl, rfl⟩
