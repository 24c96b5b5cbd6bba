theorem kX2_refuse_22 : (.fieldLink RX2 22 "WindTaken$Reader" "fault" "I" : Cond) ∈ wsX2_refuse := by decide +kernel
theorem iX2_refuse_X2 : ∀ w ∈ wsX20, w ∈ wsX2_refuse := by decide +kernel
theorem kX2_refuse_117 : (.fieldLink RX2 117 "WindTaken$Reader" "start" "I" : Cond) ∈ wsX2_refuse := by decide +kernel
theorem kX2_refuse_120 : (.fieldLink RX2 120 "WindTaken$Reader" "faultPlace" "I" : Cond) ∈ wsX2_refuse := by decide +kernel
abbrev rmX2_refuse : Room := { frames := 0, cells := 0, slots := 0, locals := 0 }
set_option maxHeartbeats 4000000 in
set_option maxRecDepth 100000 in
theorem c_X2_refuse (l : Launch) (G : GG) (B : Nat) (tt : Nat → Nat) (hW : WOK (wX G B tt)) (x : Mem) (k : Int32) {f : Nat → Int32} {t : Nat} {p : Nat} {w : Int32} (hRD : RD f t p w x) (hk0 : k ≠ 0) : Met l yX2_refuse wsX2_refuse rmX2_refuse (XP G (wX G B tt) [.ref (B + (2)), .int (k)] x) (va_Qv (fun u => RD f t p (rfW w k) u ∧ (∀ s, s ≠ 5 → s ≠ 6 → u 2 s = x 2 s) ∧ ∀ a, a ≠ 2 → u a = x a) (XB G (wX G B tt)) (blkA B (B + 117))) 0 0 (blkA B (B + 117)) := by
  refine Met.ofW (cc := cX2_refuse) (maxL := 2) (ret := none) (by decide) rfl ?_
  intro pp ee ss mm aa bb mt cd s1 Bd hml hv
  obtain ⟨hae, hX, hK, hE⟩ := hv
  have hx := Bd.exec
  have hb := Bd.bytes
  have hr := Bd.returns
  have hts := atoms_spec (ws := wsX2_refuse) Bd.pre
  have hown : ss.vm.findClass RX2 = some mm.cls := findClass_of_methodNamed Bd.named
  have hlocks := Bd.notSynchronized
  have hS : va_S (blkA B (B + 117)) ss.heap ss.heap [] := va_S.rf
  have hl := lv_entry ([.ref (B + (2)), .int (k)]) (n := 2) (Nat.le_of_ble_eq_true rfl)
  subst hae
  rw [lg_entry_eq]
  generalize (lg_sl ([.ref (B + (2)), .int (k)]) ++ List.replicate (2 - (lg_sl ([.ref (B + (2)), .int (k)])).length) Slot.unset).toArray = ls at hl ⊢
  have hl : lv_has ls 2 [(0, .ref (B + (2))), (1, .int (k))] := hl
  generalize ([.ref (B + (2)), .int (k)] : List Value).toArray = aa at hts ⊢
  show W pp l ee rmX2_refuse ss mm aa bb mt cd ss.heap [] 0 0 _ (F0 mm 0 ls [])
  generalize hQ : MQ bb (va_Qv (fun u => RD f t p (rfW w k) u ∧ (∀ s, s ≠ 5 → s ≠ 6 → u 2 s = x 2 s) ∧ ∀ a, a ≠ 2 → u a = x a) (XB G (wX G B tt)) (blkA B (B + 117))) aa ss 0 0 (blkA B (B + 117)) = Q
  refine lv_aload_n hx hb dX2_refuse_0 rfl (lv_at hl 0 rfl) ?_
  refine x_get (w := (wX G B tt)) (a := 2) (v := .int (x (2) 5)) hx hb hts iX2_refuse_X2 hown hK hX (Nat.le_of_ble_eq_true rfl) (shX_rd (G := G) (B := B)) rfl 5 (by decide) (hts _ kX2_refuse_22) (fun _ h9 => h9) rfl dX2_refuse_1 ?_
  refine lv_if_ne (tgt := 20) hx hb dX2_refuse_4 (by decide) (fun c_1 => ?_) (fun c_1 => ?_)
  · rw [← hQ]
    refine x_vret hx hb hr hX hS hlocks dX2_refuse_20 ?_
    first | exact ⟨rf_a hRD c_1, fun s _ _ => rfl, fun a _ => rfl⟩ | exact ⟨by rw [rfl, rfl]; exact rf_b hRD c_1 (by rw [mst_eq, upd_ne (by decide)]), fun s s1 s2 => by rw [rfl, mst_eq, upd_ne s2, rfl, mst_eq, upd_ne s1], fun a h => by rw [rfl, mst_ne h, rfl, mst_ne h]⟩
  · refine lv_aload_n hx hb dX2_refuse_7 rfl (lv_at hl 0 rfl) ?_
    refine lv_iload_n hx hb dX2_refuse_8 rfl (lv_at hl 1 rfl) ?_
    refine x_put (w := (wX G B tt)) (a := 2) (v := k) (ty := .int) hx hb hts iX2_refuse_X2 tyX2 tyX2_ok nmX2 hown hK hW hX hS (Nat.le_of_ble_eq_true rfl) (shX_rd (G := G) (B := B)) rfl 5 (by decide) (hts _ kX2_refuse_22) (fun _ h9 => h9) rfl (by decide +kernel) rfl rfl (Nat.le_of_ble_eq_true rfl) (shX_rd (G := G) (B := B)) dX2_refuse_9 (fun H_3 lo_4 hX hS => ?_)
    obtain ⟨x_2, ex_2⟩ : ∃ z, z = mst x (2) 5 (k) := ⟨_, rfl⟩
    rw [← ex_2] at hX
    refine lv_aload_n hx hb dX2_refuse_12 rfl (lv_at hl 0 rfl) ?_
    refine lv_aload_n hx hb dX2_refuse_13 rfl (lv_at hl 0 rfl) ?_
    refine x_get (w := (wX G B tt)) (a := 2) (v := .int (x_2 (2) 2)) hx hb hts iX2_refuse_X2 hown hK hX (Nat.le_of_ble_eq_true rfl) (shX_rd (G := G) (B := B)) rfl 2 (by decide) (hts _ kX2_refuse_117) (fun _ h9 => h9) rfl dX2_refuse_14 ?_
    refine x_put (w := (wX G B tt)) (a := 2) (v := x_2 (2) 2) (ty := .int) hx hb hts iX2_refuse_X2 tyX2 tyX2_ok nmX2 hown hK hW hX hS (Nat.le_of_ble_eq_true rfl) (shX_rd (G := G) (B := B)) rfl 6 (by decide) (hts _ kX2_refuse_120) (fun _ h9 => h9) rfl (by decide +kernel) rfl rfl (Nat.le_of_ble_eq_true rfl) (shX_rd (G := G) (B := B)) dX2_refuse_17 (fun H_6 lo_7 hX hS => ?_)
    obtain ⟨x_5, ex_5⟩ : ∃ z, z = mst x_2 (2) 6 (x_2 (2) 2) := ⟨_, rfl⟩
    rw [← ex_5] at hX
    rw [← hQ]
    refine x_vret hx hb hr hX hS hlocks dX2_refuse_20 ?_
    first | exact ⟨rf_a hRD c_1, fun s _ _ => rfl, fun a _ => rfl⟩ | exact ⟨by rw [ex_5, ex_2]; exact rf_b hRD c_1 (by rw [mst_eq, upd_ne (by decide)]), fun s s1 s2 => by rw [ex_5, mst_eq, upd_ne s2, ex_2, mst_eq, upd_ne s1], fun a h => by rw [ex_5, mst_ne h, ex_2, mst_ne h]⟩

theorem kX2_take_22 : (.fieldLink RX2 22 "WindTaken$Reader" "fault" "I" : Cond) ∈ wsX2_take := by decide +kernel
theorem iX2_take_X2 : ∀ w ∈ wsX20, w ∈ wsX2_take := by decide +kernel
abbrev rmX2_take : Room := { frames := 2, cells := 0, slots := 0, locals := 46 }
set_option maxHeartbeats 4000000 in
set_option maxRecDepth 100000 in
theorem c_X2_take (l : Launch) (G : GG) (B : Nat) (tt : Nat → Nat) (hW : WOK (wX G B tt)) (x : Mem) (b : Bool) {f : Nat → Int32} {t : Nat} {p : Nat} {w : Int32} (hRD : RD f t p w x) (ht400 : t ≤ 400) (hpt : p ≤ t) : Met l yX2_take wsX2_take rmX2_take (XP G (wX G B tt) [.ref (B + (2)), .int (bI (b))] x) (va_Qv (fun u => RD f t (tkP f t p w b) (tkW w b) u ∧ ∀ a, a ≠ 2 → u a = x a) (XB G (wX G B tt)) (blkA B (B + 117))) 0 0 (blkA B (B + 117)) := by
  refine Met.ofW (cc := cX2_take) (maxL := 2) (ret := none) (by decide) rfl ?_
  intro pp ee ss mm aa bb mt cd s1 Bd hml hv
  obtain ⟨hae, hX, hK, hE⟩ := hv
  have hx := Bd.exec
  have hb := Bd.bytes
  have hr := Bd.returns
  have hts := atoms_spec (ws := wsX2_take) Bd.pre
  have hown : ss.vm.findClass RX2 = some mm.cls := findClass_of_methodNamed Bd.named
  have hlocks := Bd.notSynchronized
  have hS : va_S (blkA B (B + 117)) ss.heap ss.heap [] := va_S.rf
  have hl := lv_entry ([.ref (B + (2)), .int (bI (b))]) (n := 2) (Nat.le_of_ble_eq_true rfl)
  subst hae
  rw [lg_entry_eq]
  generalize (lg_sl ([.ref (B + (2)), .int (bI (b))]) ++ List.replicate (2 - (lg_sl ([.ref (B + (2)), .int (bI (b))])).length) Slot.unset).toArray = ls at hl ⊢
  have hl : lv_has ls 2 [(0, .ref (B + (2))), (1, .int (bI (b)))] := hl
  generalize ([.ref (B + (2)), .int (bI (b))] : List Value).toArray = aa at hts ⊢
  show W pp l ee rmX2_take ss mm aa bb mt cd ss.heap [] 0 0 _ (F0 mm 0 ls [])
  generalize hQ : MQ bb (va_Qv (fun u => RD f t (tkP f t p w b) (tkW w b) u ∧ ∀ a, a ≠ 2 → u a = x a) (XB G (wX G B tt)) (blkA B (B + 117))) aa ss 0 0 (blkA B (B + 117)) = Q
  refine lv_iload_n hx hb dX2_take_0 rfl (lv_at hl 1 rfl) ?_
  refine x_ifne (tgt := 9) hx hb dX2_take_1 (by decide) (fun c_1 => ?_) (fun c_1 => ?_)
  · obtain ⟨w9, hM⟩ : ∃ w9, RD f t p w9 x := by first | exact ⟨_, hRD⟩ | exact ⟨_, h_6.1⟩
    refine lv_aload_n hx hb dX2_take_9 rfl (lv_at hl 0 rfl) ?_
    refine x_get (w := (wX G B tt)) (a := 2) (v := .int (x (2) 5)) hx hb hts iX2_take_X2 hown hK hX (Nat.le_of_ble_eq_true rfl) (shX_rd (G := G) (B := B)) rfl 5 (by decide) (hts _ kX2_take_22) (fun _ h9 => h9) rfl dX2_take_10 ?_
    refine lv_if_ne (tgt := 20) hx hb dX2_take_13 (by decide) (fun c_2 => ?_) (fun c_2 => ?_)
    · rw [← hQ]
      refine x_vret hx hb hr hX hS hlocks dX2_take_20 ?_
      first | exact ⟨tk_a hRD c_1 c_2, fun a _ => rfl⟩ | exact ⟨tk_b hRD c_1 c_2 h_17, h_17.1⟩ | exact ⟨tk_c h_6.1 c_1, h_6.2.2⟩ | exact absurd (tk_d h_6.1 c_2) id
    · refine lv_aload_n hx hb dX2_take_16 rfl (lv_at hl 0 rfl) ?_
      refine x_vf (w := (wX G B tt)) (va_runV (As := []) (rest := []) ⟨hx, hb, hml, hown, hts⟩ (c_X2_step (l := l) (G := G) (B := B) (tt := tt) (hW := hW) (x := x) (t := t) (p := (teN f t p)) (ht9 := hM.1) (ht400 := ht400) (hp := hM.2.2.1.2.2.1) (hpt := (teN_le hpt))) (cwV 0 hts gX2_take_X2_step rfl rfl rfl (by decide +kernel) ⟨Nat.le_of_ble_eq_true rfl, Nat.le_of_ble_eq_true rfl⟩) (x_pv (w := (wX G B tt)) (a := 2) hW hX hK hE hS [] (Nat.le_of_ble_eq_true rfl) (shX_rd (G := G) (B := B)) rfl) rfl rfl hl.1 rfl (lv_room (Nat.le_of_ble_eq_true rfl)) dX2_take_17 ⟨Nat.zero_le _, Nat.zero_le _⟩) hS (fun x_5 H_3 lo_4 h_17 hX hS => ?_)
      try dsimp only at h_17
      rw [← hQ]
      refine x_vret hx hb hr hX hS hlocks dX2_take_20 ?_
      first | exact ⟨tk_a hRD c_1 c_2, fun a _ => rfl⟩ | exact ⟨tk_b hRD c_1 c_2 h_17, h_17.1⟩ | exact ⟨tk_c h_6.1 c_1, h_6.2.2⟩ | exact absurd (tk_d h_6.1 c_2) id
  · refine lv_aload_n hx hb dX2_take_4 rfl (lv_at hl 0 rfl) ?_
    refine lv_iconst (v := 1) hx hb dX2_take_5 (by decide) ?_
    refine x_vf (w := (wX G B tt)) (va_runV (As := [.int (1)]) (rest := []) ⟨hx, hb, hml, hown, hts⟩ (c_X2_refuse (l := l) (G := G) (B := B) (tt := tt) (hW := hW) (x := x) (k := 1) (f := f) (t := t) (p := p) (w := w) (hRD := hRD) (hk0 := (by decide))) (cwV 1 hts gX2_take_X2_refuse rfl rfl rfl (by decide +kernel) ⟨Nat.le_of_ble_eq_true rfl, Nat.le_of_ble_eq_true rfl⟩) (x_pv (w := (wX G B tt)) (a := 2) hW hX hK hE hS [.int (1)] (Nat.le_of_ble_eq_true rfl) (shX_rd (G := G) (B := B)) rfl) rfl rfl hl.1 rfl (lv_room (Nat.le_of_ble_eq_true rfl)) dX2_take_6 ⟨Nat.zero_le _, Nat.zero_le _⟩) hS (fun x_8 H_6 lo_7 h_6 hX hS => ?_)
    try dsimp only at h_6
    obtain ⟨w9, hM⟩ : ∃ w9, RD f t p w9 x_8 := by first | exact ⟨_, hRD⟩ | exact ⟨_, h_6.1⟩
    refine lv_aload_n hx hb dX2_take_9 rfl (lv_at hl 0 rfl) ?_
    refine x_get (w := (wX G B tt)) (a := 2) (v := .int (x_8 (2) 5)) hx hb hts iX2_take_X2 hown hK hX (Nat.le_of_ble_eq_true rfl) (shX_rd (G := G) (B := B)) rfl 5 (by decide) (hts _ kX2_take_22) (fun _ h9 => h9) rfl dX2_take_10 ?_
    refine lv_if_ne (tgt := 20) hx hb dX2_take_13 (by decide) (fun c_9 => ?_) (fun c_9 => ?_)
    · rw [← hQ]
      refine x_vret hx hb hr hX hS hlocks dX2_take_20 ?_
      first | exact ⟨tk_a hRD c_1 c_9, fun a _ => rfl⟩ | exact ⟨tk_b hRD c_1 c_9 h_17, h_17.1⟩ | exact ⟨tk_c h_6.1 c_1, h_6.2.2⟩ | exact absurd (tk_d h_6.1 c_9) id
    · refine lv_aload_n hx hb dX2_take_16 rfl (lv_at hl 0 rfl) ?_
      refine x_vf (w := (wX G B tt)) (va_runV (As := []) (rest := []) ⟨hx, hb, hml, hown, hts⟩ (c_X2_step (l := l) (G := G) (B := B) (tt := tt) (hW := hW) (x := x_8) (t := t) (p := (teN f t p)) (ht9 := hM.1) (ht400 := ht400) (hp := hM.2.2.1.2.2.1) (hpt := (teN_le hpt))) (cwV 0 hts gX2_take_X2_step rfl rfl rfl (by decide +kernel) ⟨Nat.le_of_ble_eq_true rfl, Nat.le_of_ble_eq_true rfl⟩) (x_pv (w := (wX G B tt)) (a := 2) hW hX hK hE hS [] (Nat.le_of_ble_eq_true rfl) (shX_rd (G := G) (B := B)) rfl) rfl rfl hl.1 rfl (lv_room (Nat.le_of_ble_eq_true rfl)) dX2_take_17 ⟨Nat.zero_le _, Nat.zero_le _⟩) hS (fun x_12 H_10 lo_11 h_17 hX hS => ?_)
      try dsimp only at h_17
      rw [← hQ]
      refine x_vret hx hb hr hX hS hlocks dX2_take_20 ?_
      first | exact ⟨tk_a hRD c_1 c_9, fun a _ => rfl⟩ | exact ⟨tk_b hRD c_1 c_9 h_17, h_17.1⟩ | exact ⟨tk_c h_6.1 c_1, h_6.2.2⟩ | exact absurd (tk_d h_6.1 c_9) id

theorem kX2_isName_43 : (.fieldLink RX2 43 "WindTaken$Reader" "token" "I" : Cond) ∈ wsX2_isName := by decide +kernel
theorem iX2_isName_X2 : ∀ w ∈ wsX20, w ∈ wsX2_isName := by decide +kernel
theorem kX2_isName_12 : (.fieldLink RX2 12 "WindTaken$Reader" "tape" "LWindTaken$Tape;" : Cond) ∈ wsX2_isName := by decide +kernel
theorem kX2_isName_117 : (.fieldLink RX2 117 "WindTaken$Reader" "start" "I" : Cond) ∈ wsX2_isName := by decide +kernel
theorem kX2_isName_18 : (.fieldLink RX2 18 "WindTaken$Reader" "end" "I" : Cond) ∈ wsX2_isName := by decide +kernel
abbrev rmX2_isName : Room := { frames := 5, cells := 0, slots := 0, locals := 109 }
set_option maxHeartbeats 4000000 in
set_option maxRecDepth 100000 in
theorem c_X2_isName (l : Launch) (G : GG) (B : Nat) (tt : Nat → Nat) (hW : WOK (wX G B tt)) (x : Mem) {sq : Nat} {f : Nat → Int32} {t : Nat} {p : Nat} {w : Int32} (hRD : RD f t p w x) (ht400 : t ≤ 400) (hpt : p ≤ t) (hq7 : sq < 7) : Met l yX2_isName wsX2_isName rmX2_isName (XP G (wX G B tt) [.ref (B + (2)), .ref (tt (100 + sq))] x) (va_Qi (fun r u => r = bI (nmB f t p sq) ∧ u = x) (XB G (wX G B tt)) (blkA B (B + 117))) 0 0 (blkA B (B + 117)) := by
  refine Met.ofW (cc := cX2_isName) (maxL := 2) (ret := (some .boolean)) (by decide) rfl ?_
  intro pp ee ss mm aa bb mt cd s1 Bd hml hv
  obtain ⟨hae, hX, hK, hE⟩ := hv
  have hx := Bd.exec
  have hb := Bd.bytes
  have hr := Bd.returns
  have hts := atoms_spec (ws := wsX2_isName) Bd.pre
  have hown : ss.vm.findClass RX2 = some mm.cls := findClass_of_methodNamed Bd.named
  have hlocks := Bd.notSynchronized
  have hS : va_S (blkA B (B + 117)) ss.heap ss.heap [] := va_S.rf
  have hl := lv_entry ([.ref (B + (2)), .ref (tt (100 + sq))]) (n := 2) (Nat.le_of_ble_eq_true rfl)
  subst hae
  rw [lg_entry_eq]
  generalize (lg_sl ([.ref (B + (2)), .ref (tt (100 + sq))]) ++ List.replicate (2 - (lg_sl ([.ref (B + (2)), .ref (tt (100 + sq))])).length) Slot.unset).toArray = ls at hl ⊢
  have hl : lv_has ls 2 [(0, .ref (B + (2))), (1, .ref (tt (100 + sq)))] := hl
  generalize ([.ref (B + (2)), .ref (tt (100 + sq))] : List Value).toArray = aa at hts ⊢
  show W pp l ee rmX2_isName ss mm aa bb mt cd ss.heap [] 0 0 _ (F0 mm 0 ls [])
  generalize hQ : MQ bb (va_Qi (fun r u => r = bI (nmB f t p sq) ∧ u = x) (XB G (wX G B tt)) (blkA B (B + 117))) aa ss 0 0 (blkA B (B + 117)) = Q
  have hte := teN_le (f := f) hpt
  refine lv_aload_n hx hb dX2_isName_0 rfl (lv_at hl 0 rfl) ?_
  refine x_get (w := (wX G B tt)) (a := 2) (v := .int (x (2) 1)) hx hb hts iX2_isName_X2 hown hK hX (Nat.le_of_ble_eq_true rfl) (shX_rd (G := G) (B := B)) rfl 1 (by decide) (hts _ kX2_isName_43) (fun _ h9 => h9) rfl dX2_isName_1 ?_
  refine lv_iconst (v := 1) hx hb dX2_isName_4 (by decide) ?_
  refine lv_icmp_ne (tgt := 31) hx hb dX2_isName_5 (by decide) (fun c_1 => ?_) (fun c_1 => ?_)
  · refine lv_iconst (v := 0) hx hb dX2_isName_31 (by decide) ?_
    rw [← hQ]
    refine x_zret (v := 0) (ty := .boolean) hx hb hr rfl hX hS hlocks dX2_isName_32 ?_
    first | exact ⟨by rw [nm_no (q := sq) (by rw [← hRD.2.2.1.1]; exact c_1)]; rfl, rfl⟩ | exact ⟨by rw [nm_b (v := false) htk1 (by have z := c_1; rw [hRD.2.1] at z; exact z)]; rfl, rfl⟩ | exact ⟨by rw [nm_b (v := true) htk1 (by have z := c_1; rw [hRD.2.1] at z; exact z)]; rfl, rfl⟩
  · have htk1 : tkI f t p = 1 := by rw [← hRD.2.2.1.1]; exact c_1
    have hij := teN_nm hpt htk1
    refine lv_aload_n hx hb dX2_isName_8 rfl (lv_at hl 0 rfl) ?_
    refine x_get (w := (wX G B tt)) (a := 2) (v := .ref (B + (3))) hx hb hts iX2_isName_X2 hown hK hX (Nat.le_of_ble_eq_true rfl) (shX_rd (G := G) (B := B)) rfl 0 (by decide) (hts _ kX2_isName_12) (fun _ h9 => h9) rfl dX2_isName_9 ?_
    refine lv_aload_n hx hb dX2_isName_12 rfl (lv_at hl 1 rfl) ?_
    refine lv_aload_n hx hb dX2_isName_13 rfl (lv_at hl 0 rfl) ?_
    refine x_get (w := (wX G B tt)) (a := 2) (v := .int (x (2) 2)) hx hb hts iX2_isName_X2 hown hK hX (Nat.le_of_ble_eq_true rfl) (shX_rd (G := G) (B := B)) rfl 2 (by decide) (hts _ kX2_isName_117) (fun _ h9 => h9) rfl dX2_isName_14 ?_
    refine lv_aload_n hx hb dX2_isName_17 rfl (lv_at hl 0 rfl) ?_
    refine x_get (w := (wX G B tt)) (a := 2) (v := .int (x (2) 3)) hx hb hts iX2_isName_X2 hown hK hX (Nat.le_of_ble_eq_true rfl) (shX_rd (G := G) (B := B)) rfl 3 (by decide) (hts _ kX2_isName_18) (fun _ h9 => h9) rfl dX2_isName_18 ?_
    refine W.eq (g2 := F0 mm 21 ls [.int (x (2) 3), .int (nI (tsN f t p)), .ref (tt (100 + sq)), .ref (B + (3))]) (congrArg (fun z9 : Int32 => F0 mm 21 ls [.int (x (2) 3), .int (z9), .ref (tt (100 + sq)), .ref (B + (3))]) hRD.2.2.1.2.1) ?_
    refine W.eq (g2 := F0 mm 21 ls [.int (nI (teN f t p)), .int (nI (tsN f t p)), .ref (tt (100 + sq)), .ref (B + (3))]) (congrArg (fun z9 : Int32 => F0 mm 21 ls [.int (z9), .int (nI (tsN f t p)), .ref (tt (100 + sq)), .ref (B + (3))]) hRD.2.2.1.2.2.1) ?_
    refine x_ip (w := (wX G B tt)) (x := x) (v := bI (tellB (x 4) sq (tsN f t p) (teN f t p))) (va_runV (As := [.ref (tt (100 + sq)), .int (nI (tsN f t p)), .int (nI (teN f t p))]) (rest := []) ⟨hx, hb, hml, hown, hts⟩ (c_X5_tells (l := l) (G := G) (B := B) (tt := tt) (hW := hW) (x := x) (sq := sq) (i := tsN f t p) (j := teN f t p) (t := t) (ht9 := hRD.1) (ht400 := ht400) (hq7 := hq7) (hij := (by omega)) (hjt := (by omega))) (cwV 3 hts gX2_isName_X5_tells rfl rfl rfl (by decide +kernel) ⟨Nat.le_of_ble_eq_true rfl, Nat.le_of_ble_eq_true rfl⟩) (x_pv (w := (wX G B tt)) (a := 3) hW hX hK hE hS [.ref (tt (100 + sq)), .int (nI (tsN f t p)), .int (nI (teN f t p))] (Nat.le_of_ble_eq_true rfl) (shX_tp (G := G) (B := B)) rfl) rfl rfl hl.1 rfl (lv_room (Nat.le_of_ble_eq_true rfl)) dX2_isName_21 ⟨Nat.zero_le _, Nat.zero_le _⟩) hS (fun H_2 lo_3 hX hS => ?_)
    refine x_ifeq (tgt := 31) hx hb dX2_isName_24 (by decide) (fun c_4 => ?_) (fun c_4 => ?_)
    · refine lv_iconst (v := 0) hx hb dX2_isName_31 (by decide) ?_
      rw [← hQ]
      refine x_zret (v := 0) (ty := .boolean) hx hb hr rfl hX hS hlocks dX2_isName_32 ?_
      first | exact ⟨by rw [nm_no (q := sq) (by rw [← hRD.2.2.1.1]; exact c_4)]; rfl, rfl⟩ | exact ⟨by rw [nm_b (v := false) htk1 (by have z := c_4; rw [hRD.2.1] at z; exact z)]; rfl, rfl⟩ | exact ⟨by rw [nm_b (v := true) htk1 (by have z := c_4; rw [hRD.2.1] at z; exact z)]; rfl, rfl⟩
    · refine lv_iconst (v := 1) hx hb dX2_isName_27 (by decide) ?_
      refine lv_goto (tgt := 32) hx hb dX2_isName_28 (by decide) ?_
      rw [← hQ]
      refine x_zret (v := 1) (ty := .boolean) hx hb hr rfl hX hS hlocks dX2_isName_32 ?_
      first | exact ⟨by rw [nm_no (q := sq) (by rw [← hRD.2.2.1.1]; exact c_4)]; rfl, rfl⟩ | exact ⟨by rw [nm_b (v := false) htk1 (by have z := c_4; rw [hRD.2.1] at z; exact z)]; rfl, rfl⟩ | exact ⟨by rw [nm_b (v := true) htk1 (by have z := c_4; rw [hRD.2.1] at z; exact z)]; rfl, rfl⟩

abbrev rmX2_takeName : Room := { frames := 6, cells := 0, slots := 0, locals := 130 }
set_option maxHeartbeats 4000000 in
set_option maxRecDepth 100000 in
theorem c_X2_takeName (l : Launch) (G : GG) (B : Nat) (tt : Nat → Nat) (hW : WOK (wX G B tt)) (x : Mem) {sq : Nat} {f : Nat → Int32} {t : Nat} {p : Nat} {w : Int32} (hRD : RD f t p w x) (ht400 : t ≤ 400) (hpt : p ≤ t) (hq7 : sq < 7) : Met l yX2_takeName wsX2_takeName rmX2_takeName (XP G (wX G B tt) [.ref (B + (2)), .ref (tt (100 + sq))] x) (va_Qv (fun u => RD f t (tkP f t p w (nmB f t p sq)) (tkW w (nmB f t p sq)) u ∧ ∀ a, a ≠ 2 → u a = x a) (XB G (wX G B tt)) (blkA B (B + 117))) 0 0 (blkA B (B + 117)) := by
  refine Met.ofW (cc := cX2_takeName) (maxL := 2) (ret := none) (by decide) rfl ?_
  intro pp ee ss mm aa bb mt cd s1 Bd hml hv
  obtain ⟨hae, hX, hK, hE⟩ := hv
  have hx := Bd.exec
  have hb := Bd.bytes
  have hr := Bd.returns
  have hts := atoms_spec (ws := wsX2_takeName) Bd.pre
  have hown : ss.vm.findClass RX2 = some mm.cls := findClass_of_methodNamed Bd.named
  have hlocks := Bd.notSynchronized
  have hS : va_S (blkA B (B + 117)) ss.heap ss.heap [] := va_S.rf
  have hl := lv_entry ([.ref (B + (2)), .ref (tt (100 + sq))]) (n := 2) (Nat.le_of_ble_eq_true rfl)
  subst hae
  rw [lg_entry_eq]
  generalize (lg_sl ([.ref (B + (2)), .ref (tt (100 + sq))]) ++ List.replicate (2 - (lg_sl ([.ref (B + (2)), .ref (tt (100 + sq))])).length) Slot.unset).toArray = ls at hl ⊢
  have hl : lv_has ls 2 [(0, .ref (B + (2))), (1, .ref (tt (100 + sq)))] := hl
  generalize ([.ref (B + (2)), .ref (tt (100 + sq))] : List Value).toArray = aa at hts ⊢
  show W pp l ee rmX2_takeName ss mm aa bb mt cd ss.heap [] 0 0 _ (F0 mm 0 ls [])
  generalize hQ : MQ bb (va_Qv (fun u => RD f t (tkP f t p w (nmB f t p sq)) (tkW w (nmB f t p sq)) u ∧ ∀ a, a ≠ 2 → u a = x a) (XB G (wX G B tt)) (blkA B (B + 117))) aa ss 0 0 (blkA B (B + 117)) = Q
  refine lv_aload_n hx hb dX2_takeName_0 rfl (lv_at hl 0 rfl) ?_
  refine lv_aload_n hx hb dX2_takeName_1 rfl (lv_at hl 0 rfl) ?_
  refine lv_aload_n hx hb dX2_takeName_2 rfl (lv_at hl 1 rfl) ?_
  refine x_ip (w := (wX G B tt)) (x := x) (v := bI (nmB f t p sq)) (va_runV (As := [.ref (tt (100 + sq))]) (rest := [.ref (B + (2))]) ⟨hx, hb, hml, hown, hts⟩ (c_X2_isName (l := l) (G := G) (B := B) (tt := tt) (hW := hW) (x := x) (sq := sq) (f := f) (t := t) (p := p) (w := w) (hRD := hRD) (ht400 := ht400) (hpt := hpt) (hq7 := (by omega))) (cwV 1 hts gX2_takeName_X2_isName rfl rfl rfl (by decide +kernel) ⟨Nat.le_of_ble_eq_true rfl, Nat.le_of_ble_eq_true rfl⟩) (x_pv (w := (wX G B tt)) (a := 2) hW hX hK hE hS [.ref (tt (100 + sq))] (Nat.le_of_ble_eq_true rfl) (shX_rd (G := G) (B := B)) rfl) rfl rfl hl.1 rfl (lv_room (Nat.le_of_ble_eq_true rfl)) dX2_takeName_3 ⟨Nat.zero_le _, Nat.zero_le _⟩) hS (fun H_1 lo_2 hX hS => ?_)
  refine x_vf (w := (wX G B tt)) (va_runV (As := [.int (bI (nmB f t p sq))]) (rest := []) ⟨hx, hb, hml, hown, hts⟩ (c_X2_take (l := l) (G := G) (B := B) (tt := tt) (hW := hW) (x := x) (b := nmB f t p sq) (f := f) (t := t) (p := p) (w := w) (hRD := hRD) (ht400 := ht400) (hpt := hpt)) (cwV 1 hts gX2_takeName_X2_take rfl rfl rfl (by decide +kernel) ⟨Nat.le_of_ble_eq_true rfl, Nat.le_of_ble_eq_true rfl⟩) (x_pv (w := (wX G B tt)) (a := 2) hW hX hK hE hS [.int (bI (nmB f t p sq))] (Nat.le_of_ble_eq_true rfl) (shX_rd (G := G) (B := B)) rfl) rfl rfl hl.1 rfl (lv_room (Nat.le_of_ble_eq_true rfl)) dX2_takeName_6 ⟨Nat.zero_le _, Nat.zero_le _⟩) hS (fun x_5 H_3 lo_4 h_6 hX hS => ?_)
  try dsimp only at h_6
  rw [← hQ]
  refine x_vret hx hb hr hX hS hlocks dX2_takeName_9 ?_
  exact h_6

theorem kX2_takeSign_43 : (.fieldLink RX2 43 "WindTaken$Reader" "token" "I" : Cond) ∈ wsX2_takeSign := by decide +kernel
theorem iX2_takeSign_X2 : ∀ w ∈ wsX20, w ∈ wsX2_takeSign := by decide +kernel
abbrev rmX2_takeSign : Room := { frames := 3, cells := 0, slots := 0, locals := 67 }
set_option maxHeartbeats 4000000 in
set_option maxRecDepth 100000 in
theorem c_X2_takeSign (l : Launch) (G : GG) (B : Nat) (tt : Nat → Nat) (hW : WOK (wX G B tt)) (x : Mem) {f : Nat → Int32} {t : Nat} {p : Nat} {w : Int32} (hRD : RD f t p w x) (ht400 : t ≤ 400) (hpt : p ≤ t) : Met l yX2_takeSign wsX2_takeSign rmX2_takeSign (XP G (wX G B tt) [.ref (B + (2))] x) (va_Qv (fun u => RD f t (tkP f t p w (decide (tkI f t p = 3))) (tkW w (decide (tkI f t p = 3))) u ∧ ∀ a, a ≠ 2 → u a = x a) (XB G (wX G B tt)) (blkA B (B + 117))) 0 0 (blkA B (B + 117)) := by
  refine Met.ofW (cc := cX2_takeSign) (maxL := 1) (ret := none) (by decide) rfl ?_
  intro pp ee ss mm aa bb mt cd s1 Bd hml hv
  obtain ⟨hae, hX, hK, hE⟩ := hv
  have hx := Bd.exec
  have hb := Bd.bytes
  have hr := Bd.returns
  have hts := atoms_spec (ws := wsX2_takeSign) Bd.pre
  have hown : ss.vm.findClass RX2 = some mm.cls := findClass_of_methodNamed Bd.named
  have hlocks := Bd.notSynchronized
  have hS : va_S (blkA B (B + 117)) ss.heap ss.heap [] := va_S.rf
  have hl := lv_entry ([.ref (B + (2))]) (n := 1) (Nat.le_of_ble_eq_true rfl)
  subst hae
  rw [lg_entry_eq]
  generalize (lg_sl ([.ref (B + (2))]) ++ List.replicate (1 - (lg_sl ([.ref (B + (2))])).length) Slot.unset).toArray = ls at hl ⊢
  have hl : lv_has ls 1 [(0, .ref (B + (2)))] := hl
  generalize ([.ref (B + (2))] : List Value).toArray = aa at hts ⊢
  show W pp l ee rmX2_takeSign ss mm aa bb mt cd ss.heap [] 0 0 _ (F0 mm 0 ls [])
  generalize hQ : MQ bb (va_Qv (fun u => RD f t (tkP f t p w (decide (tkI f t p = 3))) (tkW w (decide (tkI f t p = 3))) u ∧ ∀ a, a ≠ 2 → u a = x a) (XB G (wX G B tt)) (blkA B (B + 117))) aa ss 0 0 (blkA B (B + 117)) = Q
  refine lv_aload_n hx hb dX2_takeSign_0 rfl (lv_at hl 0 rfl) ?_
  refine lv_aload_n hx hb dX2_takeSign_1 rfl (lv_at hl 0 rfl) ?_
  refine x_get (w := (wX G B tt)) (a := 2) (v := .int (x (2) 1)) hx hb hts iX2_takeSign_X2 hown hK hX (Nat.le_of_ble_eq_true rfl) (shX_rd (G := G) (B := B)) rfl 1 (by decide) (hts _ kX2_takeSign_43) (fun _ h9 => h9) rfl dX2_takeSign_2 ?_
  refine lv_iconst (v := 3) hx hb dX2_takeSign_5 (by decide) ?_
  have kJ_3 : ∀ (v_2 : Bool) (_ : v_2 = (if (x (2) 1) = 3 then true else false)) (H_4 : Heap) (lo_5 : List Loc) (_ : MR G (wX G B tt) x H_4) (_ : va_S (blkA B (B + 117)) ss.heap H_4 lo_5) (ls : Array Slot) (_ : lv_has ls 1 [(0, .ref (B + (2)))]), W pp l ee rmX2_takeSign ss mm aa bb mt cd H_4 lo_5 0 0 Q (F0 mm 14 ls [.int (bI (v_2)), .ref (B + (2))]) := by
    intro v_2 ev_2 H_4 lo_5 hX hS ls hl
    have hv : v_2 = decide (tkI f t p = 3) := by rw [ev_2, hRD.2.2.1.1]; first | exact ite_dec | (rw [ite_ndec]; simp)
    subst hv
    refine x_vf (w := (wX G B tt)) (va_runV (As := [.int (bI ((decide (tkI f t p = 3))))]) (rest := []) ⟨hx, hb, hml, hown, hts⟩ (c_X2_take (l := l) (G := G) (B := B) (tt := tt) (hW := hW) (x := x) (b := (decide (tkI f t p = 3))) (f := f) (t := t) (p := p) (w := w) (hRD := hRD) (ht400 := ht400) (hpt := hpt)) (cwV 1 hts gX2_takeSign_X2_take rfl rfl rfl (by decide +kernel) ⟨Nat.le_of_ble_eq_true rfl, Nat.le_of_ble_eq_true rfl⟩) (x_pv (w := (wX G B tt)) (a := 2) hW hX hK hE hS [.int (bI ((decide (tkI f t p = 3))))] (Nat.le_of_ble_eq_true rfl) (shX_rd (G := G) (B := B)) rfl) rfl rfl hl.1 rfl (lv_room (Nat.le_of_ble_eq_true rfl)) dX2_takeSign_14 ⟨Nat.zero_le _, Nat.zero_le _⟩) hS (fun x_8 H_6 lo_7 h_14 hX hS => ?_)
    try dsimp only at h_14
    rw [← hQ]
    refine x_vret hx hb hr hX hS hlocks dX2_takeSign_17 ?_
    exact h_14
  refine lv_icmp_ne (tgt := 13) hx hb dX2_takeSign_6 (by decide) (fun c_1 => ?_) (fun c_1 => ?_)
  · refine lv_iconst (v := 0) hx hb dX2_takeSign_13 (by decide) ?_
    exact kJ_3 (false) (by rw [if_neg c_1]) _ _ hX hS ls (lv_sub hl [0] rfl)
  · refine lv_iconst (v := 1) hx hb dX2_takeSign_9 (by decide) ?_
    refine lv_goto (tgt := 14) hx hb dX2_takeSign_10 (by decide) ?_
    exact kJ_3 (true) (by rw [if_pos c_1]) _ _ hX hS ls (lv_sub hl [0] rfl)

theorem kX2_takeNumber_43 : (.fieldLink RX2 43 "WindTaken$Reader" "token" "I" : Cond) ∈ wsX2_takeNumber := by decide +kernel
theorem iX2_takeNumber_X2 : ∀ w ∈ wsX20, w ∈ wsX2_takeNumber := by decide +kernel
theorem kX2_takeNumber_95 : (.fieldLink RX2 95 "WindTaken$Reader" "number" "I" : Cond) ∈ wsX2_takeNumber := by decide +kernel
theorem kiX2_takeNumber_RX7 : (.initialized RX7 : Cond) ∈ wsX2_takeNumber := by decide +kernel
theorem ksX2_takeNumber_X7_isWithin : (.static yX7_isWithin : Cond) ∈ wsX2_takeNumber := by decide +kernel
abbrev rmX2_takeNumber : Room := { frames := 3, cells := 0, slots := 0, locals := 67 }
set_option maxHeartbeats 4000000 in
set_option maxRecDepth 100000 in
theorem c_X2_takeNumber (l : Launch) (G : GG) (B : Nat) (tt : Nat → Nat) (hW : WOK (wX G B tt)) (x : Mem) (lo : Int32) (hi : Int32) {f : Nat → Int32} {t : Nat} {p : Nat} {w : Int32} (hRD : RD f t p w x) (ht400 : t ≤ 400) (hpt : p ≤ t) : Met l yX2_takeNumber wsX2_takeNumber rmX2_takeNumber (XP G (wX G B tt) [.ref (B + (2)), .int (lo), .int (hi)] x) (va_Qi (fun r u => r = x 2 4 ∧ RD f t (tkP f t p (nbW f t p w lo hi) (decide (tkI f t p = 2))) (tkW (nbW f t p w lo hi) (decide (tkI f t p = 2))) u ∧ ∀ a, a ≠ 2 → u a = x a) (XB G (wX G B tt)) (blkA B (B + 117))) 0 0 (blkA B (B + 117)) := by
  refine Met.ofW (cc := cX2_takeNumber) (maxL := 4) (ret := (some .int)) (by decide) rfl ?_
  intro pp ee ss mm aa bb mt cd s1 Bd hml hv
  obtain ⟨hae, hX, hK, hE⟩ := hv
  have hx := Bd.exec
  have hb := Bd.bytes
  have hr := Bd.returns
  have hts := atoms_spec (ws := wsX2_takeNumber) Bd.pre
  have hown : ss.vm.findClass RX2 = some mm.cls := findClass_of_methodNamed Bd.named
  have hlocks := Bd.notSynchronized
  have hS : va_S (blkA B (B + 117)) ss.heap ss.heap [] := va_S.rf
  have hl := lv_entry ([.ref (B + (2)), .int (lo), .int (hi)]) (n := 4) (Nat.le_of_ble_eq_true rfl)
  subst hae
  rw [lg_entry_eq]
  generalize (lg_sl ([.ref (B + (2)), .int (lo), .int (hi)]) ++ List.replicate (4 - (lg_sl ([.ref (B + (2)), .int (lo), .int (hi)])).length) Slot.unset).toArray = ls at hl ⊢
  have hl : lv_has ls 4 [(0, .ref (B + (2))), (1, .int (lo)), (2, .int (hi))] := hl
  generalize ([.ref (B + (2)), .int (lo), .int (hi)] : List Value).toArray = aa at hts ⊢
  show W pp l ee rmX2_takeNumber ss mm aa bb mt cd ss.heap [] 0 0 _ (F0 mm 0 ls [])
  generalize hQ : MQ bb (va_Qi (fun r u => r = x 2 4 ∧ RD f t (tkP f t p (nbW f t p w lo hi) (decide (tkI f t p = 2))) (tkW (nbW f t p w lo hi) (decide (tkI f t p = 2))) u ∧ ∀ a, a ≠ 2 → u a = x a) (XB G (wX G B tt)) (blkA B (B + 117))) aa ss 0 0 (blkA B (B + 117)) = Q
  refine lv_aload_n hx hb dX2_takeNumber_0 rfl (lv_at hl 0 rfl) ?_
  refine x_get (w := (wX G B tt)) (a := 2) (v := .int (x (2) 1)) hx hb hts iX2_takeNumber_X2 hown hK hX (Nat.le_of_ble_eq_true rfl) (shX_rd (G := G) (B := B)) rfl 1 (by decide) (hts _ kX2_takeNumber_43) (fun _ h9 => h9) rfl dX2_takeNumber_1 ?_
  refine lv_iconst (v := 2) hx hb dX2_takeNumber_4 (by decide) ?_
  refine lv_icmp_ne (tgt := 25) hx hb dX2_takeNumber_5 (by decide) (fun c_1 => ?_) (fun c_1 => ?_)
  · obtain ⟨hM, hM4, hMo⟩ : RD f t p (nbW f t p w lo hi) x ∧ x 2 4 = x 2 4 ∧ ∀ a, a ≠ 2 → x a = x a := by first | exact ⟨nb_1 hRD c_1, rfl, fun a _ => rfl⟩ | exact ⟨nb_2 hRD c_1, rfl, fun a _ => rfl⟩ | exact ⟨nb_3 hRD rfl c_1 h_22.1, h_22.2.1 4 (by decide) (by decide), h_22.2.2⟩
    refine lv_aload_n hx hb dX2_takeNumber_25 rfl (lv_at hl 0 rfl) ?_
    refine x_get (w := (wX G B tt)) (a := 2) (v := .int (x (2) 4)) hx hb hts iX2_takeNumber_X2 hown hK hX (Nat.le_of_ble_eq_true rfl) (shX_rd (G := G) (B := B)) rfl 4 (by decide) (hts _ kX2_takeNumber_95) (fun _ h9 => h9) rfl dX2_takeNumber_26 ?_
    refine lv_istore_n (lv' := [(3, .int (x (2) 4)), (0, .ref (B + (2))), (1, .int (lo)), (2, .int (hi))]) hx hb dX2_takeNumber_29 rfl hl (by decide) rfl (fun ls hl => ?_)
    refine lv_aload_n hx hb dX2_takeNumber_30 rfl (lv_at hl 1 rfl) ?_
    refine lv_aload_n hx hb dX2_takeNumber_31 rfl (lv_at hl 1 rfl) ?_
    refine x_get (w := (wX G B tt)) (a := 2) (v := .int (x (2) 1)) hx hb hts iX2_takeNumber_X2 hown hK hX (Nat.le_of_ble_eq_true rfl) (shX_rd (G := G) (B := B)) rfl 1 (by decide) (hts _ kX2_takeNumber_43) (fun _ h9 => h9) rfl dX2_takeNumber_32 ?_
    refine lv_iconst (v := 2) hx hb dX2_takeNumber_35 (by decide) ?_
    have kJ_4 : ∀ (v_3 : Bool) (_ : v_3 = (if (x (2) 1) = 2 then true else false)) (H_5 : Heap) (lo_6 : List Loc) (_ : MR G (wX G B tt) x H_5) (_ : va_S (blkA B (B + 117)) ss.heap H_5 lo_6) (ls : Array Slot) (_ : lv_has ls 4 [(3, .int (x (2) 4)), (0, .ref (B + (2))), (1, .int (lo)), (2, .int (hi))]), W pp l ee rmX2_takeNumber ss mm aa bb mt cd H_5 lo_6 0 0 Q (F0 mm 44 ls [.int (bI (v_3)), .ref (B + (2))]) := by
      intro v_3 ev_3 H_5 lo_6 hX hS ls hl
      have hv : v_3 = decide (tkI f t p = 2) := by rw [ev_3, hM.2.2.1.1]; first | exact ite_dec | (rw [ite_ndec]; simp)
      subst hv
      refine x_vf (w := (wX G B tt)) (va_runV (As := [.int (bI ((decide (tkI f t p = 2))))]) (rest := []) ⟨hx, hb, hml, hown, hts⟩ (c_X2_take (l := l) (G := G) (B := B) (tt := tt) (hW := hW) (x := x) (b := (decide (tkI f t p = 2))) (f := f) (t := t) (p := p) (w := (nbW f t p w lo hi)) (hRD := hM) (ht400 := ht400) (hpt := hpt)) (cwV 1 hts gX2_takeNumber_X2_take rfl rfl rfl (by decide +kernel) ⟨Nat.le_of_ble_eq_true rfl, Nat.le_of_ble_eq_true rfl⟩) (x_pv (w := (wX G B tt)) (a := 2) hW hX hK hE hS [.int (bI ((decide (tkI f t p = 2))))] (Nat.le_of_ble_eq_true rfl) (shX_rd (G := G) (B := B)) rfl) rfl rfl hl.1 rfl (lv_room (Nat.le_of_ble_eq_true rfl)) dX2_takeNumber_44 ⟨Nat.zero_le _, Nat.zero_le _⟩) hS (fun x_9 H_7 lo_8 h_44 hX hS => ?_)
      try dsimp only at h_44
      refine lv_iload_n hx hb dX2_takeNumber_47 rfl (lv_at hl 0 rfl) ?_
      rw [← hQ]
      refine x_iret (v := x (2) 4) hx hb hr hX hS hlocks dX2_takeNumber_48 ?_
      exact ⟨hM4, h_44.1, fun a h => (h_44.2 a h).trans (hMo a h)⟩
    refine lv_icmp_ne (tgt := 43) hx hb dX2_takeNumber_36 (by decide) (fun c_2 => ?_) (fun c_2 => ?_)
    · refine lv_iconst (v := 0) hx hb dX2_takeNumber_43 (by decide) ?_
      exact kJ_4 (false) (by rw [if_neg c_2]) _ _ hX hS ls (lv_sub hl [0, 1, 2, 3] rfl)
    · refine lv_iconst (v := 1) hx hb dX2_takeNumber_39 (by decide) ?_
      refine lv_goto (tgt := 44) hx hb dX2_takeNumber_40 (by decide) ?_
      exact kJ_4 (true) (by rw [if_pos c_2]) _ _ hX hS ls (lv_sub hl [0, 1, 2, 3] rfl)
  · refine lv_aload_n hx hb dX2_takeNumber_8 rfl (lv_at hl 0 rfl) ?_
    refine x_get (w := (wX G B tt)) (a := 2) (v := .int (x (2) 4)) hx hb hts iX2_takeNumber_X2 hown hK hX (Nat.le_of_ble_eq_true rfl) (shX_rd (G := G) (B := B)) rfl 4 (by decide) (hts _ kX2_takeNumber_95) (fun _ h9 => h9) rfl dX2_takeNumber_9 ?_
    refine lv_iload_n hx hb dX2_takeNumber_12 rfl (lv_at hl 1 rfl) ?_
    refine lv_iload_n hx hb dX2_takeNumber_13 rfl (lv_at hl 2 rfl) ?_
    refine x_ip (w := (wX G B tt)) (x := x) (v := bI (decide (lo ≤ (x (2) 4)) && decide ((x (2) 4) ≤ hi))) (va_runSN (host := "WindTaken") (As := [.int (x (2) 4), .int (lo), .int (hi)]) (rest := []) ⟨hx, hb, hml, hown, hts⟩ (c_X7_isWithin (l := l) (G := G) (B := B) (tt := tt) (hW := hW) (x := x) (v := x (2) 4) (lo := lo) (hi := hi)) ⟨va_cnB 3 hts gX2_takeNumber_X7_isWithin_n130 rfl rfl rfl (hK.2 _ (List.mem_of_getElem? (i := 3) rfl)) (hts _ kiX2_takeNumber_RX7) (by decide +kernel) ⟨Nat.le_of_ble_eq_true rfl, Nat.le_of_ble_eq_true rfl⟩, (hts _ ksX2_takeNumber_X7_isWithin), trivial⟩ (x_ps (w := (wX G B tt)) hW hX hK hE hS [.int (x (2) 4), .int (lo), .int (hi)]) rfl rfl hl.1 rfl (lv_room (Nat.le_of_ble_eq_true rfl)) dX2_takeNumber_14 ⟨Nat.zero_le _, Nat.zero_le _⟩) hS (fun H_10 lo_11 hX hS => ?_)
    refine x_ifne (tgt := 25) hx hb dX2_takeNumber_17 (by decide) (fun c_12 => ?_) (fun c_12 => ?_)
    · obtain ⟨hM, hM4, hMo⟩ : RD f t p (nbW f t p w lo hi) x ∧ x 2 4 = x 2 4 ∧ ∀ a, a ≠ 2 → x a = x a := by first | exact ⟨nb_1 hRD c_12, rfl, fun a _ => rfl⟩ | exact ⟨nb_2 hRD c_12, rfl, fun a _ => rfl⟩ | exact ⟨nb_3 hRD c_1 c_12 h_22.1, h_22.2.1 4 (by decide) (by decide), h_22.2.2⟩
      refine lv_aload_n hx hb dX2_takeNumber_25 rfl (lv_at hl 0 rfl) ?_
      refine x_get (w := (wX G B tt)) (a := 2) (v := .int (x (2) 4)) hx hb hts iX2_takeNumber_X2 hown hK hX (Nat.le_of_ble_eq_true rfl) (shX_rd (G := G) (B := B)) rfl 4 (by decide) (hts _ kX2_takeNumber_95) (fun _ h9 => h9) rfl dX2_takeNumber_26 ?_
      refine lv_istore_n (lv' := [(3, .int (x (2) 4)), (0, .ref (B + (2))), (1, .int (lo)), (2, .int (hi))]) hx hb dX2_takeNumber_29 rfl hl (by decide) rfl (fun ls hl => ?_)
      refine lv_aload_n hx hb dX2_takeNumber_30 rfl (lv_at hl 1 rfl) ?_
      refine lv_aload_n hx hb dX2_takeNumber_31 rfl (lv_at hl 1 rfl) ?_
      refine x_get (w := (wX G B tt)) (a := 2) (v := .int (x (2) 1)) hx hb hts iX2_takeNumber_X2 hown hK hX (Nat.le_of_ble_eq_true rfl) (shX_rd (G := G) (B := B)) rfl 1 (by decide) (hts _ kX2_takeNumber_43) (fun _ h9 => h9) rfl dX2_takeNumber_32 ?_
      refine lv_iconst (v := 2) hx hb dX2_takeNumber_35 (by decide) ?_
      have kJ_15 : ∀ (v_14 : Bool) (_ : v_14 = (if (x (2) 1) = 2 then true else false)) (H_16 : Heap) (lo_17 : List Loc) (_ : MR G (wX G B tt) x H_16) (_ : va_S (blkA B (B + 117)) ss.heap H_16 lo_17) (ls : Array Slot) (_ : lv_has ls 4 [(3, .int (x (2) 4)), (0, .ref (B + (2))), (1, .int (lo)), (2, .int (hi))]), W pp l ee rmX2_takeNumber ss mm aa bb mt cd H_16 lo_17 0 0 Q (F0 mm 44 ls [.int (bI (v_14)), .ref (B + (2))]) := by
        intro v_14 ev_14 H_16 lo_17 hX hS ls hl
        have hv : v_14 = decide (tkI f t p = 2) := by rw [ev_14, hM.2.2.1.1]; first | exact ite_dec | (rw [ite_ndec]; simp)
        subst hv
        refine x_vf (w := (wX G B tt)) (va_runV (As := [.int (bI ((decide (tkI f t p = 2))))]) (rest := []) ⟨hx, hb, hml, hown, hts⟩ (c_X2_take (l := l) (G := G) (B := B) (tt := tt) (hW := hW) (x := x) (b := (decide (tkI f t p = 2))) (f := f) (t := t) (p := p) (w := (nbW f t p w lo hi)) (hRD := hM) (ht400 := ht400) (hpt := hpt)) (cwV 1 hts gX2_takeNumber_X2_take rfl rfl rfl (by decide +kernel) ⟨Nat.le_of_ble_eq_true rfl, Nat.le_of_ble_eq_true rfl⟩) (x_pv (w := (wX G B tt)) (a := 2) hW hX hK hE hS [.int (bI ((decide (tkI f t p = 2))))] (Nat.le_of_ble_eq_true rfl) (shX_rd (G := G) (B := B)) rfl) rfl rfl hl.1 rfl (lv_room (Nat.le_of_ble_eq_true rfl)) dX2_takeNumber_44 ⟨Nat.zero_le _, Nat.zero_le _⟩) hS (fun x_20 H_18 lo_19 h_44 hX hS => ?_)
        try dsimp only at h_44
        refine lv_iload_n hx hb dX2_takeNumber_47 rfl (lv_at hl 0 rfl) ?_
        rw [← hQ]
        refine x_iret (v := x (2) 4) hx hb hr hX hS hlocks dX2_takeNumber_48 ?_
        exact ⟨hM4, h_44.1, fun a h => (h_44.2 a h).trans (hMo a h)⟩
      refine lv_icmp_ne (tgt := 43) hx hb dX2_takeNumber_36 (by decide) (fun c_13 => ?_) (fun c_13 => ?_)
      · refine lv_iconst (v := 0) hx hb dX2_takeNumber_43 (by decide) ?_
        exact kJ_15 (false) (by rw [if_neg c_13]) _ _ hX hS ls (lv_sub hl [0, 1, 2, 3] rfl)
      · refine lv_iconst (v := 1) hx hb dX2_takeNumber_39 (by decide) ?_
        refine lv_goto (tgt := 44) hx hb dX2_takeNumber_40 (by decide) ?_
        exact kJ_15 (true) (by rw [if_pos c_13]) _ _ hX hS ls (lv_sub hl [0, 1, 2, 3] rfl)
    · refine lv_aload_n hx hb dX2_takeNumber_20 rfl (lv_at hl 0 rfl) ?_
      refine lv_iconst (v := 2) hx hb dX2_takeNumber_21 (by decide) ?_
      refine x_vf (w := (wX G B tt)) (va_runV (As := [.int (2)]) (rest := []) ⟨hx, hb, hml, hown, hts⟩ (c_X2_refuse (l := l) (G := G) (B := B) (tt := tt) (hW := hW) (x := x) (k := 2) (f := f) (t := t) (p := p) (w := w) (hRD := hRD) (hk0 := (by decide))) (cwV 1 hts gX2_takeNumber_X2_refuse rfl rfl rfl (by decide +kernel) ⟨Nat.le_of_ble_eq_true rfl, Nat.le_of_ble_eq_true rfl⟩) (x_pv (w := (wX G B tt)) (a := 2) hW hX hK hE hS [.int (2)] (Nat.le_of_ble_eq_true rfl) (shX_rd (G := G) (B := B)) rfl) rfl rfl hl.1 rfl (lv_room (Nat.le_of_ble_eq_true rfl)) dX2_takeNumber_22 ⟨Nat.zero_le _, Nat.zero_le _⟩) hS (fun x_23 H_21 lo_22 h_22 hX hS => ?_)
      try dsimp only at h_22
      obtain ⟨hM, hM4, hMo⟩ : RD f t p (nbW f t p w lo hi) x_23 ∧ x_23 2 4 = x 2 4 ∧ ∀ a, a ≠ 2 → x_23 a = x a := by first | exact ⟨nb_1 hRD c_12, rfl, fun a _ => rfl⟩ | exact ⟨nb_2 hRD c_12, rfl, fun a _ => rfl⟩ | exact ⟨nb_3 hRD c_1 c_12 h_22.1, h_22.2.1 4 (by decide) (by decide), h_22.2.2⟩
      refine lv_aload_n hx hb dX2_takeNumber_25 rfl (lv_at hl 0 rfl) ?_
      refine x_get (w := (wX G B tt)) (a := 2) (v := .int (x_23 (2) 4)) hx hb hts iX2_takeNumber_X2 hown hK hX (Nat.le_of_ble_eq_true rfl) (shX_rd (G := G) (B := B)) rfl 4 (by decide) (hts _ kX2_takeNumber_95) (fun _ h9 => h9) rfl dX2_takeNumber_26 ?_
      refine lv_istore_n (lv' := [(3, .int (x_23 (2) 4)), (0, .ref (B + (2))), (1, .int (lo)), (2, .int (hi))]) hx hb dX2_takeNumber_29 rfl hl (by decide) rfl (fun ls hl => ?_)
      refine lv_aload_n hx hb dX2_takeNumber_30 rfl (lv_at hl 1 rfl) ?_
      refine lv_aload_n hx hb dX2_takeNumber_31 rfl (lv_at hl 1 rfl) ?_
      refine x_get (w := (wX G B tt)) (a := 2) (v := .int (x_23 (2) 1)) hx hb hts iX2_takeNumber_X2 hown hK hX (Nat.le_of_ble_eq_true rfl) (shX_rd (G := G) (B := B)) rfl 1 (by decide) (hts _ kX2_takeNumber_43) (fun _ h9 => h9) rfl dX2_takeNumber_32 ?_
      refine lv_iconst (v := 2) hx hb dX2_takeNumber_35 (by decide) ?_
      have kJ_26 : ∀ (v_25 : Bool) (_ : v_25 = (if (x_23 (2) 1) = 2 then true else false)) (H_27 : Heap) (lo_28 : List Loc) (_ : MR G (wX G B tt) x_23 H_27) (_ : va_S (blkA B (B + 117)) ss.heap H_27 lo_28) (ls : Array Slot) (_ : lv_has ls 4 [(3, .int (x_23 (2) 4)), (0, .ref (B + (2))), (1, .int (lo)), (2, .int (hi))]), W pp l ee rmX2_takeNumber ss mm aa bb mt cd H_27 lo_28 0 0 Q (F0 mm 44 ls [.int (bI (v_25)), .ref (B + (2))]) := by
        intro v_25 ev_25 H_27 lo_28 hX hS ls hl
        have hv : v_25 = decide (tkI f t p = 2) := by rw [ev_25, hM.2.2.1.1]; first | exact ite_dec | (rw [ite_ndec]; simp)
        subst hv
        refine x_vf (w := (wX G B tt)) (va_runV (As := [.int (bI ((decide (tkI f t p = 2))))]) (rest := []) ⟨hx, hb, hml, hown, hts⟩ (c_X2_take (l := l) (G := G) (B := B) (tt := tt) (hW := hW) (x := x_23) (b := (decide (tkI f t p = 2))) (f := f) (t := t) (p := p) (w := (nbW f t p w lo hi)) (hRD := hM) (ht400 := ht400) (hpt := hpt)) (cwV 1 hts gX2_takeNumber_X2_take rfl rfl rfl (by decide +kernel) ⟨Nat.le_of_ble_eq_true rfl, Nat.le_of_ble_eq_true rfl⟩) (x_pv (w := (wX G B tt)) (a := 2) hW hX hK hE hS [.int (bI ((decide (tkI f t p = 2))))] (Nat.le_of_ble_eq_true rfl) (shX_rd (G := G) (B := B)) rfl) rfl rfl hl.1 rfl (lv_room (Nat.le_of_ble_eq_true rfl)) dX2_takeNumber_44 ⟨Nat.zero_le _, Nat.zero_le _⟩) hS (fun x_31 H_29 lo_30 h_44 hX hS => ?_)
        try dsimp only at h_44
        refine lv_iload_n hx hb dX2_takeNumber_47 rfl (lv_at hl 0 rfl) ?_
        rw [← hQ]
        refine x_iret (v := x_23 (2) 4) hx hb hr hX hS hlocks dX2_takeNumber_48 ?_
        exact ⟨hM4, h_44.1, fun a h => (h_44.2 a h).trans (hMo a h)⟩
      refine lv_icmp_ne (tgt := 43) hx hb dX2_takeNumber_36 (by decide) (fun c_24 => ?_) (fun c_24 => ?_)
      · refine lv_iconst (v := 0) hx hb dX2_takeNumber_43 (by decide) ?_
        exact kJ_26 (false) (by rw [if_neg c_24]) _ _ hX hS ls (lv_sub hl [0, 1, 2, 3] rfl)
      · refine lv_iconst (v := 1) hx hb dX2_takeNumber_39 (by decide) ?_
        refine lv_goto (tgt := 44) hx hb dX2_takeNumber_40 (by decide) ?_
        exact kJ_26 (true) (by rw [if_pos c_24]) _ _ hX hS ls (lv_sub hl [0, 1, 2, 3] rfl)
