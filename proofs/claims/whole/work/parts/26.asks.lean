theorem kX7_gives_192 : (.fieldLink RX7 192 "WindTaken$Mill" "flour" "I" : Cond) ∈ wsX7_gives := by decide +kernel
theorem iX7_gives_X0 : ∀ w ∈ wsX00, w ∈ wsX7_gives := by decide +kernel
abbrev rmX7_gives_10 : Room := { frames := 2, cells := 0, slots := 0, locals := 60 }
set_option maxHeartbeats 4000000 in
set_option maxRecDepth 100000 in
theorem c_X7_gives_10 (l : Launch) (G : GG) (B : Nat) (tt : Nat → Nat) (hW : WOK (wX G B tt)) (x : Mem) {j : Nat} (hj : j < 8) {d : Nat} {k : Nat} (hk : x 27 1 = nI k) (hk16 : k + 1 ≤ 16) (hd : d + 1 ≤ 16) : Met l yX7_gives wsX7_gives rmX7_gives_10 (XP G (wX G B tt) [.int (10), .ref (B + (5 + 1 + 1 + j)), .ref (B + (27)), .int (nI d)] x) (va_Qi (fun r u => r = x (5 + 1 + 1 + j) 8 ∧ u = pushL x k [10]) (XB G (wX G B tt)) (blkA B (B + 117))) 0 0 (blkA B (B + 117)) := by
  refine Met.ofW (cc := cX7_gives) (maxL := 5) (ret := (some .int)) (by decide) rfl ?_
  intro pp ee ss mm aa bb mt cd s1 Bd hml hv
  obtain ⟨hae, hX, hK, hE⟩ := hv
  have hx := Bd.exec
  have hb := Bd.bytes
  have hr := Bd.returns
  have hts := atoms_spec (ws := wsX7_gives) Bd.pre
  have hown : ss.vm.findClass RX7 = some mm.cls := findClass_of_methodNamed Bd.named
  have hlocks := Bd.notSynchronized
  have hS : va_S (blkA B (B + 117)) ss.heap ss.heap [] := va_S.rf
  have hl := lv_entry ([.int (10), .ref (B + (5 + 1 + 1 + j)), .ref (B + (27)), .int (nI d)]) (n := 5) (Nat.le_of_ble_eq_true rfl)
  subst hae
  rw [lg_entry_eq]
  generalize (lg_sl ([.int (10), .ref (B + (5 + 1 + 1 + j)), .ref (B + (27)), .int (nI d)]) ++ List.replicate (5 - (lg_sl ([.int (10), .ref (B + (5 + 1 + 1 + j)), .ref (B + (27)), .int (nI d)])).length) Slot.unset).toArray = ls at hl ⊢
  have hl : lv_has ls 5 [(0, .int (10)), (1, .ref (B + (5 + 1 + 1 + j))), (2, .ref (B + (27))), (3, .int (nI d))] := hl
  generalize ([.int (10), .ref (B + (5 + 1 + 1 + j)), .ref (B + (27)), .int (nI d)] : List Value).toArray = aa at hts ⊢
  show W pp l ee rmX7_gives_10 ss mm aa bb mt cd ss.heap [] 0 0 _ (F0 mm 0 ls [])
  generalize hQ : MQ bb (va_Qi (fun r u => r = x (5 + 1 + 1 + j) 8 ∧ u = pushL x k [10]) (XB G (wX G B tt)) (blkA B (B + 117))) aa ss 0 0 (blkA B (B + 117)) = Q
  refine lv_iload_n hx hb dX7_gives_0 rfl (lv_at hl 3 rfl) ?_
  refine lv_bipush (v := 16) hx hb dX7_gives_1 (by decide) ?_
  refine lv_icmp_le (tgt := 8) hx hb dX7_gives_3 (by decide) (fun c_1 => ?_) (fun c_1 => ?_)
  · have nc_1 := (n_le (a := d) (b := 16) rfl rfl (by omega) (by omega)).mp c_1
    refine lv_aload_n hx hb dX7_gives_8 rfl (lv_at hl 2 rfl) ?_
    refine lv_iload_n hx hb dX7_gives_9 rfl (lv_at hl 0 rfl) ?_
    refine x_vf (w := (wX G B tt)) (va_runV (As := [.int (10)]) (rest := []) ⟨hx, hb, hml, hown, hts⟩ (c_X6_leave (l := l) (G := G) (B := B) (tt := tt) (hW := hW) (x := x) (b := 10) (k := k) (hk := hk) (hk16 := (by omega))) (cwV 1 hts gX7_gives_X6_leave rfl rfl rfl (by decide +kernel) ⟨Nat.le_of_ble_eq_true rfl, Nat.le_of_ble_eq_true rfl⟩) (x_pv (w := (wX G B tt)) (a := 27) hW hX hK hE hS [.int (10)] (Nat.le_of_ble_eq_true rfl) (shX_tr (G := G) (B := B)) rfl) rfl rfl hl.1 rfl (lv_room (Nat.le_of_ble_eq_true rfl)) dX7_gives_10 ⟨Nat.zero_le _, Nat.zero_le _⟩) hS (fun x_4 H_2 lo_3 h_10 hX hS => ?_)
    try dsimp only at h_10
    have P10 : x_4 = pushL x k [10] := by rw [h_10, if_pos (by omega)]; rfl
    have K10 : x_4 27 1 = nI (k + 1) := by rw [P10]; exact pushL_len k [10] x hk
    have M10 : x_4 (5 + 1 + 1 + j) = x (5 + 1 + 1 + j) := by rw [P10]; exact pushL_off k _ x _ (by omega) (by omega)
    refine lv_iload_n hx hb dX7_gives_13 rfl (lv_at hl 3 rfl) ?_
    refine lv_iconst (v := 1) hx hb dX7_gives_14 (by decide) ?_
    refine lv_iadd hx hb dX7_gives_15 ?_
    refine lv_istore (lv' := [(4, .int (nI d + 1)), (0, .int (10)), (1, .ref (B + (5 + 1 + 1 + j))), (2, .ref (B + (27))), (3, .int (nI d))]) hx hb dX7_gives_16 hl (by decide) rfl (fun ls hl => ?_)
    refine lv_iload_n hx hb dX7_gives_18 rfl (lv_at hl 1 rfl) ?_
    refine lv_tableIn (tgt := 92) (off := 73) hx hb dX7_gives_19 (by decide) (by decide) rfl (by decide) ?_
    refine lv_aload_n hx hb dX7_gives_92 rfl (lv_at hl 2 rfl) ?_
    refine x_get (w := (wX G B tt)) (a := 5 + 1 + 1 + j) (v := .int (x_4 (5 + 1 + 1 + j) 8)) hx hb hts iX7_gives_X0 hown hK hX (rg_ltm rg5 hj) (shX_mi (G := G) (B := B) rg5 hj) rfl 8 (by decide) (hts _ kX7_gives_192) (fun _ h9 => h9) rfl dX7_gives_93 ?_
    rw [← hQ]
    refine x_iret (v := x_4 (5 + 1 + 1 + j) 8) hx hb hr hX hS hlocks dX7_gives_96 ?_
    exact ⟨by rw [M10], P10⟩
  · have nc_1 := Nat.not_le.mp (fun q => c_1 ((n_le (a := d) (b := 16) rfl rfl (by omega) (by omega)).mpr q))
    exact absurd nc_1 (by omega)

theorem kX7_gives_324 : (.fieldLink RX7 324 "WindTaken$Mill" "number" "I" : Cond) ∈ wsX7_gives := by decide +kernel
abbrev rmX7_gives_20 : Room := { frames := 2, cells := 0, slots := 0, locals := 60 }
set_option maxHeartbeats 4000000 in
set_option maxRecDepth 100000 in
theorem c_X7_gives_20 (l : Launch) (G : GG) (B : Nat) (tt : Nat → Nat) (hW : WOK (wX G B tt)) (x : Mem) {j : Nat} (hj : j < 8) {d : Nat} {k : Nat} (hk : x 27 1 = nI k) (hk16 : k + 1 ≤ 16) (hd : d + 1 ≤ 16) : Met l yX7_gives wsX7_gives rmX7_gives_20 (XP G (wX G B tt) [.int (20), .ref (B + (5 + 1 + 1 + j)), .ref (B + (27)), .int (nI d)] x) (va_Qi (fun r u => r = x (5 + 1 + 1 + j) 0 ∧ u = pushL x k [20]) (XB G (wX G B tt)) (blkA B (B + 117))) 0 0 (blkA B (B + 117)) := by
  refine Met.ofW (cc := cX7_gives) (maxL := 5) (ret := (some .int)) (by decide) rfl ?_
  intro pp ee ss mm aa bb mt cd s1 Bd hml hv
  obtain ⟨hae, hX, hK, hE⟩ := hv
  have hx := Bd.exec
  have hb := Bd.bytes
  have hr := Bd.returns
  have hts := atoms_spec (ws := wsX7_gives) Bd.pre
  have hown : ss.vm.findClass RX7 = some mm.cls := findClass_of_methodNamed Bd.named
  have hlocks := Bd.notSynchronized
  have hS : va_S (blkA B (B + 117)) ss.heap ss.heap [] := va_S.rf
  have hl := lv_entry ([.int (20), .ref (B + (5 + 1 + 1 + j)), .ref (B + (27)), .int (nI d)]) (n := 5) (Nat.le_of_ble_eq_true rfl)
  subst hae
  rw [lg_entry_eq]
  generalize (lg_sl ([.int (20), .ref (B + (5 + 1 + 1 + j)), .ref (B + (27)), .int (nI d)]) ++ List.replicate (5 - (lg_sl ([.int (20), .ref (B + (5 + 1 + 1 + j)), .ref (B + (27)), .int (nI d)])).length) Slot.unset).toArray = ls at hl ⊢
  have hl : lv_has ls 5 [(0, .int (20)), (1, .ref (B + (5 + 1 + 1 + j))), (2, .ref (B + (27))), (3, .int (nI d))] := hl
  generalize ([.int (20), .ref (B + (5 + 1 + 1 + j)), .ref (B + (27)), .int (nI d)] : List Value).toArray = aa at hts ⊢
  show W pp l ee rmX7_gives_20 ss mm aa bb mt cd ss.heap [] 0 0 _ (F0 mm 0 ls [])
  generalize hQ : MQ bb (va_Qi (fun r u => r = x (5 + 1 + 1 + j) 0 ∧ u = pushL x k [20]) (XB G (wX G B tt)) (blkA B (B + 117))) aa ss 0 0 (blkA B (B + 117)) = Q
  refine lv_iload_n hx hb dX7_gives_0 rfl (lv_at hl 3 rfl) ?_
  refine lv_bipush (v := 16) hx hb dX7_gives_1 (by decide) ?_
  refine lv_icmp_le (tgt := 8) hx hb dX7_gives_3 (by decide) (fun c_1 => ?_) (fun c_1 => ?_)
  · have nc_1 := (n_le (a := d) (b := 16) rfl rfl (by omega) (by omega)).mp c_1
    refine lv_aload_n hx hb dX7_gives_8 rfl (lv_at hl 2 rfl) ?_
    refine lv_iload_n hx hb dX7_gives_9 rfl (lv_at hl 0 rfl) ?_
    refine x_vf (w := (wX G B tt)) (va_runV (As := [.int (20)]) (rest := []) ⟨hx, hb, hml, hown, hts⟩ (c_X6_leave (l := l) (G := G) (B := B) (tt := tt) (hW := hW) (x := x) (b := 20) (k := k) (hk := hk) (hk16 := (by omega))) (cwV 1 hts gX7_gives_X6_leave rfl rfl rfl (by decide +kernel) ⟨Nat.le_of_ble_eq_true rfl, Nat.le_of_ble_eq_true rfl⟩) (x_pv (w := (wX G B tt)) (a := 27) hW hX hK hE hS [.int (20)] (Nat.le_of_ble_eq_true rfl) (shX_tr (G := G) (B := B)) rfl) rfl rfl hl.1 rfl (lv_room (Nat.le_of_ble_eq_true rfl)) dX7_gives_10 ⟨Nat.zero_le _, Nat.zero_le _⟩) hS (fun x_4 H_2 lo_3 h_10 hX hS => ?_)
    try dsimp only at h_10
    have P10 : x_4 = pushL x k [20] := by rw [h_10, if_pos (by omega)]; rfl
    have K10 : x_4 27 1 = nI (k + 1) := by rw [P10]; exact pushL_len k [20] x hk
    have M10 : x_4 (5 + 1 + 1 + j) = x (5 + 1 + 1 + j) := by rw [P10]; exact pushL_off k _ x _ (by omega) (by omega)
    refine lv_iload_n hx hb dX7_gives_13 rfl (lv_at hl 3 rfl) ?_
    refine lv_iconst (v := 1) hx hb dX7_gives_14 (by decide) ?_
    refine lv_iadd hx hb dX7_gives_15 ?_
    refine lv_istore (lv' := [(4, .int (nI d + 1)), (0, .int (20)), (1, .ref (B + (5 + 1 + 1 + j))), (2, .ref (B + (27))), (3, .int (nI d))]) hx hb dX7_gives_16 hl (by decide) rfl (fun ls hl => ?_)
    refine lv_iload_n hx hb dX7_gives_18 rfl (lv_at hl 1 rfl) ?_
    refine lv_tableIn (tgt := 156) (off := 137) hx hb dX7_gives_19 (by decide) (by decide) rfl (by decide) ?_
    refine lv_aload_n hx hb dX7_gives_156 rfl (lv_at hl 2 rfl) ?_
    refine x_get (w := (wX G B tt)) (a := 5 + 1 + 1 + j) (v := .int (x_4 (5 + 1 + 1 + j) 0)) hx hb hts iX7_gives_X0 hown hK hX (rg_ltm rg5 hj) (shX_mi (G := G) (B := B) rg5 hj) rfl 0 (by decide) (hts _ kX7_gives_324) (fun _ h9 => h9) rfl dX7_gives_157 ?_
    rw [← hQ]
    refine x_iret (v := x_4 (5 + 1 + 1 + j) 0) hx hb hr hX hS hlocks dX7_gives_160 ?_
    exact ⟨by rw [M10], P10⟩
  · have nc_1 := Nat.not_le.mp (fun q => c_1 ((n_le (a := d) (b := 16) rfl rfl (by omega) (by omega)).mpr q))
    exact absurd nc_1 (by omega)

theorem kX7_gives_159 : (.fieldLink RX7 159 "WindTaken$Mill" "floors" "I" : Cond) ∈ wsX7_gives := by decide +kernel
abbrev rmX7_gives_21 : Room := { frames := 3, cells := 0, slots := 0, locals := 90 }
set_option maxHeartbeats 4000000 in
set_option maxRecDepth 100000 in
theorem c_X7_gives_21 (l : Launch) (G : GG) (B : Nat) (tt : Nat → Nat) (hW : WOK (wX G B tt)) (x : Mem) {j : Nat} (hj : j < 8) {d : Nat} {k : Nat} (hk : x 27 1 = nI k) (hk16 : k + 2 ≤ 16) (hd : d + 2 ≤ 16) : Met l yX7_gives wsX7_gives rmX7_gives_21 (XP G (wX G B tt) [.int (21), .ref (B + (5 + 1 + 1 + j)), .ref (B + (27)), .int (nI d)] x) (va_Qi (fun r u => r = x (5 + 1 + 1 + j) 0 + 10 * x (5 + 1 + 1 + j) 4 ∧ u = pushL x k [21, 20]) (XB G (wX G B tt)) (blkA B (B + 117))) 0 0 (blkA B (B + 117)) := by
  refine Met.ofW (cc := cX7_gives) (maxL := 5) (ret := (some .int)) (by decide) rfl ?_
  intro pp ee ss mm aa bb mt cd s1 Bd hml hv
  obtain ⟨hae, hX, hK, hE⟩ := hv
  have hx := Bd.exec
  have hb := Bd.bytes
  have hr := Bd.returns
  have hts := atoms_spec (ws := wsX7_gives) Bd.pre
  have hown : ss.vm.findClass RX7 = some mm.cls := findClass_of_methodNamed Bd.named
  have hlocks := Bd.notSynchronized
  have hS : va_S (blkA B (B + 117)) ss.heap ss.heap [] := va_S.rf
  have hl := lv_entry ([.int (21), .ref (B + (5 + 1 + 1 + j)), .ref (B + (27)), .int (nI d)]) (n := 5) (Nat.le_of_ble_eq_true rfl)
  subst hae
  rw [lg_entry_eq]
  generalize (lg_sl ([.int (21), .ref (B + (5 + 1 + 1 + j)), .ref (B + (27)), .int (nI d)]) ++ List.replicate (5 - (lg_sl ([.int (21), .ref (B + (5 + 1 + 1 + j)), .ref (B + (27)), .int (nI d)])).length) Slot.unset).toArray = ls at hl ⊢
  have hl : lv_has ls 5 [(0, .int (21)), (1, .ref (B + (5 + 1 + 1 + j))), (2, .ref (B + (27))), (3, .int (nI d))] := hl
  generalize ([.int (21), .ref (B + (5 + 1 + 1 + j)), .ref (B + (27)), .int (nI d)] : List Value).toArray = aa at hts ⊢
  show W pp l ee rmX7_gives_21 ss mm aa bb mt cd ss.heap [] 0 0 _ (F0 mm 0 ls [])
  generalize hQ : MQ bb (va_Qi (fun r u => r = x (5 + 1 + 1 + j) 0 + 10 * x (5 + 1 + 1 + j) 4 ∧ u = pushL x k [21, 20]) (XB G (wX G B tt)) (blkA B (B + 117))) aa ss 0 0 (blkA B (B + 117)) = Q
  refine lv_iload_n hx hb dX7_gives_0 rfl (lv_at hl 3 rfl) ?_
  refine lv_bipush (v := 16) hx hb dX7_gives_1 (by decide) ?_
  refine lv_icmp_le (tgt := 8) hx hb dX7_gives_3 (by decide) (fun c_1 => ?_) (fun c_1 => ?_)
  · have nc_1 := (n_le (a := d) (b := 16) rfl rfl (by omega) (by omega)).mp c_1
    refine lv_aload_n hx hb dX7_gives_8 rfl (lv_at hl 2 rfl) ?_
    refine lv_iload_n hx hb dX7_gives_9 rfl (lv_at hl 0 rfl) ?_
    refine x_vf (w := (wX G B tt)) (va_runV (As := [.int (21)]) (rest := []) ⟨hx, hb, hml, hown, hts⟩ (c_X6_leave (l := l) (G := G) (B := B) (tt := tt) (hW := hW) (x := x) (b := 21) (k := k) (hk := hk) (hk16 := (by omega))) (cwV 1 hts gX7_gives_X6_leave rfl rfl rfl (by decide +kernel) ⟨Nat.le_of_ble_eq_true rfl, Nat.le_of_ble_eq_true rfl⟩) (x_pv (w := (wX G B tt)) (a := 27) hW hX hK hE hS [.int (21)] (Nat.le_of_ble_eq_true rfl) (shX_tr (G := G) (B := B)) rfl) rfl rfl hl.1 rfl (lv_room (Nat.le_of_ble_eq_true rfl)) dX7_gives_10 ⟨Nat.zero_le _, Nat.zero_le _⟩) hS (fun x_4 H_2 lo_3 h_10 hX hS => ?_)
    try dsimp only at h_10
    have P10 : x_4 = pushL x k [21] := by rw [h_10, if_pos (by omega)]; rfl
    have K10 : x_4 27 1 = nI (k + 1) := by rw [P10]; exact pushL_len k [21] x hk
    have M10 : x_4 (5 + 1 + 1 + j) = x (5 + 1 + 1 + j) := by rw [P10]; exact pushL_off k _ x _ (by omega) (by omega)
    refine lv_iload_n hx hb dX7_gives_13 rfl (lv_at hl 3 rfl) ?_
    refine lv_iconst (v := 1) hx hb dX7_gives_14 (by decide) ?_
    refine lv_iadd hx hb dX7_gives_15 ?_
    refine lv_istore (lv' := [(4, .int (nI d + 1)), (0, .int (21)), (1, .ref (B + (5 + 1 + 1 + j))), (2, .ref (B + (27))), (3, .int (nI d))]) hx hb dX7_gives_16 hl (by decide) rfl (fun ls hl => ?_)
    refine lv_iload_n hx hb dX7_gives_18 rfl (lv_at hl 1 rfl) ?_
    refine lv_tableIn (tgt := 161) (off := 142) hx hb dX7_gives_19 (by decide) (by decide) rfl (by decide) ?_
    refine lv_bipush (v := 20) hx hb dX7_gives_161 (by decide) ?_
    refine lv_aload_n hx hb dX7_gives_163 rfl (lv_at hl 2 rfl) ?_
    refine lv_aload_n hx hb dX7_gives_164 rfl (lv_at hl 3 rfl) ?_
    refine lv_iload hx hb dX7_gives_165 (lv_at hl 0 rfl) ?_
    refine W.eq (g2 := F0 mm 167 ls [.int (nI (d + 1)), .ref (B + (27)), .ref (B + (5 + 1 + 1 + j)), .int (20)]) (congrArg (fun z9 : Int32 => F0 mm 167 ls [.int (z9), .ref (B + (27)), .ref (B + (5 + 1 + 1 + j)), .int (20)]) (n_add rfl rfl)) ?_
    refine x_if (w := (wX G B tt)) (va_runS (As := [.int (20), .ref (B + (5 + 1 + 1 + j)), .ref (B + (27)), .int (nI (d + 1))]) (rest := []) ⟨hx, hb, hml, hown, hts⟩ (c_X7_gives_20 (l := l) (G := G) (B := B) (tt := tt) (hW := hW) (x := x_4) (j := j) (hj := hj) (d := d + 1) (k := k + 1) (hk := K10) (hk16 := (by omega)) (hd := (by omega))) (va_cwS 4 hts gX7_gives_X7_gives rfl rfl rfl (by decide +kernel) ⟨Nat.le_of_ble_eq_true rfl, Nat.le_of_ble_eq_true rfl⟩) (x_ps (w := (wX G B tt)) hW hX hK hE hS [.int (20), .ref (B + (5 + 1 + 1 + j)), .ref (B + (27)), .int (nI (d + 1))]) rfl rfl hl.1 rfl (lv_room (Nat.le_of_ble_eq_true rfl)) dX7_gives_167 ⟨Nat.zero_le _, Nat.zero_le _⟩) hS (fun r_7 x_8 H_5 lo_6 h_167 hX hS => ?_)
    try dsimp only at h_167
    have P167 : x_8 = pushL x k [21, 20] := by rw [h_167.2, P10]; exact (pushL_app x k [21] [20]).symm
    have V167 := h_167.1
    rw [M10] at V167
    have K167 : x_8 27 1 = nI (k + 2) := by rw [P167]; exact pushL_len k [21, 20] x hk
    have M167 : x_8 (5 + 1 + 1 + j) = x (5 + 1 + 1 + j) := by rw [P167]; exact pushL_off k _ x _ (by omega) (by omega)
    refine lv_bipush (v := 10) hx hb dX7_gives_170 (by decide) ?_
    refine lv_aload_n hx hb dX7_gives_172 rfl (lv_at hl 2 rfl) ?_
    refine x_get (w := (wX G B tt)) (a := 5 + 1 + 1 + j) (v := .int (x_8 (5 + 1 + 1 + j) 4)) hx hb hts iX7_gives_X0 hown hK hX (rg_ltm rg5 hj) (shX_mi (G := G) (B := B) rg5 hj) rfl 4 (by decide) (hts _ kX7_gives_159) (fun _ h9 => h9) rfl dX7_gives_173 ?_
    refine lv_imul hx hb dX7_gives_176 ?_
    refine lv_iadd hx hb dX7_gives_177 ?_
    rw [← hQ]
    refine x_iret (v := r_7 + (10 * (x_8 (5 + 1 + 1 + j) 4))) hx hb hr hX hS hlocks dX7_gives_178 ?_
    exact ⟨by first | (rw [V167]; done) | rw [V167, M167], P167⟩
  · have nc_1 := Nat.not_le.mp (fun q => c_1 ((n_le (a := d) (b := 16) rfl rfl (by omega) (by omega)).mpr q))
    exact absurd nc_1 (by omega)

theorem kX7_gives_189 : (.fieldLink RX7 189 "WindTaken$Mill" "age" "I" : Cond) ∈ wsX7_gives := by decide +kernel
abbrev rmX7_gives_22 : Room := { frames := 4, cells := 0, slots := 0, locals := 120 }
set_option maxHeartbeats 4000000 in
set_option maxRecDepth 100000 in
theorem c_X7_gives_22 (l : Launch) (G : GG) (B : Nat) (tt : Nat → Nat) (hW : WOK (wX G B tt)) (x : Mem) {j : Nat} (hj : j < 8) {d : Nat} {k : Nat} (hk : x 27 1 = nI k) (hk16 : k + 3 ≤ 16) (hd : d + 3 ≤ 16) : Met l yX7_gives wsX7_gives rmX7_gives_22 (XP G (wX G B tt) [.int (22), .ref (B + (5 + 1 + 1 + j)), .ref (B + (27)), .int (nI d)] x) (va_Qi (fun r u => r = x (5 + 1 + 1 + j) 0 + 10 * x (5 + 1 + 1 + j) 4 - x (5 + 1 + 1 + j) 6 ∧ u = pushL x k [22, 21, 20]) (XB G (wX G B tt)) (blkA B (B + 117))) 0 0 (blkA B (B + 117)) := by
  refine Met.ofW (cc := cX7_gives) (maxL := 5) (ret := (some .int)) (by decide) rfl ?_
  intro pp ee ss mm aa bb mt cd s1 Bd hml hv
  obtain ⟨hae, hX, hK, hE⟩ := hv
  have hx := Bd.exec
  have hb := Bd.bytes
  have hr := Bd.returns
  have hts := atoms_spec (ws := wsX7_gives) Bd.pre
  have hown : ss.vm.findClass RX7 = some mm.cls := findClass_of_methodNamed Bd.named
  have hlocks := Bd.notSynchronized
  have hS : va_S (blkA B (B + 117)) ss.heap ss.heap [] := va_S.rf
  have hl := lv_entry ([.int (22), .ref (B + (5 + 1 + 1 + j)), .ref (B + (27)), .int (nI d)]) (n := 5) (Nat.le_of_ble_eq_true rfl)
  subst hae
  rw [lg_entry_eq]
  generalize (lg_sl ([.int (22), .ref (B + (5 + 1 + 1 + j)), .ref (B + (27)), .int (nI d)]) ++ List.replicate (5 - (lg_sl ([.int (22), .ref (B + (5 + 1 + 1 + j)), .ref (B + (27)), .int (nI d)])).length) Slot.unset).toArray = ls at hl ⊢
  have hl : lv_has ls 5 [(0, .int (22)), (1, .ref (B + (5 + 1 + 1 + j))), (2, .ref (B + (27))), (3, .int (nI d))] := hl
  generalize ([.int (22), .ref (B + (5 + 1 + 1 + j)), .ref (B + (27)), .int (nI d)] : List Value).toArray = aa at hts ⊢
  show W pp l ee rmX7_gives_22 ss mm aa bb mt cd ss.heap [] 0 0 _ (F0 mm 0 ls [])
  generalize hQ : MQ bb (va_Qi (fun r u => r = x (5 + 1 + 1 + j) 0 + 10 * x (5 + 1 + 1 + j) 4 - x (5 + 1 + 1 + j) 6 ∧ u = pushL x k [22, 21, 20]) (XB G (wX G B tt)) (blkA B (B + 117))) aa ss 0 0 (blkA B (B + 117)) = Q
  refine lv_iload_n hx hb dX7_gives_0 rfl (lv_at hl 3 rfl) ?_
  refine lv_bipush (v := 16) hx hb dX7_gives_1 (by decide) ?_
  refine lv_icmp_le (tgt := 8) hx hb dX7_gives_3 (by decide) (fun c_1 => ?_) (fun c_1 => ?_)
  · have nc_1 := (n_le (a := d) (b := 16) rfl rfl (by omega) (by omega)).mp c_1
    refine lv_aload_n hx hb dX7_gives_8 rfl (lv_at hl 2 rfl) ?_
    refine lv_iload_n hx hb dX7_gives_9 rfl (lv_at hl 0 rfl) ?_
    refine x_vf (w := (wX G B tt)) (va_runV (As := [.int (22)]) (rest := []) ⟨hx, hb, hml, hown, hts⟩ (c_X6_leave (l := l) (G := G) (B := B) (tt := tt) (hW := hW) (x := x) (b := 22) (k := k) (hk := hk) (hk16 := (by omega))) (cwV 1 hts gX7_gives_X6_leave rfl rfl rfl (by decide +kernel) ⟨Nat.le_of_ble_eq_true rfl, Nat.le_of_ble_eq_true rfl⟩) (x_pv (w := (wX G B tt)) (a := 27) hW hX hK hE hS [.int (22)] (Nat.le_of_ble_eq_true rfl) (shX_tr (G := G) (B := B)) rfl) rfl rfl hl.1 rfl (lv_room (Nat.le_of_ble_eq_true rfl)) dX7_gives_10 ⟨Nat.zero_le _, Nat.zero_le _⟩) hS (fun x_4 H_2 lo_3 h_10 hX hS => ?_)
    try dsimp only at h_10
    have P10 : x_4 = pushL x k [22] := by rw [h_10, if_pos (by omega)]; rfl
    have K10 : x_4 27 1 = nI (k + 1) := by rw [P10]; exact pushL_len k [22] x hk
    have M10 : x_4 (5 + 1 + 1 + j) = x (5 + 1 + 1 + j) := by rw [P10]; exact pushL_off k _ x _ (by omega) (by omega)
    refine lv_iload_n hx hb dX7_gives_13 rfl (lv_at hl 3 rfl) ?_
    refine lv_iconst (v := 1) hx hb dX7_gives_14 (by decide) ?_
    refine lv_iadd hx hb dX7_gives_15 ?_
    refine lv_istore (lv' := [(4, .int (nI d + 1)), (0, .int (22)), (1, .ref (B + (5 + 1 + 1 + j))), (2, .ref (B + (27))), (3, .int (nI d))]) hx hb dX7_gives_16 hl (by decide) rfl (fun ls hl => ?_)
    refine lv_iload_n hx hb dX7_gives_18 rfl (lv_at hl 1 rfl) ?_
    refine lv_tableIn (tgt := 179) (off := 160) hx hb dX7_gives_19 (by decide) (by decide) rfl (by decide) ?_
    refine lv_bipush (v := 21) hx hb dX7_gives_179 (by decide) ?_
    refine lv_aload_n hx hb dX7_gives_181 rfl (lv_at hl 2 rfl) ?_
    refine lv_aload_n hx hb dX7_gives_182 rfl (lv_at hl 3 rfl) ?_
    refine lv_iload hx hb dX7_gives_183 (lv_at hl 0 rfl) ?_
    refine W.eq (g2 := F0 mm 185 ls [.int (nI (d + 1)), .ref (B + (27)), .ref (B + (5 + 1 + 1 + j)), .int (21)]) (congrArg (fun z9 : Int32 => F0 mm 185 ls [.int (z9), .ref (B + (27)), .ref (B + (5 + 1 + 1 + j)), .int (21)]) (n_add rfl rfl)) ?_
    refine x_if (w := (wX G B tt)) (va_runS (As := [.int (21), .ref (B + (5 + 1 + 1 + j)), .ref (B + (27)), .int (nI (d + 1))]) (rest := []) ⟨hx, hb, hml, hown, hts⟩ (c_X7_gives_21 (l := l) (G := G) (B := B) (tt := tt) (hW := hW) (x := x_4) (j := j) (hj := hj) (d := d + 1) (k := k + 1) (hk := K10) (hk16 := (by omega)) (hd := (by omega))) (va_cwS 4 hts gX7_gives_X7_gives rfl rfl rfl (by decide +kernel) ⟨Nat.le_of_ble_eq_true rfl, Nat.le_of_ble_eq_true rfl⟩) (x_ps (w := (wX G B tt)) hW hX hK hE hS [.int (21), .ref (B + (5 + 1 + 1 + j)), .ref (B + (27)), .int (nI (d + 1))]) rfl rfl hl.1 rfl (lv_room (Nat.le_of_ble_eq_true rfl)) dX7_gives_185 ⟨Nat.zero_le _, Nat.zero_le _⟩) hS (fun r_7 x_8 H_5 lo_6 h_185 hX hS => ?_)
    try dsimp only at h_185
    have P185 : x_8 = pushL x k [22, 21, 20] := by rw [h_185.2, P10]; exact (pushL_app x k [22] [21, 20]).symm
    have V185 := h_185.1
    rw [M10] at V185
    have K185 : x_8 27 1 = nI (k + 3) := by rw [P185]; exact pushL_len k [22, 21, 20] x hk
    have M185 : x_8 (5 + 1 + 1 + j) = x (5 + 1 + 1 + j) := by rw [P185]; exact pushL_off k _ x _ (by omega) (by omega)
    refine lv_aload_n hx hb dX7_gives_188 rfl (lv_at hl 2 rfl) ?_
    refine x_get (w := (wX G B tt)) (a := 5 + 1 + 1 + j) (v := .int (x_8 (5 + 1 + 1 + j) 6)) hx hb hts iX7_gives_X0 hown hK hX (rg_ltm rg5 hj) (shX_mi (G := G) (B := B) rg5 hj) rfl 6 (by decide) (hts _ kX7_gives_189) (fun _ h9 => h9) rfl dX7_gives_189 ?_
    refine lv_isub hx hb dX7_gives_192 ?_
    rw [← hQ]
    refine x_iret (v := r_7 - (x_8 (5 + 1 + 1 + j) 6)) hx hb hr hX hS hlocks dX7_gives_193 ?_
    exact ⟨by first | (rw [V185]; done) | rw [V185, M185], P185⟩
  · have nc_1 := Nat.not_le.mp (fun q => c_1 ((n_le (a := d) (b := 16) rfl rfl (by omega) (by omega)).mpr q))
    exact absurd nc_1 (by omega)

abbrev rmX7_gives_24 : Room := { frames := 5, cells := 0, slots := 0, locals := 150 }
set_option maxHeartbeats 4000000 in
set_option maxRecDepth 100000 in
theorem c_X7_gives_24 (l : Launch) (G : GG) (B : Nat) (tt : Nat → Nat) (hW : WOK (wX G B tt)) (x : Mem) {j : Nat} (hj : j < 8) {d : Nat} {k : Nat} (hk : x 27 1 = nI k) (hk16 : k + 4 ≤ 16) (hd : d + 4 ≤ 16) : Met l yX7_gives wsX7_gives rmX7_gives_24 (XP G (wX G B tt) [.int (24), .ref (B + (5 + 1 + 1 + j)), .ref (B + (27)), .int (nI d)] x) (va_Qi (fun r u => r = 2 * (x (5 + 1 + 1 + j) 0 + 10 * x (5 + 1 + 1 + j) 4 - x (5 + 1 + 1 + j) 6) ∧ u = pushL x k [24, 22, 21, 20]) (XB G (wX G B tt)) (blkA B (B + 117))) 0 0 (blkA B (B + 117)) := by
  refine Met.ofW (cc := cX7_gives) (maxL := 5) (ret := (some .int)) (by decide) rfl ?_
  intro pp ee ss mm aa bb mt cd s1 Bd hml hv
  obtain ⟨hae, hX, hK, hE⟩ := hv
  have hx := Bd.exec
  have hb := Bd.bytes
  have hr := Bd.returns
  have hts := atoms_spec (ws := wsX7_gives) Bd.pre
  have hown : ss.vm.findClass RX7 = some mm.cls := findClass_of_methodNamed Bd.named
  have hlocks := Bd.notSynchronized
  have hS : va_S (blkA B (B + 117)) ss.heap ss.heap [] := va_S.rf
  have hl := lv_entry ([.int (24), .ref (B + (5 + 1 + 1 + j)), .ref (B + (27)), .int (nI d)]) (n := 5) (Nat.le_of_ble_eq_true rfl)
  subst hae
  rw [lg_entry_eq]
  generalize (lg_sl ([.int (24), .ref (B + (5 + 1 + 1 + j)), .ref (B + (27)), .int (nI d)]) ++ List.replicate (5 - (lg_sl ([.int (24), .ref (B + (5 + 1 + 1 + j)), .ref (B + (27)), .int (nI d)])).length) Slot.unset).toArray = ls at hl ⊢
  have hl : lv_has ls 5 [(0, .int (24)), (1, .ref (B + (5 + 1 + 1 + j))), (2, .ref (B + (27))), (3, .int (nI d))] := hl
  generalize ([.int (24), .ref (B + (5 + 1 + 1 + j)), .ref (B + (27)), .int (nI d)] : List Value).toArray = aa at hts ⊢
  show W pp l ee rmX7_gives_24 ss mm aa bb mt cd ss.heap [] 0 0 _ (F0 mm 0 ls [])
  generalize hQ : MQ bb (va_Qi (fun r u => r = 2 * (x (5 + 1 + 1 + j) 0 + 10 * x (5 + 1 + 1 + j) 4 - x (5 + 1 + 1 + j) 6) ∧ u = pushL x k [24, 22, 21, 20]) (XB G (wX G B tt)) (blkA B (B + 117))) aa ss 0 0 (blkA B (B + 117)) = Q
  refine lv_iload_n hx hb dX7_gives_0 rfl (lv_at hl 3 rfl) ?_
  refine lv_bipush (v := 16) hx hb dX7_gives_1 (by decide) ?_
  refine lv_icmp_le (tgt := 8) hx hb dX7_gives_3 (by decide) (fun c_1 => ?_) (fun c_1 => ?_)
  · have nc_1 := (n_le (a := d) (b := 16) rfl rfl (by omega) (by omega)).mp c_1
    refine lv_aload_n hx hb dX7_gives_8 rfl (lv_at hl 2 rfl) ?_
    refine lv_iload_n hx hb dX7_gives_9 rfl (lv_at hl 0 rfl) ?_
    refine x_vf (w := (wX G B tt)) (va_runV (As := [.int (24)]) (rest := []) ⟨hx, hb, hml, hown, hts⟩ (c_X6_leave (l := l) (G := G) (B := B) (tt := tt) (hW := hW) (x := x) (b := 24) (k := k) (hk := hk) (hk16 := (by omega))) (cwV 1 hts gX7_gives_X6_leave rfl rfl rfl (by decide +kernel) ⟨Nat.le_of_ble_eq_true rfl, Nat.le_of_ble_eq_true rfl⟩) (x_pv (w := (wX G B tt)) (a := 27) hW hX hK hE hS [.int (24)] (Nat.le_of_ble_eq_true rfl) (shX_tr (G := G) (B := B)) rfl) rfl rfl hl.1 rfl (lv_room (Nat.le_of_ble_eq_true rfl)) dX7_gives_10 ⟨Nat.zero_le _, Nat.zero_le _⟩) hS (fun x_4 H_2 lo_3 h_10 hX hS => ?_)
    try dsimp only at h_10
    have P10 : x_4 = pushL x k [24] := by rw [h_10, if_pos (by omega)]; rfl
    have K10 : x_4 27 1 = nI (k + 1) := by rw [P10]; exact pushL_len k [24] x hk
    have M10 : x_4 (5 + 1 + 1 + j) = x (5 + 1 + 1 + j) := by rw [P10]; exact pushL_off k _ x _ (by omega) (by omega)
    refine lv_iload_n hx hb dX7_gives_13 rfl (lv_at hl 3 rfl) ?_
    refine lv_iconst (v := 1) hx hb dX7_gives_14 (by decide) ?_
    refine lv_iadd hx hb dX7_gives_15 ?_
    refine lv_istore (lv' := [(4, .int (nI d + 1)), (0, .int (24)), (1, .ref (B + (5 + 1 + 1 + j))), (2, .ref (B + (27))), (3, .int (nI d))]) hx hb dX7_gives_16 hl (by decide) rfl (fun ls hl => ?_)
    refine lv_iload_n hx hb dX7_gives_18 rfl (lv_at hl 1 rfl) ?_
    refine lv_tableIn (tgt := 216) (off := 197) hx hb dX7_gives_19 (by decide) (by decide) rfl (by decide) ?_
    refine lv_iconst (v := 2) hx hb dX7_gives_216 (by decide) ?_
    refine lv_bipush (v := 22) hx hb dX7_gives_217 (by decide) ?_
    refine lv_aload_n hx hb dX7_gives_219 rfl (lv_at hl 2 rfl) ?_
    refine lv_aload_n hx hb dX7_gives_220 rfl (lv_at hl 3 rfl) ?_
    refine lv_iload hx hb dX7_gives_221 (lv_at hl 0 rfl) ?_
    refine W.eq (g2 := F0 mm 223 ls [.int (nI (d + 1)), .ref (B + (27)), .ref (B + (5 + 1 + 1 + j)), .int (22), .int (2)]) (congrArg (fun z9 : Int32 => F0 mm 223 ls [.int (z9), .ref (B + (27)), .ref (B + (5 + 1 + 1 + j)), .int (22), .int (2)]) (n_add rfl rfl)) ?_
    refine x_if (w := (wX G B tt)) (va_runS (As := [.int (22), .ref (B + (5 + 1 + 1 + j)), .ref (B + (27)), .int (nI (d + 1))]) (rest := [.int (2)]) ⟨hx, hb, hml, hown, hts⟩ (c_X7_gives_22 (l := l) (G := G) (B := B) (tt := tt) (hW := hW) (x := x_4) (j := j) (hj := hj) (d := d + 1) (k := k + 1) (hk := K10) (hk16 := (by omega)) (hd := (by omega))) (va_cwS 4 hts gX7_gives_X7_gives rfl rfl rfl (by decide +kernel) ⟨Nat.le_of_ble_eq_true rfl, Nat.le_of_ble_eq_true rfl⟩) (x_ps (w := (wX G B tt)) hW hX hK hE hS [.int (22), .ref (B + (5 + 1 + 1 + j)), .ref (B + (27)), .int (nI (d + 1))]) rfl rfl hl.1 rfl (lv_room (Nat.le_of_ble_eq_true rfl)) dX7_gives_223 ⟨Nat.zero_le _, Nat.zero_le _⟩) hS (fun r_7 x_8 H_5 lo_6 h_223 hX hS => ?_)
    try dsimp only at h_223
    have P223 : x_8 = pushL x k [24, 22, 21, 20] := by rw [h_223.2, P10]; exact (pushL_app x k [24] [22, 21, 20]).symm
    have V223 := h_223.1
    rw [M10] at V223
    have K223 : x_8 27 1 = nI (k + 4) := by rw [P223]; exact pushL_len k [24, 22, 21, 20] x hk
    have M223 : x_8 (5 + 1 + 1 + j) = x (5 + 1 + 1 + j) := by rw [P223]; exact pushL_off k _ x _ (by omega) (by omega)
    refine lv_imul hx hb dX7_gives_226 ?_
    rw [← hQ]
    refine x_iret (v := 2 * r_7) hx hb hr hX hS hlocks dX7_gives_227 ?_
    exact ⟨by first | (rw [V223]; done) | rw [V223, M223], P223⟩
  · have nc_1 := Nat.not_le.mp (fun q => c_1 ((n_le (a := d) (b := 16) rfl rfl (by omega) (by omega)).mpr q))
    exact absurd nc_1 (by omega)

abbrev rmX7_gives_13 : Room := { frames := 3, cells := 0, slots := 0, locals := 90 }
set_option maxHeartbeats 4000000 in
set_option maxRecDepth 100000 in
theorem c_X7_gives_13 (l : Launch) (G : GG) (B : Nat) (tt : Nat → Nat) (hW : WOK (wX G B tt)) (x : Mem) {j : Nat} (hj : j < 8) {d : Nat} {k : Nat} (hk : x 27 1 = nI k) (hk16 : k + 2 ≤ 16) (hd : d + 2 ≤ 16) : Met l yX7_gives wsX7_gives rmX7_gives_13 (XP G (wX G B tt) [.int (13), .ref (B + (5 + 1 + 1 + j)), .ref (B + (27)), .int (nI d)] x) (va_Qi (fun r u => r = x (5 + 1 + 1 + j) 8 - 100 ∧ u = pushL x k [13, 10]) (XB G (wX G B tt)) (blkA B (B + 117))) 0 0 (blkA B (B + 117)) := by
  refine Met.ofW (cc := cX7_gives) (maxL := 5) (ret := (some .int)) (by decide) rfl ?_
  intro pp ee ss mm aa bb mt cd s1 Bd hml hv
  obtain ⟨hae, hX, hK, hE⟩ := hv
  have hx := Bd.exec
  have hb := Bd.bytes
  have hr := Bd.returns
  have hts := atoms_spec (ws := wsX7_gives) Bd.pre
  have hown : ss.vm.findClass RX7 = some mm.cls := findClass_of_methodNamed Bd.named
  have hlocks := Bd.notSynchronized
  have hS : va_S (blkA B (B + 117)) ss.heap ss.heap [] := va_S.rf
  have hl := lv_entry ([.int (13), .ref (B + (5 + 1 + 1 + j)), .ref (B + (27)), .int (nI d)]) (n := 5) (Nat.le_of_ble_eq_true rfl)
  subst hae
  rw [lg_entry_eq]
  generalize (lg_sl ([.int (13), .ref (B + (5 + 1 + 1 + j)), .ref (B + (27)), .int (nI d)]) ++ List.replicate (5 - (lg_sl ([.int (13), .ref (B + (5 + 1 + 1 + j)), .ref (B + (27)), .int (nI d)])).length) Slot.unset).toArray = ls at hl ⊢
  have hl : lv_has ls 5 [(0, .int (13)), (1, .ref (B + (5 + 1 + 1 + j))), (2, .ref (B + (27))), (3, .int (nI d))] := hl
  generalize ([.int (13), .ref (B + (5 + 1 + 1 + j)), .ref (B + (27)), .int (nI d)] : List Value).toArray = aa at hts ⊢
  show W pp l ee rmX7_gives_13 ss mm aa bb mt cd ss.heap [] 0 0 _ (F0 mm 0 ls [])
  generalize hQ : MQ bb (va_Qi (fun r u => r = x (5 + 1 + 1 + j) 8 - 100 ∧ u = pushL x k [13, 10]) (XB G (wX G B tt)) (blkA B (B + 117))) aa ss 0 0 (blkA B (B + 117)) = Q
  refine lv_iload_n hx hb dX7_gives_0 rfl (lv_at hl 3 rfl) ?_
  refine lv_bipush (v := 16) hx hb dX7_gives_1 (by decide) ?_
  refine lv_icmp_le (tgt := 8) hx hb dX7_gives_3 (by decide) (fun c_1 => ?_) (fun c_1 => ?_)
  · have nc_1 := (n_le (a := d) (b := 16) rfl rfl (by omega) (by omega)).mp c_1
    refine lv_aload_n hx hb dX7_gives_8 rfl (lv_at hl 2 rfl) ?_
    refine lv_iload_n hx hb dX7_gives_9 rfl (lv_at hl 0 rfl) ?_
    refine x_vf (w := (wX G B tt)) (va_runV (As := [.int (13)]) (rest := []) ⟨hx, hb, hml, hown, hts⟩ (c_X6_leave (l := l) (G := G) (B := B) (tt := tt) (hW := hW) (x := x) (b := 13) (k := k) (hk := hk) (hk16 := (by omega))) (cwV 1 hts gX7_gives_X6_leave rfl rfl rfl (by decide +kernel) ⟨Nat.le_of_ble_eq_true rfl, Nat.le_of_ble_eq_true rfl⟩) (x_pv (w := (wX G B tt)) (a := 27) hW hX hK hE hS [.int (13)] (Nat.le_of_ble_eq_true rfl) (shX_tr (G := G) (B := B)) rfl) rfl rfl hl.1 rfl (lv_room (Nat.le_of_ble_eq_true rfl)) dX7_gives_10 ⟨Nat.zero_le _, Nat.zero_le _⟩) hS (fun x_4 H_2 lo_3 h_10 hX hS => ?_)
    try dsimp only at h_10
    have P10 : x_4 = pushL x k [13] := by rw [h_10, if_pos (by omega)]; rfl
    have K10 : x_4 27 1 = nI (k + 1) := by rw [P10]; exact pushL_len k [13] x hk
    have M10 : x_4 (5 + 1 + 1 + j) = x (5 + 1 + 1 + j) := by rw [P10]; exact pushL_off k _ x _ (by omega) (by omega)
    refine lv_iload_n hx hb dX7_gives_13 rfl (lv_at hl 3 rfl) ?_
    refine lv_iconst (v := 1) hx hb dX7_gives_14 (by decide) ?_
    refine lv_iadd hx hb dX7_gives_15 ?_
    refine lv_istore (lv' := [(4, .int (nI d + 1)), (0, .int (13)), (1, .ref (B + (5 + 1 + 1 + j))), (2, .ref (B + (27))), (3, .int (nI d))]) hx hb dX7_gives_16 hl (by decide) rfl (fun ls hl => ?_)
    refine lv_iload_n hx hb dX7_gives_18 rfl (lv_at hl 1 rfl) ?_
    refine lv_tableIn (tgt := 131) (off := 112) hx hb dX7_gives_19 (by decide) (by decide) rfl (by decide) ?_
    refine lv_bipush (v := 10) hx hb dX7_gives_131 (by decide) ?_
    refine lv_aload_n hx hb dX7_gives_133 rfl (lv_at hl 2 rfl) ?_
    refine lv_aload_n hx hb dX7_gives_134 rfl (lv_at hl 3 rfl) ?_
    refine lv_iload hx hb dX7_gives_135 (lv_at hl 0 rfl) ?_
    refine W.eq (g2 := F0 mm 137 ls [.int (nI (d + 1)), .ref (B + (27)), .ref (B + (5 + 1 + 1 + j)), .int (10)]) (congrArg (fun z9 : Int32 => F0 mm 137 ls [.int (z9), .ref (B + (27)), .ref (B + (5 + 1 + 1 + j)), .int (10)]) (n_add rfl rfl)) ?_
    refine x_if (w := (wX G B tt)) (va_runS (As := [.int (10), .ref (B + (5 + 1 + 1 + j)), .ref (B + (27)), .int (nI (d + 1))]) (rest := []) ⟨hx, hb, hml, hown, hts⟩ (c_X7_gives_10 (l := l) (G := G) (B := B) (tt := tt) (hW := hW) (x := x_4) (j := j) (hj := hj) (d := d + 1) (k := k + 1) (hk := K10) (hk16 := (by omega)) (hd := (by omega))) (va_cwS 4 hts gX7_gives_X7_gives rfl rfl rfl (by decide +kernel) ⟨Nat.le_of_ble_eq_true rfl, Nat.le_of_ble_eq_true rfl⟩) (x_ps (w := (wX G B tt)) hW hX hK hE hS [.int (10), .ref (B + (5 + 1 + 1 + j)), .ref (B + (27)), .int (nI (d + 1))]) rfl rfl hl.1 rfl (lv_room (Nat.le_of_ble_eq_true rfl)) dX7_gives_137 ⟨Nat.zero_le _, Nat.zero_le _⟩) hS (fun r_7 x_8 H_5 lo_6 h_137 hX hS => ?_)
    try dsimp only at h_137
    have P137 : x_8 = pushL x k [13, 10] := by rw [h_137.2, P10]; exact (pushL_app x k [13] [10]).symm
    have V137 := h_137.1
    rw [M10] at V137
    have K137 : x_8 27 1 = nI (k + 2) := by rw [P137]; exact pushL_len k [13, 10] x hk
    have M137 : x_8 (5 + 1 + 1 + j) = x (5 + 1 + 1 + j) := by rw [P137]; exact pushL_off k _ x _ (by omega) (by omega)
    refine lv_bipush (v := 100) hx hb dX7_gives_140 (by decide) ?_
    refine lv_isub hx hb dX7_gives_142 ?_
    rw [← hQ]
    refine x_iret (v := r_7 - 100) hx hb hr hX hS hlocks dX7_gives_143 ?_
    exact ⟨by first | (rw [V137]; done) | rw [V137, M137], P137⟩
  · have nc_1 := Nat.not_le.mp (fun q => c_1 ((n_le (a := d) (b := 16) rfl rfl (by omega) (by omega)).mpr q))
    exact absurd nc_1 (by omega)

abbrev rmX7_gives_23 : Room := { frames := 4, cells := 0, slots := 0, locals := 120 }
set_option maxHeartbeats 4000000 in
set_option maxRecDepth 100000 in
theorem c_X7_gives_23 (l : Launch) (G : GG) (B : Nat) (tt : Nat → Nat) (hW : WOK (wX G B tt)) (x : Mem) {j : Nat} (hj : j < 8) {d : Nat} {k : Nat} {kk : Nat} (hk : x 27 1 = nI k) (hk16 : k + 4 ≤ 16) (hd : d + 3 ≤ 16) (hkd : x (5 + 1 + 1 + j) 1 = nI kk) (hk6 : kk < 6) (hmk : sizeK kk = 13) : Met l yX7_gives wsX7_gives rmX7_gives_23 (XP G (wX G B tt) [.int (23), .ref (B + (5 + 1 + 1 + j)), .ref (B + (27)), .int (nI d)] x) (va_Qi (fun r u => r = x (5 + 1 + 1 + j) 0 + (x (5 + 1 + 1 + j) 8 - 100) ∧ u = pushL x k [23, 20, 13, 10]) (XB G (wX G B tt)) (blkA B (B + 117))) 0 0 (blkA B (B + 117)) := by
  refine Met.ofW (cc := cX7_gives) (maxL := 5) (ret := (some .int)) (by decide) rfl ?_
  intro pp ee ss mm aa bb mt cd s1 Bd hml hv
  obtain ⟨hae, hX, hK, hE⟩ := hv
  have hx := Bd.exec
  have hb := Bd.bytes
  have hr := Bd.returns
  have hts := atoms_spec (ws := wsX7_gives) Bd.pre
  have hown : ss.vm.findClass RX7 = some mm.cls := findClass_of_methodNamed Bd.named
  have hlocks := Bd.notSynchronized
  have hS : va_S (blkA B (B + 117)) ss.heap ss.heap [] := va_S.rf
  have hl := lv_entry ([.int (23), .ref (B + (5 + 1 + 1 + j)), .ref (B + (27)), .int (nI d)]) (n := 5) (Nat.le_of_ble_eq_true rfl)
  subst hae
  rw [lg_entry_eq]
  generalize (lg_sl ([.int (23), .ref (B + (5 + 1 + 1 + j)), .ref (B + (27)), .int (nI d)]) ++ List.replicate (5 - (lg_sl ([.int (23), .ref (B + (5 + 1 + 1 + j)), .ref (B + (27)), .int (nI d)])).length) Slot.unset).toArray = ls at hl ⊢
  have hl : lv_has ls 5 [(0, .int (23)), (1, .ref (B + (5 + 1 + 1 + j))), (2, .ref (B + (27))), (3, .int (nI d))] := hl
  generalize ([.int (23), .ref (B + (5 + 1 + 1 + j)), .ref (B + (27)), .int (nI d)] : List Value).toArray = aa at hts ⊢
  show W pp l ee rmX7_gives_23 ss mm aa bb mt cd ss.heap [] 0 0 _ (F0 mm 0 ls [])
  generalize hQ : MQ bb (va_Qi (fun r u => r = x (5 + 1 + 1 + j) 0 + (x (5 + 1 + 1 + j) 8 - 100) ∧ u = pushL x k [23, 20, 13, 10]) (XB G (wX G B tt)) (blkA B (B + 117))) aa ss 0 0 (blkA B (B + 117)) = Q
  refine lv_iload_n hx hb dX7_gives_0 rfl (lv_at hl 3 rfl) ?_
  refine lv_bipush (v := 16) hx hb dX7_gives_1 (by decide) ?_
  refine lv_icmp_le (tgt := 8) hx hb dX7_gives_3 (by decide) (fun c_1 => ?_) (fun c_1 => ?_)
  · have nc_1 := (n_le (a := d) (b := 16) rfl rfl (by omega) (by omega)).mp c_1
    refine lv_aload_n hx hb dX7_gives_8 rfl (lv_at hl 2 rfl) ?_
    refine lv_iload_n hx hb dX7_gives_9 rfl (lv_at hl 0 rfl) ?_
    refine x_vf (w := (wX G B tt)) (va_runV (As := [.int (23)]) (rest := []) ⟨hx, hb, hml, hown, hts⟩ (c_X6_leave (l := l) (G := G) (B := B) (tt := tt) (hW := hW) (x := x) (b := 23) (k := k) (hk := hk) (hk16 := (by omega))) (cwV 1 hts gX7_gives_X6_leave rfl rfl rfl (by decide +kernel) ⟨Nat.le_of_ble_eq_true rfl, Nat.le_of_ble_eq_true rfl⟩) (x_pv (w := (wX G B tt)) (a := 27) hW hX hK hE hS [.int (23)] (Nat.le_of_ble_eq_true rfl) (shX_tr (G := G) (B := B)) rfl) rfl rfl hl.1 rfl (lv_room (Nat.le_of_ble_eq_true rfl)) dX7_gives_10 ⟨Nat.zero_le _, Nat.zero_le _⟩) hS (fun x_4 H_2 lo_3 h_10 hX hS => ?_)
    try dsimp only at h_10
    have P10 : x_4 = pushL x k [23] := by rw [h_10, if_pos (by omega)]; rfl
    have K10 : x_4 27 1 = nI (k + 1) := by rw [P10]; exact pushL_len k [23] x hk
    have M10 : x_4 (5 + 1 + 1 + j) = x (5 + 1 + 1 + j) := by rw [P10]; exact pushL_off k _ x _ (by omega) (by omega)
    refine lv_iload_n hx hb dX7_gives_13 rfl (lv_at hl 3 rfl) ?_
    refine lv_iconst (v := 1) hx hb dX7_gives_14 (by decide) ?_
    refine lv_iadd hx hb dX7_gives_15 ?_
    refine lv_istore (lv' := [(4, .int (nI d + 1)), (0, .int (23)), (1, .ref (B + (5 + 1 + 1 + j))), (2, .ref (B + (27))), (3, .int (nI d))]) hx hb dX7_gives_16 hl (by decide) rfl (fun ls hl => ?_)
    refine lv_iload_n hx hb dX7_gives_18 rfl (lv_at hl 1 rfl) ?_
    refine lv_tableIn (tgt := 194) (off := 175) hx hb dX7_gives_19 (by decide) (by decide) rfl (by decide) ?_
    refine lv_bipush (v := 20) hx hb dX7_gives_194 (by decide) ?_
    refine lv_aload_n hx hb dX7_gives_196 rfl (lv_at hl 2 rfl) ?_
    refine lv_aload_n hx hb dX7_gives_197 rfl (lv_at hl 3 rfl) ?_
    refine lv_iload hx hb dX7_gives_198 (lv_at hl 0 rfl) ?_
    refine W.eq (g2 := F0 mm 200 ls [.int (nI (d + 1)), .ref (B + (27)), .ref (B + (5 + 1 + 1 + j)), .int (20)]) (congrArg (fun z9 : Int32 => F0 mm 200 ls [.int (z9), .ref (B + (27)), .ref (B + (5 + 1 + 1 + j)), .int (20)]) (n_add rfl rfl)) ?_
    refine x_if (w := (wX G B tt)) (va_runS (As := [.int (20), .ref (B + (5 + 1 + 1 + j)), .ref (B + (27)), .int (nI (d + 1))]) (rest := []) ⟨hx, hb, hml, hown, hts⟩ (c_X7_gives_20 (l := l) (G := G) (B := B) (tt := tt) (hW := hW) (x := x_4) (j := j) (hj := hj) (d := d + 1) (k := k + 1) (hk := K10) (hk16 := (by omega)) (hd := (by omega))) (va_cwS 4 hts gX7_gives_X7_gives rfl rfl rfl (by decide +kernel) ⟨Nat.le_of_ble_eq_true rfl, Nat.le_of_ble_eq_true rfl⟩) (x_ps (w := (wX G B tt)) hW hX hK hE hS [.int (20), .ref (B + (5 + 1 + 1 + j)), .ref (B + (27)), .int (nI (d + 1))]) rfl rfl hl.1 rfl (lv_room (Nat.le_of_ble_eq_true rfl)) dX7_gives_200 ⟨Nat.zero_le _, Nat.zero_le _⟩) hS (fun r_7 x_8 H_5 lo_6 h_200 hX hS => ?_)
    try dsimp only at h_200
    have P200 : x_8 = pushL x k [23, 20] := by rw [h_200.2, P10]; exact (pushL_app x k [23] [20]).symm
    have V200 := h_200.1
    rw [M10] at V200
    have K200 : x_8 27 1 = nI (k + 2) := by rw [P200]; exact pushL_len k [23, 20] x hk
    have M200 : x_8 (5 + 1 + 1 + j) = x (5 + 1 + 1 + j) := by rw [P200]; exact pushL_off k _ x _ (by omega) (by omega)
    refine lv_aload_n hx hb dX7_gives_203 rfl (lv_at hl 2 rfl) ?_
    refine x_ip (w := (wX G B tt)) (x := x_8) (v := sizeK kk) (va_runS (As := [.ref (B + (5 + 1 + 1 + j))]) (rest := [.int (r_7)]) ⟨hx, hb, hml, hown, hts⟩ (c_X7_sizeBody (l := l) (G := G) (B := B) (tt := tt) (hW := hW) (x := x_8) (ρ := 5) (hρ := rg5) (j := j) (hj := hj) (k := kk) (hk := (by rw [M200]; exact hkd)) (hk6 := hk6)) (va_cwS 1 hts gX7_gives_X7_sizeBody rfl rfl rfl (by decide +kernel) ⟨Nat.le_of_ble_eq_true rfl, Nat.le_of_ble_eq_true rfl⟩) (x_ps (w := (wX G B tt)) hW hX hK hE hS [.ref (B + (5 + 1 + 1 + j))]) rfl rfl hl.1 rfl (lv_room (Nat.le_of_ble_eq_true rfl)) dX7_gives_204 ⟨Nat.zero_le _, Nat.zero_le _⟩) hS (fun H_9 lo_10 hX hS => ?_)
    refine W.eq (g2 := F0 mm 207 ls [.int (13), .int (r_7)]) (congrArg (fun z9 : Int32 => F0 mm 207 ls [.int (z9), .int (r_7)]) hmk) ?_
    refine lv_aload_n hx hb dX7_gives_207 rfl (lv_at hl 2 rfl) ?_
    refine lv_aload_n hx hb dX7_gives_208 rfl (lv_at hl 3 rfl) ?_
    refine lv_iload hx hb dX7_gives_209 (lv_at hl 0 rfl) ?_
    refine W.eq (g2 := F0 mm 211 ls [.int (nI (d + 1)), .ref (B + (27)), .ref (B + (5 + 1 + 1 + j)), .int (13), .int (r_7)]) (congrArg (fun z9 : Int32 => F0 mm 211 ls [.int (z9), .ref (B + (27)), .ref (B + (5 + 1 + 1 + j)), .int (13), .int (r_7)]) (n_add rfl rfl)) ?_
    refine x_if (w := (wX G B tt)) (va_runS (As := [.int (13), .ref (B + (5 + 1 + 1 + j)), .ref (B + (27)), .int (nI (d + 1))]) (rest := [.int (r_7)]) ⟨hx, hb, hml, hown, hts⟩ (c_X7_gives_13 (l := l) (G := G) (B := B) (tt := tt) (hW := hW) (x := x_8) (j := j) (hj := hj) (d := d + 1) (k := k + 2) (hk := K200) (hk16 := (by omega)) (hd := (by omega))) (va_cwS 4 hts gX7_gives_X7_gives rfl rfl rfl (by decide +kernel) ⟨Nat.le_of_ble_eq_true rfl, Nat.le_of_ble_eq_true rfl⟩) (x_ps (w := (wX G B tt)) hW hX hK hE hS [.int (13), .ref (B + (5 + 1 + 1 + j)), .ref (B + (27)), .int (nI (d + 1))]) rfl rfl hl.1 rfl (lv_room (Nat.le_of_ble_eq_true rfl)) dX7_gives_211 ⟨Nat.zero_le _, Nat.zero_le _⟩) hS (fun r_13 x_14 H_11 lo_12 h_211 hX hS => ?_)
    try dsimp only at h_211
    have P211 : x_14 = pushL x k [23, 20, 13, 10] := by rw [h_211.2, P200]; exact (pushL_app x k [23, 20] [13, 10]).symm
    have V211 := h_211.1
    rw [M200] at V211
    have K211 : x_14 27 1 = nI (k + 4) := by rw [P211]; exact pushL_len k [23, 20, 13, 10] x hk
    have M211 : x_14 (5 + 1 + 1 + j) = x (5 + 1 + 1 + j) := by rw [P211]; exact pushL_off k _ x _ (by omega) (by omega)
    refine lv_iadd hx hb dX7_gives_214 ?_
    rw [← hQ]
    refine x_iret (v := r_7 + r_13) hx hb hr hX hS hlocks dX7_gives_215 ?_
    exact ⟨by first | (rw [V200, V211]; done) | rw [V200, V211, M211], P211⟩
  · have nc_1 := Nat.not_le.mp (fun q => c_1 ((n_le (a := d) (b := 16) rfl rfl (by omega) (by omega)).mpr q))
    exact absurd nc_1 (by omega)

abbrev rmX7_gives_11m21 : Room := { frames := 4, cells := 0, slots := 0, locals := 120 }
set_option maxHeartbeats 4000000 in
set_option maxRecDepth 100000 in
theorem c_X7_gives_11m21 (l : Launch) (G : GG) (B : Nat) (tt : Nat → Nat) (hW : WOK (wX G B tt)) (x : Mem) {j : Nat} (hj : j < 8) {d : Nat} {k : Nat} {kk : Nat} (hk : x 27 1 = nI k) (hk16 : k + 4 ≤ 16) (hd : d + 3 ≤ 16) (hkd : x (5 + 1 + 1 + j) 1 = nI kk) (hk6 : kk < 6) (hmk : markK kk = 21) : Met l yX7_gives wsX7_gives rmX7_gives_11m21 (XP G (wX G B tt) [.int (11), .ref (B + (5 + 1 + 1 + j)), .ref (B + (27)), .int (nI d)] x) (va_Qi (fun r u => r = x (5 + 1 + 1 + j) 8 + (x (5 + 1 + 1 + j) 0 + 10 * x (5 + 1 + 1 + j) 4) ∧ u = pushL x k [11, 10, 21, 20]) (XB G (wX G B tt)) (blkA B (B + 117))) 0 0 (blkA B (B + 117)) := by
  refine Met.ofW (cc := cX7_gives) (maxL := 5) (ret := (some .int)) (by decide) rfl ?_
  intro pp ee ss mm aa bb mt cd s1 Bd hml hv
  obtain ⟨hae, hX, hK, hE⟩ := hv
  have hx := Bd.exec
  have hb := Bd.bytes
  have hr := Bd.returns
  have hts := atoms_spec (ws := wsX7_gives) Bd.pre
  have hown : ss.vm.findClass RX7 = some mm.cls := findClass_of_methodNamed Bd.named
  have hlocks := Bd.notSynchronized
  have hS : va_S (blkA B (B + 117)) ss.heap ss.heap [] := va_S.rf
  have hl := lv_entry ([.int (11), .ref (B + (5 + 1 + 1 + j)), .ref (B + (27)), .int (nI d)]) (n := 5) (Nat.le_of_ble_eq_true rfl)
  subst hae
  rw [lg_entry_eq]
  generalize (lg_sl ([.int (11), .ref (B + (5 + 1 + 1 + j)), .ref (B + (27)), .int (nI d)]) ++ List.replicate (5 - (lg_sl ([.int (11), .ref (B + (5 + 1 + 1 + j)), .ref (B + (27)), .int (nI d)])).length) Slot.unset).toArray = ls at hl ⊢
  have hl : lv_has ls 5 [(0, .int (11)), (1, .ref (B + (5 + 1 + 1 + j))), (2, .ref (B + (27))), (3, .int (nI d))] := hl
  generalize ([.int (11), .ref (B + (5 + 1 + 1 + j)), .ref (B + (27)), .int (nI d)] : List Value).toArray = aa at hts ⊢
  show W pp l ee rmX7_gives_11m21 ss mm aa bb mt cd ss.heap [] 0 0 _ (F0 mm 0 ls [])
  generalize hQ : MQ bb (va_Qi (fun r u => r = x (5 + 1 + 1 + j) 8 + (x (5 + 1 + 1 + j) 0 + 10 * x (5 + 1 + 1 + j) 4) ∧ u = pushL x k [11, 10, 21, 20]) (XB G (wX G B tt)) (blkA B (B + 117))) aa ss 0 0 (blkA B (B + 117)) = Q
  refine lv_iload_n hx hb dX7_gives_0 rfl (lv_at hl 3 rfl) ?_
  refine lv_bipush (v := 16) hx hb dX7_gives_1 (by decide) ?_
  refine lv_icmp_le (tgt := 8) hx hb dX7_gives_3 (by decide) (fun c_1 => ?_) (fun c_1 => ?_)
  · have nc_1 := (n_le (a := d) (b := 16) rfl rfl (by omega) (by omega)).mp c_1
    refine lv_aload_n hx hb dX7_gives_8 rfl (lv_at hl 2 rfl) ?_
    refine lv_iload_n hx hb dX7_gives_9 rfl (lv_at hl 0 rfl) ?_
    refine x_vf (w := (wX G B tt)) (va_runV (As := [.int (11)]) (rest := []) ⟨hx, hb, hml, hown, hts⟩ (c_X6_leave (l := l) (G := G) (B := B) (tt := tt) (hW := hW) (x := x) (b := 11) (k := k) (hk := hk) (hk16 := (by omega))) (cwV 1 hts gX7_gives_X6_leave rfl rfl rfl (by decide +kernel) ⟨Nat.le_of_ble_eq_true rfl, Nat.le_of_ble_eq_true rfl⟩) (x_pv (w := (wX G B tt)) (a := 27) hW hX hK hE hS [.int (11)] (Nat.le_of_ble_eq_true rfl) (shX_tr (G := G) (B := B)) rfl) rfl rfl hl.1 rfl (lv_room (Nat.le_of_ble_eq_true rfl)) dX7_gives_10 ⟨Nat.zero_le _, Nat.zero_le _⟩) hS (fun x_4 H_2 lo_3 h_10 hX hS => ?_)
    try dsimp only at h_10
    have P10 : x_4 = pushL x k [11] := by rw [h_10, if_pos (by omega)]; rfl
    have K10 : x_4 27 1 = nI (k + 1) := by rw [P10]; exact pushL_len k [11] x hk
    have M10 : x_4 (5 + 1 + 1 + j) = x (5 + 1 + 1 + j) := by rw [P10]; exact pushL_off k _ x _ (by omega) (by omega)
    refine lv_iload_n hx hb dX7_gives_13 rfl (lv_at hl 3 rfl) ?_
    refine lv_iconst (v := 1) hx hb dX7_gives_14 (by decide) ?_
    refine lv_iadd hx hb dX7_gives_15 ?_
    refine lv_istore (lv' := [(4, .int (nI d + 1)), (0, .int (11)), (1, .ref (B + (5 + 1 + 1 + j))), (2, .ref (B + (27))), (3, .int (nI d))]) hx hb dX7_gives_16 hl (by decide) rfl (fun ls hl => ?_)
    refine lv_iload_n hx hb dX7_gives_18 rfl (lv_at hl 1 rfl) ?_
    refine lv_tableIn (tgt := 97) (off := 78) hx hb dX7_gives_19 (by decide) (by decide) rfl (by decide) ?_
    refine lv_bipush (v := 10) hx hb dX7_gives_97 (by decide) ?_
    refine lv_aload_n hx hb dX7_gives_99 rfl (lv_at hl 2 rfl) ?_
    refine lv_aload_n hx hb dX7_gives_100 rfl (lv_at hl 3 rfl) ?_
    refine lv_iload hx hb dX7_gives_101 (lv_at hl 0 rfl) ?_
    refine W.eq (g2 := F0 mm 103 ls [.int (nI (d + 1)), .ref (B + (27)), .ref (B + (5 + 1 + 1 + j)), .int (10)]) (congrArg (fun z9 : Int32 => F0 mm 103 ls [.int (z9), .ref (B + (27)), .ref (B + (5 + 1 + 1 + j)), .int (10)]) (n_add rfl rfl)) ?_
    refine x_if (w := (wX G B tt)) (va_runS (As := [.int (10), .ref (B + (5 + 1 + 1 + j)), .ref (B + (27)), .int (nI (d + 1))]) (rest := []) ⟨hx, hb, hml, hown, hts⟩ (c_X7_gives_10 (l := l) (G := G) (B := B) (tt := tt) (hW := hW) (x := x_4) (j := j) (hj := hj) (d := d + 1) (k := k + 1) (hk := K10) (hk16 := (by omega)) (hd := (by omega))) (va_cwS 4 hts gX7_gives_X7_gives rfl rfl rfl (by decide +kernel) ⟨Nat.le_of_ble_eq_true rfl, Nat.le_of_ble_eq_true rfl⟩) (x_ps (w := (wX G B tt)) hW hX hK hE hS [.int (10), .ref (B + (5 + 1 + 1 + j)), .ref (B + (27)), .int (nI (d + 1))]) rfl rfl hl.1 rfl (lv_room (Nat.le_of_ble_eq_true rfl)) dX7_gives_103 ⟨Nat.zero_le _, Nat.zero_le _⟩) hS (fun r_7 x_8 H_5 lo_6 h_103 hX hS => ?_)
    try dsimp only at h_103
    have P103 : x_8 = pushL x k [11, 10] := by rw [h_103.2, P10]; exact (pushL_app x k [11] [10]).symm
    have V103 := h_103.1
    rw [M10] at V103
    have K103 : x_8 27 1 = nI (k + 2) := by rw [P103]; exact pushL_len k [11, 10] x hk
    have M103 : x_8 (5 + 1 + 1 + j) = x (5 + 1 + 1 + j) := by rw [P103]; exact pushL_off k _ x _ (by omega) (by omega)
    refine lv_aload_n hx hb dX7_gives_106 rfl (lv_at hl 2 rfl) ?_
    refine x_ip (w := (wX G B tt)) (x := x_8) (v := markK kk) (va_runS (As := [.ref (B + (5 + 1 + 1 + j))]) (rest := [.int (r_7)]) ⟨hx, hb, hml, hown, hts⟩ (c_X7_markBody (l := l) (G := G) (B := B) (tt := tt) (hW := hW) (x := x_8) (ρ := 5) (hρ := rg5) (j := j) (hj := hj) (k := kk) (hk := (by rw [M103]; exact hkd)) (hk6 := hk6)) (va_cwS 1 hts gX7_gives_X7_markBody rfl rfl rfl (by decide +kernel) ⟨Nat.le_of_ble_eq_true rfl, Nat.le_of_ble_eq_true rfl⟩) (x_ps (w := (wX G B tt)) hW hX hK hE hS [.ref (B + (5 + 1 + 1 + j))]) rfl rfl hl.1 rfl (lv_room (Nat.le_of_ble_eq_true rfl)) dX7_gives_107 ⟨Nat.zero_le _, Nat.zero_le _⟩) hS (fun H_9 lo_10 hX hS => ?_)
    refine W.eq (g2 := F0 mm 110 ls [.int (21), .int (r_7)]) (congrArg (fun z9 : Int32 => F0 mm 110 ls [.int (z9), .int (r_7)]) hmk) ?_
    refine lv_aload_n hx hb dX7_gives_110 rfl (lv_at hl 2 rfl) ?_
    refine lv_aload_n hx hb dX7_gives_111 rfl (lv_at hl 3 rfl) ?_
    refine lv_iload hx hb dX7_gives_112 (lv_at hl 0 rfl) ?_
    refine W.eq (g2 := F0 mm 114 ls [.int (nI (d + 1)), .ref (B + (27)), .ref (B + (5 + 1 + 1 + j)), .int (21), .int (r_7)]) (congrArg (fun z9 : Int32 => F0 mm 114 ls [.int (z9), .ref (B + (27)), .ref (B + (5 + 1 + 1 + j)), .int (21), .int (r_7)]) (n_add rfl rfl)) ?_
    refine x_if (w := (wX G B tt)) (va_runS (As := [.int (21), .ref (B + (5 + 1 + 1 + j)), .ref (B + (27)), .int (nI (d + 1))]) (rest := [.int (r_7)]) ⟨hx, hb, hml, hown, hts⟩ (c_X7_gives_21 (l := l) (G := G) (B := B) (tt := tt) (hW := hW) (x := x_8) (j := j) (hj := hj) (d := d + 1) (k := k + 2) (hk := K103) (hk16 := (by omega)) (hd := (by omega))) (va_cwS 4 hts gX7_gives_X7_gives rfl rfl rfl (by decide +kernel) ⟨Nat.le_of_ble_eq_true rfl, Nat.le_of_ble_eq_true rfl⟩) (x_ps (w := (wX G B tt)) hW hX hK hE hS [.int (21), .ref (B + (5 + 1 + 1 + j)), .ref (B + (27)), .int (nI (d + 1))]) rfl rfl hl.1 rfl (lv_room (Nat.le_of_ble_eq_true rfl)) dX7_gives_114 ⟨Nat.zero_le _, Nat.zero_le _⟩) hS (fun r_13 x_14 H_11 lo_12 h_114 hX hS => ?_)
    try dsimp only at h_114
    have P114 : x_14 = pushL x k [11, 10, 21, 20] := by rw [h_114.2, P103]; exact (pushL_app x k [11, 10] [21, 20]).symm
    have V114 := h_114.1
    rw [M103] at V114
    have K114 : x_14 27 1 = nI (k + 4) := by rw [P114]; exact pushL_len k [11, 10, 21, 20] x hk
    have M114 : x_14 (5 + 1 + 1 + j) = x (5 + 1 + 1 + j) := by rw [P114]; exact pushL_off k _ x _ (by omega) (by omega)
    refine lv_iadd hx hb dX7_gives_117 ?_
    rw [← hQ]
    refine x_iret (v := r_7 + r_13) hx hb hr hX hS hlocks dX7_gives_118 ?_
    exact ⟨by first | (rw [V103, V114]; done) | rw [V103, V114, M114], P114⟩
  · have nc_1 := Nat.not_le.mp (fun q => c_1 ((n_le (a := d) (b := 16) rfl rfl (by omega) (by omega)).mpr q))
    exact absurd nc_1 (by omega)

abbrev rmX7_gives_11m22 : Room := { frames := 5, cells := 0, slots := 0, locals := 150 }
set_option maxHeartbeats 4000000 in
set_option maxRecDepth 100000 in
theorem c_X7_gives_11m22 (l : Launch) (G : GG) (B : Nat) (tt : Nat → Nat) (hW : WOK (wX G B tt)) (x : Mem) {j : Nat} (hj : j < 8) {d : Nat} {k : Nat} {kk : Nat} (hk : x 27 1 = nI k) (hk16 : k + 5 ≤ 16) (hd : d + 4 ≤ 16) (hkd : x (5 + 1 + 1 + j) 1 = nI kk) (hk6 : kk < 6) (hmk : markK kk = 22) : Met l yX7_gives wsX7_gives rmX7_gives_11m22 (XP G (wX G B tt) [.int (11), .ref (B + (5 + 1 + 1 + j)), .ref (B + (27)), .int (nI d)] x) (va_Qi (fun r u => r = x (5 + 1 + 1 + j) 8 + (x (5 + 1 + 1 + j) 0 + 10 * x (5 + 1 + 1 + j) 4 - x (5 + 1 + 1 + j) 6) ∧ u = pushL x k [11, 10, 22, 21, 20]) (XB G (wX G B tt)) (blkA B (B + 117))) 0 0 (blkA B (B + 117)) := by
  refine Met.ofW (cc := cX7_gives) (maxL := 5) (ret := (some .int)) (by decide) rfl ?_
  intro pp ee ss mm aa bb mt cd s1 Bd hml hv
  obtain ⟨hae, hX, hK, hE⟩ := hv
  have hx := Bd.exec
  have hb := Bd.bytes
  have hr := Bd.returns
  have hts := atoms_spec (ws := wsX7_gives) Bd.pre
  have hown : ss.vm.findClass RX7 = some mm.cls := findClass_of_methodNamed Bd.named
  have hlocks := Bd.notSynchronized
  have hS : va_S (blkA B (B + 117)) ss.heap ss.heap [] := va_S.rf
  have hl := lv_entry ([.int (11), .ref (B + (5 + 1 + 1 + j)), .ref (B + (27)), .int (nI d)]) (n := 5) (Nat.le_of_ble_eq_true rfl)
  subst hae
  rw [lg_entry_eq]
  generalize (lg_sl ([.int (11), .ref (B + (5 + 1 + 1 + j)), .ref (B + (27)), .int (nI d)]) ++ List.replicate (5 - (lg_sl ([.int (11), .ref (B + (5 + 1 + 1 + j)), .ref (B + (27)), .int (nI d)])).length) Slot.unset).toArray = ls at hl ⊢
  have hl : lv_has ls 5 [(0, .int (11)), (1, .ref (B + (5 + 1 + 1 + j))), (2, .ref (B + (27))), (3, .int (nI d))] := hl
  generalize ([.int (11), .ref (B + (5 + 1 + 1 + j)), .ref (B + (27)), .int (nI d)] : List Value).toArray = aa at hts ⊢
  show W pp l ee rmX7_gives_11m22 ss mm aa bb mt cd ss.heap [] 0 0 _ (F0 mm 0 ls [])
  generalize hQ : MQ bb (va_Qi (fun r u => r = x (5 + 1 + 1 + j) 8 + (x (5 + 1 + 1 + j) 0 + 10 * x (5 + 1 + 1 + j) 4 - x (5 + 1 + 1 + j) 6) ∧ u = pushL x k [11, 10, 22, 21, 20]) (XB G (wX G B tt)) (blkA B (B + 117))) aa ss 0 0 (blkA B (B + 117)) = Q
  refine lv_iload_n hx hb dX7_gives_0 rfl (lv_at hl 3 rfl) ?_
  refine lv_bipush (v := 16) hx hb dX7_gives_1 (by decide) ?_
  refine lv_icmp_le (tgt := 8) hx hb dX7_gives_3 (by decide) (fun c_1 => ?_) (fun c_1 => ?_)
  · have nc_1 := (n_le (a := d) (b := 16) rfl rfl (by omega) (by omega)).mp c_1
    refine lv_aload_n hx hb dX7_gives_8 rfl (lv_at hl 2 rfl) ?_
    refine lv_iload_n hx hb dX7_gives_9 rfl (lv_at hl 0 rfl) ?_
    refine x_vf (w := (wX G B tt)) (va_runV (As := [.int (11)]) (rest := []) ⟨hx, hb, hml, hown, hts⟩ (c_X6_leave (l := l) (G := G) (B := B) (tt := tt) (hW := hW) (x := x) (b := 11) (k := k) (hk := hk) (hk16 := (by omega))) (cwV 1 hts gX7_gives_X6_leave rfl rfl rfl (by decide +kernel) ⟨Nat.le_of_ble_eq_true rfl, Nat.le_of_ble_eq_true rfl⟩) (x_pv (w := (wX G B tt)) (a := 27) hW hX hK hE hS [.int (11)] (Nat.le_of_ble_eq_true rfl) (shX_tr (G := G) (B := B)) rfl) rfl rfl hl.1 rfl (lv_room (Nat.le_of_ble_eq_true rfl)) dX7_gives_10 ⟨Nat.zero_le _, Nat.zero_le _⟩) hS (fun x_4 H_2 lo_3 h_10 hX hS => ?_)
    try dsimp only at h_10
    have P10 : x_4 = pushL x k [11] := by rw [h_10, if_pos (by omega)]; rfl
    have K10 : x_4 27 1 = nI (k + 1) := by rw [P10]; exact pushL_len k [11] x hk
    have M10 : x_4 (5 + 1 + 1 + j) = x (5 + 1 + 1 + j) := by rw [P10]; exact pushL_off k _ x _ (by omega) (by omega)
    refine lv_iload_n hx hb dX7_gives_13 rfl (lv_at hl 3 rfl) ?_
    refine lv_iconst (v := 1) hx hb dX7_gives_14 (by decide) ?_
    refine lv_iadd hx hb dX7_gives_15 ?_
    refine lv_istore (lv' := [(4, .int (nI d + 1)), (0, .int (11)), (1, .ref (B + (5 + 1 + 1 + j))), (2, .ref (B + (27))), (3, .int (nI d))]) hx hb dX7_gives_16 hl (by decide) rfl (fun ls hl => ?_)
    refine lv_iload_n hx hb dX7_gives_18 rfl (lv_at hl 1 rfl) ?_
    refine lv_tableIn (tgt := 97) (off := 78) hx hb dX7_gives_19 (by decide) (by decide) rfl (by decide) ?_
    refine lv_bipush (v := 10) hx hb dX7_gives_97 (by decide) ?_
    refine lv_aload_n hx hb dX7_gives_99 rfl (lv_at hl 2 rfl) ?_
    refine lv_aload_n hx hb dX7_gives_100 rfl (lv_at hl 3 rfl) ?_
    refine lv_iload hx hb dX7_gives_101 (lv_at hl 0 rfl) ?_
    refine W.eq (g2 := F0 mm 103 ls [.int (nI (d + 1)), .ref (B + (27)), .ref (B + (5 + 1 + 1 + j)), .int (10)]) (congrArg (fun z9 : Int32 => F0 mm 103 ls [.int (z9), .ref (B + (27)), .ref (B + (5 + 1 + 1 + j)), .int (10)]) (n_add rfl rfl)) ?_
    refine x_if (w := (wX G B tt)) (va_runS (As := [.int (10), .ref (B + (5 + 1 + 1 + j)), .ref (B + (27)), .int (nI (d + 1))]) (rest := []) ⟨hx, hb, hml, hown, hts⟩ (c_X7_gives_10 (l := l) (G := G) (B := B) (tt := tt) (hW := hW) (x := x_4) (j := j) (hj := hj) (d := d + 1) (k := k + 1) (hk := K10) (hk16 := (by omega)) (hd := (by omega))) (va_cwS 4 hts gX7_gives_X7_gives rfl rfl rfl (by decide +kernel) ⟨Nat.le_of_ble_eq_true rfl, Nat.le_of_ble_eq_true rfl⟩) (x_ps (w := (wX G B tt)) hW hX hK hE hS [.int (10), .ref (B + (5 + 1 + 1 + j)), .ref (B + (27)), .int (nI (d + 1))]) rfl rfl hl.1 rfl (lv_room (Nat.le_of_ble_eq_true rfl)) dX7_gives_103 ⟨Nat.zero_le _, Nat.zero_le _⟩) hS (fun r_7 x_8 H_5 lo_6 h_103 hX hS => ?_)
    try dsimp only at h_103
    have P103 : x_8 = pushL x k [11, 10] := by rw [h_103.2, P10]; exact (pushL_app x k [11] [10]).symm
    have V103 := h_103.1
    rw [M10] at V103
    have K103 : x_8 27 1 = nI (k + 2) := by rw [P103]; exact pushL_len k [11, 10] x hk
    have M103 : x_8 (5 + 1 + 1 + j) = x (5 + 1 + 1 + j) := by rw [P103]; exact pushL_off k _ x _ (by omega) (by omega)
    refine lv_aload_n hx hb dX7_gives_106 rfl (lv_at hl 2 rfl) ?_
    refine x_ip (w := (wX G B tt)) (x := x_8) (v := markK kk) (va_runS (As := [.ref (B + (5 + 1 + 1 + j))]) (rest := [.int (r_7)]) ⟨hx, hb, hml, hown, hts⟩ (c_X7_markBody (l := l) (G := G) (B := B) (tt := tt) (hW := hW) (x := x_8) (ρ := 5) (hρ := rg5) (j := j) (hj := hj) (k := kk) (hk := (by rw [M103]; exact hkd)) (hk6 := hk6)) (va_cwS 1 hts gX7_gives_X7_markBody rfl rfl rfl (by decide +kernel) ⟨Nat.le_of_ble_eq_true rfl, Nat.le_of_ble_eq_true rfl⟩) (x_ps (w := (wX G B tt)) hW hX hK hE hS [.ref (B + (5 + 1 + 1 + j))]) rfl rfl hl.1 rfl (lv_room (Nat.le_of_ble_eq_true rfl)) dX7_gives_107 ⟨Nat.zero_le _, Nat.zero_le _⟩) hS (fun H_9 lo_10 hX hS => ?_)
    refine W.eq (g2 := F0 mm 110 ls [.int (22), .int (r_7)]) (congrArg (fun z9 : Int32 => F0 mm 110 ls [.int (z9), .int (r_7)]) hmk) ?_
    refine lv_aload_n hx hb dX7_gives_110 rfl (lv_at hl 2 rfl) ?_
    refine lv_aload_n hx hb dX7_gives_111 rfl (lv_at hl 3 rfl) ?_
    refine lv_iload hx hb dX7_gives_112 (lv_at hl 0 rfl) ?_
    refine W.eq (g2 := F0 mm 114 ls [.int (nI (d + 1)), .ref (B + (27)), .ref (B + (5 + 1 + 1 + j)), .int (22), .int (r_7)]) (congrArg (fun z9 : Int32 => F0 mm 114 ls [.int (z9), .ref (B + (27)), .ref (B + (5 + 1 + 1 + j)), .int (22), .int (r_7)]) (n_add rfl rfl)) ?_
    refine x_if (w := (wX G B tt)) (va_runS (As := [.int (22), .ref (B + (5 + 1 + 1 + j)), .ref (B + (27)), .int (nI (d + 1))]) (rest := [.int (r_7)]) ⟨hx, hb, hml, hown, hts⟩ (c_X7_gives_22 (l := l) (G := G) (B := B) (tt := tt) (hW := hW) (x := x_8) (j := j) (hj := hj) (d := d + 1) (k := k + 2) (hk := K103) (hk16 := (by omega)) (hd := (by omega))) (va_cwS 4 hts gX7_gives_X7_gives rfl rfl rfl (by decide +kernel) ⟨Nat.le_of_ble_eq_true rfl, Nat.le_of_ble_eq_true rfl⟩) (x_ps (w := (wX G B tt)) hW hX hK hE hS [.int (22), .ref (B + (5 + 1 + 1 + j)), .ref (B + (27)), .int (nI (d + 1))]) rfl rfl hl.1 rfl (lv_room (Nat.le_of_ble_eq_true rfl)) dX7_gives_114 ⟨Nat.zero_le _, Nat.zero_le _⟩) hS (fun r_13 x_14 H_11 lo_12 h_114 hX hS => ?_)
    try dsimp only at h_114
    have P114 : x_14 = pushL x k [11, 10, 22, 21, 20] := by rw [h_114.2, P103]; exact (pushL_app x k [11, 10] [22, 21, 20]).symm
    have V114 := h_114.1
    rw [M103] at V114
    have K114 : x_14 27 1 = nI (k + 5) := by rw [P114]; exact pushL_len k [11, 10, 22, 21, 20] x hk
    have M114 : x_14 (5 + 1 + 1 + j) = x (5 + 1 + 1 + j) := by rw [P114]; exact pushL_off k _ x _ (by omega) (by omega)
    refine lv_iadd hx hb dX7_gives_117 ?_
    rw [← hQ]
    refine x_iret (v := r_7 + r_13) hx hb hr hX hS hlocks dX7_gives_118 ?_
    exact ⟨by first | (rw [V103, V114]; done) | rw [V103, V114, M114], P114⟩
  · have nc_1 := Nat.not_le.mp (fun q => c_1 ((n_le (a := d) (b := 16) rfl rfl (by omega) (by omega)).mpr q))
    exact absurd nc_1 (by omega)

abbrev rmX7_gives_11m24 : Room := { frames := 6, cells := 0, slots := 0, locals := 180 }
set_option maxHeartbeats 4000000 in
set_option maxRecDepth 100000 in
theorem c_X7_gives_11m24 (l : Launch) (G : GG) (B : Nat) (tt : Nat → Nat) (hW : WOK (wX G B tt)) (x : Mem) {j : Nat} (hj : j < 8) {d : Nat} {k : Nat} {kk : Nat} (hk : x 27 1 = nI k) (hk16 : k + 6 ≤ 16) (hd : d + 5 ≤ 16) (hkd : x (5 + 1 + 1 + j) 1 = nI kk) (hk6 : kk < 6) (hmk : markK kk = 24) : Met l yX7_gives wsX7_gives rmX7_gives_11m24 (XP G (wX G B tt) [.int (11), .ref (B + (5 + 1 + 1 + j)), .ref (B + (27)), .int (nI d)] x) (va_Qi (fun r u => r = x (5 + 1 + 1 + j) 8 + (2 * (x (5 + 1 + 1 + j) 0 + 10 * x (5 + 1 + 1 + j) 4 - x (5 + 1 + 1 + j) 6)) ∧ u = pushL x k [11, 10, 24, 22, 21, 20]) (XB G (wX G B tt)) (blkA B (B + 117))) 0 0 (blkA B (B + 117)) := by
  refine Met.ofW (cc := cX7_gives) (maxL := 5) (ret := (some .int)) (by decide) rfl ?_
  intro pp ee ss mm aa bb mt cd s1 Bd hml hv
  obtain ⟨hae, hX, hK, hE⟩ := hv
  have hx := Bd.exec
  have hb := Bd.bytes
  have hr := Bd.returns
  have hts := atoms_spec (ws := wsX7_gives) Bd.pre
  have hown : ss.vm.findClass RX7 = some mm.cls := findClass_of_methodNamed Bd.named
  have hlocks := Bd.notSynchronized
  have hS : va_S (blkA B (B + 117)) ss.heap ss.heap [] := va_S.rf
  have hl := lv_entry ([.int (11), .ref (B + (5 + 1 + 1 + j)), .ref (B + (27)), .int (nI d)]) (n := 5) (Nat.le_of_ble_eq_true rfl)
  subst hae
  rw [lg_entry_eq]
  generalize (lg_sl ([.int (11), .ref (B + (5 + 1 + 1 + j)), .ref (B + (27)), .int (nI d)]) ++ List.replicate (5 - (lg_sl ([.int (11), .ref (B + (5 + 1 + 1 + j)), .ref (B + (27)), .int (nI d)])).length) Slot.unset).toArray = ls at hl ⊢
  have hl : lv_has ls 5 [(0, .int (11)), (1, .ref (B + (5 + 1 + 1 + j))), (2, .ref (B + (27))), (3, .int (nI d))] := hl
  generalize ([.int (11), .ref (B + (5 + 1 + 1 + j)), .ref (B + (27)), .int (nI d)] : List Value).toArray = aa at hts ⊢
  show W pp l ee rmX7_gives_11m24 ss mm aa bb mt cd ss.heap [] 0 0 _ (F0 mm 0 ls [])
  generalize hQ : MQ bb (va_Qi (fun r u => r = x (5 + 1 + 1 + j) 8 + (2 * (x (5 + 1 + 1 + j) 0 + 10 * x (5 + 1 + 1 + j) 4 - x (5 + 1 + 1 + j) 6)) ∧ u = pushL x k [11, 10, 24, 22, 21, 20]) (XB G (wX G B tt)) (blkA B (B + 117))) aa ss 0 0 (blkA B (B + 117)) = Q
  refine lv_iload_n hx hb dX7_gives_0 rfl (lv_at hl 3 rfl) ?_
  refine lv_bipush (v := 16) hx hb dX7_gives_1 (by decide) ?_
  refine lv_icmp_le (tgt := 8) hx hb dX7_gives_3 (by decide) (fun c_1 => ?_) (fun c_1 => ?_)
  · have nc_1 := (n_le (a := d) (b := 16) rfl rfl (by omega) (by omega)).mp c_1
    refine lv_aload_n hx hb dX7_gives_8 rfl (lv_at hl 2 rfl) ?_
    refine lv_iload_n hx hb dX7_gives_9 rfl (lv_at hl 0 rfl) ?_
    refine x_vf (w := (wX G B tt)) (va_runV (As := [.int (11)]) (rest := []) ⟨hx, hb, hml, hown, hts⟩ (c_X6_leave (l := l) (G := G) (B := B) (tt := tt) (hW := hW) (x := x) (b := 11) (k := k) (hk := hk) (hk16 := (by omega))) (cwV 1 hts gX7_gives_X6_leave rfl rfl rfl (by decide +kernel) ⟨Nat.le_of_ble_eq_true rfl, Nat.le_of_ble_eq_true rfl⟩) (x_pv (w := (wX G B tt)) (a := 27) hW hX hK hE hS [.int (11)] (Nat.le_of_ble_eq_true rfl) (shX_tr (G := G) (B := B)) rfl) rfl rfl hl.1 rfl (lv_room (Nat.le_of_ble_eq_true rfl)) dX7_gives_10 ⟨Nat.zero_le _, Nat.zero_le _⟩) hS (fun x_4 H_2 lo_3 h_10 hX hS => ?_)
    try dsimp only at h_10
    have P10 : x_4 = pushL x k [11] := by rw [h_10, if_pos (by omega)]; rfl
    have K10 : x_4 27 1 = nI (k + 1) := by rw [P10]; exact pushL_len k [11] x hk
    have M10 : x_4 (5 + 1 + 1 + j) = x (5 + 1 + 1 + j) := by rw [P10]; exact pushL_off k _ x _ (by omega) (by omega)
    refine lv_iload_n hx hb dX7_gives_13 rfl (lv_at hl 3 rfl) ?_
    refine lv_iconst (v := 1) hx hb dX7_gives_14 (by decide) ?_
    refine lv_iadd hx hb dX7_gives_15 ?_
    refine lv_istore (lv' := [(4, .int (nI d + 1)), (0, .int (11)), (1, .ref (B + (5 + 1 + 1 + j))), (2, .ref (B + (27))), (3, .int (nI d))]) hx hb dX7_gives_16 hl (by decide) rfl (fun ls hl => ?_)
    refine lv_iload_n hx hb dX7_gives_18 rfl (lv_at hl 1 rfl) ?_
    refine lv_tableIn (tgt := 97) (off := 78) hx hb dX7_gives_19 (by decide) (by decide) rfl (by decide) ?_
    refine lv_bipush (v := 10) hx hb dX7_gives_97 (by decide) ?_
    refine lv_aload_n hx hb dX7_gives_99 rfl (lv_at hl 2 rfl) ?_
    refine lv_aload_n hx hb dX7_gives_100 rfl (lv_at hl 3 rfl) ?_
    refine lv_iload hx hb dX7_gives_101 (lv_at hl 0 rfl) ?_
    refine W.eq (g2 := F0 mm 103 ls [.int (nI (d + 1)), .ref (B + (27)), .ref (B + (5 + 1 + 1 + j)), .int (10)]) (congrArg (fun z9 : Int32 => F0 mm 103 ls [.int (z9), .ref (B + (27)), .ref (B + (5 + 1 + 1 + j)), .int (10)]) (n_add rfl rfl)) ?_
    refine x_if (w := (wX G B tt)) (va_runS (As := [.int (10), .ref (B + (5 + 1 + 1 + j)), .ref (B + (27)), .int (nI (d + 1))]) (rest := []) ⟨hx, hb, hml, hown, hts⟩ (c_X7_gives_10 (l := l) (G := G) (B := B) (tt := tt) (hW := hW) (x := x_4) (j := j) (hj := hj) (d := d + 1) (k := k + 1) (hk := K10) (hk16 := (by omega)) (hd := (by omega))) (va_cwS 4 hts gX7_gives_X7_gives rfl rfl rfl (by decide +kernel) ⟨Nat.le_of_ble_eq_true rfl, Nat.le_of_ble_eq_true rfl⟩) (x_ps (w := (wX G B tt)) hW hX hK hE hS [.int (10), .ref (B + (5 + 1 + 1 + j)), .ref (B + (27)), .int (nI (d + 1))]) rfl rfl hl.1 rfl (lv_room (Nat.le_of_ble_eq_true rfl)) dX7_gives_103 ⟨Nat.zero_le _, Nat.zero_le _⟩) hS (fun r_7 x_8 H_5 lo_6 h_103 hX hS => ?_)
    try dsimp only at h_103
    have P103 : x_8 = pushL x k [11, 10] := by rw [h_103.2, P10]; exact (pushL_app x k [11] [10]).symm
    have V103 := h_103.1
    rw [M10] at V103
    have K103 : x_8 27 1 = nI (k + 2) := by rw [P103]; exact pushL_len k [11, 10] x hk
    have M103 : x_8 (5 + 1 + 1 + j) = x (5 + 1 + 1 + j) := by rw [P103]; exact pushL_off k _ x _ (by omega) (by omega)
    refine lv_aload_n hx hb dX7_gives_106 rfl (lv_at hl 2 rfl) ?_
    refine x_ip (w := (wX G B tt)) (x := x_8) (v := markK kk) (va_runS (As := [.ref (B + (5 + 1 + 1 + j))]) (rest := [.int (r_7)]) ⟨hx, hb, hml, hown, hts⟩ (c_X7_markBody (l := l) (G := G) (B := B) (tt := tt) (hW := hW) (x := x_8) (ρ := 5) (hρ := rg5) (j := j) (hj := hj) (k := kk) (hk := (by rw [M103]; exact hkd)) (hk6 := hk6)) (va_cwS 1 hts gX7_gives_X7_markBody rfl rfl rfl (by decide +kernel) ⟨Nat.le_of_ble_eq_true rfl, Nat.le_of_ble_eq_true rfl⟩) (x_ps (w := (wX G B tt)) hW hX hK hE hS [.ref (B + (5 + 1 + 1 + j))]) rfl rfl hl.1 rfl (lv_room (Nat.le_of_ble_eq_true rfl)) dX7_gives_107 ⟨Nat.zero_le _, Nat.zero_le _⟩) hS (fun H_9 lo_10 hX hS => ?_)
    refine W.eq (g2 := F0 mm 110 ls [.int (24), .int (r_7)]) (congrArg (fun z9 : Int32 => F0 mm 110 ls [.int (z9), .int (r_7)]) hmk) ?_
    refine lv_aload_n hx hb dX7_gives_110 rfl (lv_at hl 2 rfl) ?_
    refine lv_aload_n hx hb dX7_gives_111 rfl (lv_at hl 3 rfl) ?_
    refine lv_iload hx hb dX7_gives_112 (lv_at hl 0 rfl) ?_
    refine W.eq (g2 := F0 mm 114 ls [.int (nI (d + 1)), .ref (B + (27)), .ref (B + (5 + 1 + 1 + j)), .int (24), .int (r_7)]) (congrArg (fun z9 : Int32 => F0 mm 114 ls [.int (z9), .ref (B + (27)), .ref (B + (5 + 1 + 1 + j)), .int (24), .int (r_7)]) (n_add rfl rfl)) ?_
    refine x_if (w := (wX G B tt)) (va_runS (As := [.int (24), .ref (B + (5 + 1 + 1 + j)), .ref (B + (27)), .int (nI (d + 1))]) (rest := [.int (r_7)]) ⟨hx, hb, hml, hown, hts⟩ (c_X7_gives_24 (l := l) (G := G) (B := B) (tt := tt) (hW := hW) (x := x_8) (j := j) (hj := hj) (d := d + 1) (k := k + 2) (hk := K103) (hk16 := (by omega)) (hd := (by omega))) (va_cwS 4 hts gX7_gives_X7_gives rfl rfl rfl (by decide +kernel) ⟨Nat.le_of_ble_eq_true rfl, Nat.le_of_ble_eq_true rfl⟩) (x_ps (w := (wX G B tt)) hW hX hK hE hS [.int (24), .ref (B + (5 + 1 + 1 + j)), .ref (B + (27)), .int (nI (d + 1))]) rfl rfl hl.1 rfl (lv_room (Nat.le_of_ble_eq_true rfl)) dX7_gives_114 ⟨Nat.zero_le _, Nat.zero_le _⟩) hS (fun r_13 x_14 H_11 lo_12 h_114 hX hS => ?_)
    try dsimp only at h_114
    have P114 : x_14 = pushL x k [11, 10, 24, 22, 21, 20] := by rw [h_114.2, P103]; exact (pushL_app x k [11, 10] [24, 22, 21, 20]).symm
    have V114 := h_114.1
    rw [M103] at V114
    have K114 : x_14 27 1 = nI (k + 6) := by rw [P114]; exact pushL_len k [11, 10, 24, 22, 21, 20] x hk
    have M114 : x_14 (5 + 1 + 1 + j) = x (5 + 1 + 1 + j) := by rw [P114]; exact pushL_off k _ x _ (by omega) (by omega)
    refine lv_iadd hx hb dX7_gives_117 ?_
    rw [← hQ]
    refine x_iret (v := r_7 + r_13) hx hb hr hX hS hlocks dX7_gives_118 ?_
    exact ⟨by first | (rw [V103, V114]; done) | rw [V103, V114, M114], P114⟩
  · have nc_1 := Nat.not_le.mp (fun q => c_1 ((n_le (a := d) (b := 16) rfl rfl (by omega) (by omega)).mpr q))
    exact absurd nc_1 (by omega)

abbrev rmX7_gives_12 : Room := { frames := 7, cells := 0, slots := 0, locals := 210 }
set_option maxHeartbeats 4000000 in
set_option maxRecDepth 100000 in
theorem c_X7_gives_12 (l : Launch) (G : GG) (B : Nat) (tt : Nat → Nat) (hW : WOK (wX G B tt)) (x : Mem) {j : Nat} (hj : j < 8) {d : Nat} {k : Nat} {kk : Nat} (hk : x 27 1 = nI k) (hk16 : k + 7 ≤ 16) (hd : d + 6 ≤ 16) (hkd : x (5 + 1 + 1 + j) 1 = nI kk) (hk6 : kk < 6) (hmk : markK kk = 24) : Met l yX7_gives wsX7_gives rmX7_gives_12 (XP G (wX G B tt) [.int (12), .ref (B + (5 + 1 + 1 + j)), .ref (B + (27)), .int (nI d)] x) (va_Qi (fun r u => r = 0 - (x (5 + 1 + 1 + j) 8 + (2 * (x (5 + 1 + 1 + j) 0 + 10 * x (5 + 1 + 1 + j) 4 - x (5 + 1 + 1 + j) 6))) ∧ u = pushL x k [12, 11, 10, 24, 22, 21, 20]) (XB G (wX G B tt)) (blkA B (B + 117))) 0 0 (blkA B (B + 117)) := by
  refine Met.ofW (cc := cX7_gives) (maxL := 5) (ret := (some .int)) (by decide) rfl ?_
  intro pp ee ss mm aa bb mt cd s1 Bd hml hv
  obtain ⟨hae, hX, hK, hE⟩ := hv
  have hx := Bd.exec
  have hb := Bd.bytes
  have hr := Bd.returns
  have hts := atoms_spec (ws := wsX7_gives) Bd.pre
  have hown : ss.vm.findClass RX7 = some mm.cls := findClass_of_methodNamed Bd.named
  have hlocks := Bd.notSynchronized
  have hS : va_S (blkA B (B + 117)) ss.heap ss.heap [] := va_S.rf
  have hl := lv_entry ([.int (12), .ref (B + (5 + 1 + 1 + j)), .ref (B + (27)), .int (nI d)]) (n := 5) (Nat.le_of_ble_eq_true rfl)
  subst hae
  rw [lg_entry_eq]
  generalize (lg_sl ([.int (12), .ref (B + (5 + 1 + 1 + j)), .ref (B + (27)), .int (nI d)]) ++ List.replicate (5 - (lg_sl ([.int (12), .ref (B + (5 + 1 + 1 + j)), .ref (B + (27)), .int (nI d)])).length) Slot.unset).toArray = ls at hl ⊢
  have hl : lv_has ls 5 [(0, .int (12)), (1, .ref (B + (5 + 1 + 1 + j))), (2, .ref (B + (27))), (3, .int (nI d))] := hl
  generalize ([.int (12), .ref (B + (5 + 1 + 1 + j)), .ref (B + (27)), .int (nI d)] : List Value).toArray = aa at hts ⊢
  show W pp l ee rmX7_gives_12 ss mm aa bb mt cd ss.heap [] 0 0 _ (F0 mm 0 ls [])
  generalize hQ : MQ bb (va_Qi (fun r u => r = 0 - (x (5 + 1 + 1 + j) 8 + (2 * (x (5 + 1 + 1 + j) 0 + 10 * x (5 + 1 + 1 + j) 4 - x (5 + 1 + 1 + j) 6))) ∧ u = pushL x k [12, 11, 10, 24, 22, 21, 20]) (XB G (wX G B tt)) (blkA B (B + 117))) aa ss 0 0 (blkA B (B + 117)) = Q
  refine lv_iload_n hx hb dX7_gives_0 rfl (lv_at hl 3 rfl) ?_
  refine lv_bipush (v := 16) hx hb dX7_gives_1 (by decide) ?_
  refine lv_icmp_le (tgt := 8) hx hb dX7_gives_3 (by decide) (fun c_1 => ?_) (fun c_1 => ?_)
  · have nc_1 := (n_le (a := d) (b := 16) rfl rfl (by omega) (by omega)).mp c_1
    refine lv_aload_n hx hb dX7_gives_8 rfl (lv_at hl 2 rfl) ?_
    refine lv_iload_n hx hb dX7_gives_9 rfl (lv_at hl 0 rfl) ?_
    refine x_vf (w := (wX G B tt)) (va_runV (As := [.int (12)]) (rest := []) ⟨hx, hb, hml, hown, hts⟩ (c_X6_leave (l := l) (G := G) (B := B) (tt := tt) (hW := hW) (x := x) (b := 12) (k := k) (hk := hk) (hk16 := (by omega))) (cwV 1 hts gX7_gives_X6_leave rfl rfl rfl (by decide +kernel) ⟨Nat.le_of_ble_eq_true rfl, Nat.le_of_ble_eq_true rfl⟩) (x_pv (w := (wX G B tt)) (a := 27) hW hX hK hE hS [.int (12)] (Nat.le_of_ble_eq_true rfl) (shX_tr (G := G) (B := B)) rfl) rfl rfl hl.1 rfl (lv_room (Nat.le_of_ble_eq_true rfl)) dX7_gives_10 ⟨Nat.zero_le _, Nat.zero_le _⟩) hS (fun x_4 H_2 lo_3 h_10 hX hS => ?_)
    try dsimp only at h_10
    have P10 : x_4 = pushL x k [12] := by rw [h_10, if_pos (by omega)]; rfl
    have K10 : x_4 27 1 = nI (k + 1) := by rw [P10]; exact pushL_len k [12] x hk
    have M10 : x_4 (5 + 1 + 1 + j) = x (5 + 1 + 1 + j) := by rw [P10]; exact pushL_off k _ x _ (by omega) (by omega)
    refine lv_iload_n hx hb dX7_gives_13 rfl (lv_at hl 3 rfl) ?_
    refine lv_iconst (v := 1) hx hb dX7_gives_14 (by decide) ?_
    refine lv_iadd hx hb dX7_gives_15 ?_
    refine lv_istore (lv' := [(4, .int (nI d + 1)), (0, .int (12)), (1, .ref (B + (5 + 1 + 1 + j))), (2, .ref (B + (27))), (3, .int (nI d))]) hx hb dX7_gives_16 hl (by decide) rfl (fun ls hl => ?_)
    refine lv_iload_n hx hb dX7_gives_18 rfl (lv_at hl 1 rfl) ?_
    refine lv_tableIn (tgt := 119) (off := 100) hx hb dX7_gives_19 (by decide) (by decide) rfl (by decide) ?_
    refine lv_iconst (v := 0) hx hb dX7_gives_119 (by decide) ?_
    refine lv_bipush (v := 11) hx hb dX7_gives_120 (by decide) ?_
    refine lv_aload_n hx hb dX7_gives_122 rfl (lv_at hl 2 rfl) ?_
    refine lv_aload_n hx hb dX7_gives_123 rfl (lv_at hl 3 rfl) ?_
    refine lv_iload hx hb dX7_gives_124 (lv_at hl 0 rfl) ?_
    refine W.eq (g2 := F0 mm 126 ls [.int (nI (d + 1)), .ref (B + (27)), .ref (B + (5 + 1 + 1 + j)), .int (11), .int (0)]) (congrArg (fun z9 : Int32 => F0 mm 126 ls [.int (z9), .ref (B + (27)), .ref (B + (5 + 1 + 1 + j)), .int (11), .int (0)]) (n_add rfl rfl)) ?_
    refine x_if (w := (wX G B tt)) (va_runS (As := [.int (11), .ref (B + (5 + 1 + 1 + j)), .ref (B + (27)), .int (nI (d + 1))]) (rest := [.int (0)]) ⟨hx, hb, hml, hown, hts⟩ (c_X7_gives_11m24 (l := l) (G := G) (B := B) (tt := tt) (hW := hW) (x := x_4) (j := j) (hj := hj) (d := d + 1) (k := k + 1) (kk := kk) (hk := K10) (hk16 := (by omega)) (hd := (by omega)) (hkd := (by rw [M10]; exact hkd)) (hk6 := hk6) (hmk := hmk)) (va_cwS 4 hts gX7_gives_X7_gives rfl rfl rfl (by decide +kernel) ⟨Nat.le_of_ble_eq_true rfl, Nat.le_of_ble_eq_true rfl⟩) (x_ps (w := (wX G B tt)) hW hX hK hE hS [.int (11), .ref (B + (5 + 1 + 1 + j)), .ref (B + (27)), .int (nI (d + 1))]) rfl rfl hl.1 rfl (lv_room (Nat.le_of_ble_eq_true rfl)) dX7_gives_126 ⟨Nat.zero_le _, Nat.zero_le _⟩) hS (fun r_7 x_8 H_5 lo_6 h_126 hX hS => ?_)
    try dsimp only at h_126
    have P126 : x_8 = pushL x k [12, 11, 10, 24, 22, 21, 20] := by rw [h_126.2, P10]; exact (pushL_app x k [12] [11, 10, 24, 22, 21, 20]).symm
    have V126 := h_126.1
    rw [M10] at V126
    have K126 : x_8 27 1 = nI (k + 7) := by rw [P126]; exact pushL_len k [12, 11, 10, 24, 22, 21, 20] x hk
    have M126 : x_8 (5 + 1 + 1 + j) = x (5 + 1 + 1 + j) := by rw [P126]; exact pushL_off k _ x _ (by omega) (by omega)
    refine lv_isub hx hb dX7_gives_129 ?_
    rw [← hQ]
    refine x_iret (v := 0 - r_7) hx hb hr hX hS hlocks dX7_gives_130 ?_
    exact ⟨by first | (rw [V126]; done) | rw [V126, M126], P126⟩
  · have nc_1 := Nat.not_le.mp (fun q => c_1 ((n_le (a := d) (b := 16) rfl rfl (by omega) (by omega)).mpr q))
    exact absurd nc_1 (by omega)

abbrev rmX7_gives_14 : Room := { frames := 5, cells := 0, slots := 0, locals := 150 }
set_option maxHeartbeats 4000000 in
set_option maxRecDepth 100000 in
theorem c_X7_gives_14 (l : Launch) (G : GG) (B : Nat) (tt : Nat → Nat) (hW : WOK (wX G B tt)) (x : Mem) {j : Nat} (hj : j < 8) {d : Nat} {k : Nat} {kk : Nat} (hk : x 27 1 = nI k) (hk16 : k + 5 ≤ 16) (hd : d + 4 ≤ 16) (hkd : x (5 + 1 + 1 + j) 1 = nI kk) (hk6 : kk < 6) (hmk : markK kk = 21) : Met l yX7_gives wsX7_gives rmX7_gives_14 (XP G (wX G B tt) [.int (14), .ref (B + (5 + 1 + 1 + j)), .ref (B + (27)), .int (nI d)] x) (va_Qi (fun r u => r = 2 * (x (5 + 1 + 1 + j) 8 + (x (5 + 1 + 1 + j) 0 + 10 * x (5 + 1 + 1 + j) 4)) ∧ u = pushL x k [14, 11, 10, 21, 20]) (XB G (wX G B tt)) (blkA B (B + 117))) 0 0 (blkA B (B + 117)) := by
  refine Met.ofW (cc := cX7_gives) (maxL := 5) (ret := (some .int)) (by decide) rfl ?_
  intro pp ee ss mm aa bb mt cd s1 Bd hml hv
  obtain ⟨hae, hX, hK, hE⟩ := hv
  have hx := Bd.exec
  have hb := Bd.bytes
  have hr := Bd.returns
  have hts := atoms_spec (ws := wsX7_gives) Bd.pre
  have hown : ss.vm.findClass RX7 = some mm.cls := findClass_of_methodNamed Bd.named
  have hlocks := Bd.notSynchronized
  have hS : va_S (blkA B (B + 117)) ss.heap ss.heap [] := va_S.rf
  have hl := lv_entry ([.int (14), .ref (B + (5 + 1 + 1 + j)), .ref (B + (27)), .int (nI d)]) (n := 5) (Nat.le_of_ble_eq_true rfl)
  subst hae
  rw [lg_entry_eq]
  generalize (lg_sl ([.int (14), .ref (B + (5 + 1 + 1 + j)), .ref (B + (27)), .int (nI d)]) ++ List.replicate (5 - (lg_sl ([.int (14), .ref (B + (5 + 1 + 1 + j)), .ref (B + (27)), .int (nI d)])).length) Slot.unset).toArray = ls at hl ⊢
  have hl : lv_has ls 5 [(0, .int (14)), (1, .ref (B + (5 + 1 + 1 + j))), (2, .ref (B + (27))), (3, .int (nI d))] := hl
  generalize ([.int (14), .ref (B + (5 + 1 + 1 + j)), .ref (B + (27)), .int (nI d)] : List Value).toArray = aa at hts ⊢
  show W pp l ee rmX7_gives_14 ss mm aa bb mt cd ss.heap [] 0 0 _ (F0 mm 0 ls [])
  generalize hQ : MQ bb (va_Qi (fun r u => r = 2 * (x (5 + 1 + 1 + j) 8 + (x (5 + 1 + 1 + j) 0 + 10 * x (5 + 1 + 1 + j) 4)) ∧ u = pushL x k [14, 11, 10, 21, 20]) (XB G (wX G B tt)) (blkA B (B + 117))) aa ss 0 0 (blkA B (B + 117)) = Q
  refine lv_iload_n hx hb dX7_gives_0 rfl (lv_at hl 3 rfl) ?_
  refine lv_bipush (v := 16) hx hb dX7_gives_1 (by decide) ?_
  refine lv_icmp_le (tgt := 8) hx hb dX7_gives_3 (by decide) (fun c_1 => ?_) (fun c_1 => ?_)
  · have nc_1 := (n_le (a := d) (b := 16) rfl rfl (by omega) (by omega)).mp c_1
    refine lv_aload_n hx hb dX7_gives_8 rfl (lv_at hl 2 rfl) ?_
    refine lv_iload_n hx hb dX7_gives_9 rfl (lv_at hl 0 rfl) ?_
    refine x_vf (w := (wX G B tt)) (va_runV (As := [.int (14)]) (rest := []) ⟨hx, hb, hml, hown, hts⟩ (c_X6_leave (l := l) (G := G) (B := B) (tt := tt) (hW := hW) (x := x) (b := 14) (k := k) (hk := hk) (hk16 := (by omega))) (cwV 1 hts gX7_gives_X6_leave rfl rfl rfl (by decide +kernel) ⟨Nat.le_of_ble_eq_true rfl, Nat.le_of_ble_eq_true rfl⟩) (x_pv (w := (wX G B tt)) (a := 27) hW hX hK hE hS [.int (14)] (Nat.le_of_ble_eq_true rfl) (shX_tr (G := G) (B := B)) rfl) rfl rfl hl.1 rfl (lv_room (Nat.le_of_ble_eq_true rfl)) dX7_gives_10 ⟨Nat.zero_le _, Nat.zero_le _⟩) hS (fun x_4 H_2 lo_3 h_10 hX hS => ?_)
    try dsimp only at h_10
    have P10 : x_4 = pushL x k [14] := by rw [h_10, if_pos (by omega)]; rfl
    have K10 : x_4 27 1 = nI (k + 1) := by rw [P10]; exact pushL_len k [14] x hk
    have M10 : x_4 (5 + 1 + 1 + j) = x (5 + 1 + 1 + j) := by rw [P10]; exact pushL_off k _ x _ (by omega) (by omega)
    refine lv_iload_n hx hb dX7_gives_13 rfl (lv_at hl 3 rfl) ?_
    refine lv_iconst (v := 1) hx hb dX7_gives_14 (by decide) ?_
    refine lv_iadd hx hb dX7_gives_15 ?_
    refine lv_istore (lv' := [(4, .int (nI d + 1)), (0, .int (14)), (1, .ref (B + (5 + 1 + 1 + j))), (2, .ref (B + (27))), (3, .int (nI d))]) hx hb dX7_gives_16 hl (by decide) rfl (fun ls hl => ?_)
    refine lv_iload_n hx hb dX7_gives_18 rfl (lv_at hl 1 rfl) ?_
    refine lv_tableIn (tgt := 144) (off := 125) hx hb dX7_gives_19 (by decide) (by decide) rfl (by decide) ?_
    refine lv_iconst (v := 2) hx hb dX7_gives_144 (by decide) ?_
    refine lv_bipush (v := 11) hx hb dX7_gives_145 (by decide) ?_
    refine lv_aload_n hx hb dX7_gives_147 rfl (lv_at hl 2 rfl) ?_
    refine lv_aload_n hx hb dX7_gives_148 rfl (lv_at hl 3 rfl) ?_
    refine lv_iload hx hb dX7_gives_149 (lv_at hl 0 rfl) ?_
    refine W.eq (g2 := F0 mm 151 ls [.int (nI (d + 1)), .ref (B + (27)), .ref (B + (5 + 1 + 1 + j)), .int (11), .int (2)]) (congrArg (fun z9 : Int32 => F0 mm 151 ls [.int (z9), .ref (B + (27)), .ref (B + (5 + 1 + 1 + j)), .int (11), .int (2)]) (n_add rfl rfl)) ?_
    refine x_if (w := (wX G B tt)) (va_runS (As := [.int (11), .ref (B + (5 + 1 + 1 + j)), .ref (B + (27)), .int (nI (d + 1))]) (rest := [.int (2)]) ⟨hx, hb, hml, hown, hts⟩ (c_X7_gives_11m21 (l := l) (G := G) (B := B) (tt := tt) (hW := hW) (x := x_4) (j := j) (hj := hj) (d := d + 1) (k := k + 1) (kk := kk) (hk := K10) (hk16 := (by omega)) (hd := (by omega)) (hkd := (by rw [M10]; exact hkd)) (hk6 := hk6) (hmk := hmk)) (va_cwS 4 hts gX7_gives_X7_gives rfl rfl rfl (by decide +kernel) ⟨Nat.le_of_ble_eq_true rfl, Nat.le_of_ble_eq_true rfl⟩) (x_ps (w := (wX G B tt)) hW hX hK hE hS [.int (11), .ref (B + (5 + 1 + 1 + j)), .ref (B + (27)), .int (nI (d + 1))]) rfl rfl hl.1 rfl (lv_room (Nat.le_of_ble_eq_true rfl)) dX7_gives_151 ⟨Nat.zero_le _, Nat.zero_le _⟩) hS (fun r_7 x_8 H_5 lo_6 h_151 hX hS => ?_)
    try dsimp only at h_151
    have P151 : x_8 = pushL x k [14, 11, 10, 21, 20] := by rw [h_151.2, P10]; exact (pushL_app x k [14] [11, 10, 21, 20]).symm
    have V151 := h_151.1
    rw [M10] at V151
    have K151 : x_8 27 1 = nI (k + 5) := by rw [P151]; exact pushL_len k [14, 11, 10, 21, 20] x hk
    have M151 : x_8 (5 + 1 + 1 + j) = x (5 + 1 + 1 + j) := by rw [P151]; exact pushL_off k _ x _ (by omega) (by omega)
    refine lv_imul hx hb dX7_gives_154 ?_
    rw [← hQ]
    refine x_iret (v := 2 * r_7) hx hb hr hX hS hlocks dX7_gives_155 ?_
    exact ⟨by first | (rw [V151]; done) | rw [V151, M151], P151⟩
  · have nc_1 := Nat.not_le.mp (fun q => c_1 ((n_le (a := d) (b := 16) rfl rfl (by omega) (by omega)).mpr q))
    exact absurd nc_1 (by omega)
