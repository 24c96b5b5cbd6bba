abbrev rmX8_markOfFixed : Room := { frames := 1, cells := 0, slots := 0, locals := 22 }
set_option maxHeartbeats 4000000 in
set_option maxRecDepth 100000 in
theorem c_X8_markOfFixed (l : Launch) (G : GG) (B : Nat) (hW : WOK (wM G B)) (x : Mem) {ml : Nat} {k : Nat} (hk : x 0 12 = nI k) (hk16 : k + 2 ≤ 16) (hml9 : ml < 8) : Met l yX8_markOfFixed wsX8_markOfFixed rmX8_markOfFixed (XP G (wM G B) [.ref (B + (0)), .int (nI ml)] x) (va_Qi (fun r u => r = nI ml + 10 * sF (x 5) ml 0 ∧ u = pushRL x k ([21, 20])) (XB G (wM G B)) (blkA B (B + 13))) 0 0 (blkA B (B + 13)) := by
  refine Met.ofW (cc := cX8_markOfFixed) (maxL := 2) (ret := (some .int)) (by decide) rfl ?_
  intro pp ee ss mm aa bb mt cd s1 Bd hml hv
  obtain ⟨hae, hX, hK, hE⟩ := hv
  have hx := Bd.exec
  have hb := Bd.bytes
  have hr := Bd.returns
  have hts := atoms_spec (ws := wsX8_markOfFixed) Bd.pre
  have hown : ss.vm.findClass RX8 = some mm.cls := findClass_of_methodNamed Bd.named
  have hlocks := Bd.notSynchronized
  have hS : va_S (blkA B (B + 13)) ss.heap ss.heap [] := va_S.rf
  have hl := lv_entry ([.ref (B + (0)), .int (nI ml)]) (n := 2) (Nat.le_of_ble_eq_true rfl)
  subst hae
  rw [lg_entry_eq]
  generalize (lg_sl ([.ref (B + (0)), .int (nI ml)]) ++ List.replicate (2 - (lg_sl ([.ref (B + (0)), .int (nI ml)])).length) Slot.unset).toArray = ls at hl ⊢
  have hl : lv_has ls 2 [(0, .ref (B + (0))), (1, .int (nI ml))] := hl
  generalize ([.ref (B + (0)), .int (nI ml)] : List Value).toArray = aa at hts ⊢
  show W pp l ee rmX8_markOfFixed ss mm aa bb mt cd ss.heap [] 0 0 _ (F0 mm 0 ls [])
  generalize hQ : MQ bb (va_Qi (fun r u => r = nI ml + 10 * sF (x 5) ml 0 ∧ u = pushRL x k ([21, 20])) (XB G (wM G B)) (blkA B (B + 13))) aa ss 0 0 (blkA B (B + 13)) = Q
  refine lv_aload_n hx hb dX8_markOfFixed_0 rfl (lv_at hl 0 rfl) ?_
  refine lv_bipush (v := 21) hx hb dX8_markOfFixed_1 (by decide) ?_
  refine x_vf (w := (wM G B)) (va_runV (As := [.int (21)]) (rest := []) ⟨hx, hb, hml, hown, hts⟩ (c_X8_leave (l := l) (G := G) (B := B) (hW := hW) (x := x) (b := 21) (k := k) (hk := hk) (hk16 := (by omega))) (cwV 1 hts gX8_markOfFixed_X8_leave rfl rfl rfl (by decide +kernel) ⟨Nat.le_of_ble_eq_true rfl, Nat.le_of_ble_eq_true rfl⟩) (x_pv (w := (wM G B)) (a := 0) hW hX hK hE hS [.int (21)] (Nat.le_of_ble_eq_true rfl) (shM_0 (G := G) (B := B)) rfl) rfl rfl hl.1 rfl (lv_room (Nat.le_of_ble_eq_true rfl)) dX8_markOfFixed_3 ⟨Nat.zero_le _, Nat.zero_le _⟩) hS (fun x_3 H_1 lo_2 h_3 hX hS => ?_)
  try dsimp only at h_3
  have P3 : x_3 = pushRL x k [21] := by rw [h_3, if_pos (by omega)]; rfl
  have K3 : x_3 0 12 = nI (k + 1) := by rw [P3]; exact pushRL_len k [21] x hk
  have M3 : x_3 5 = x 5 := by rw [P3]; exact pushRL_off k _ x _ (by decide) (by decide)
  refine lv_aload_n hx hb dX8_markOfFixed_6 rfl (lv_at hl 0 rfl) ?_
  refine lv_bipush (v := 20) hx hb dX8_markOfFixed_7 (by decide) ?_
  refine x_vf (w := (wM G B)) (va_runV (As := [.int (20)]) (rest := []) ⟨hx, hb, hml, hown, hts⟩ (c_X8_leave (l := l) (G := G) (B := B) (hW := hW) (x := x_3) (b := 20) (k := k + 1) (hk := K3) (hk16 := (by omega))) (cwV 1 hts gX8_markOfFixed_X8_leave rfl rfl rfl (by decide +kernel) ⟨Nat.le_of_ble_eq_true rfl, Nat.le_of_ble_eq_true rfl⟩) (x_pv (w := (wM G B)) (a := 0) hW hX hK hE hS [.int (20)] (Nat.le_of_ble_eq_true rfl) (shM_0 (G := G) (B := B)) rfl) rfl rfl hl.1 rfl (lv_room (Nat.le_of_ble_eq_true rfl)) dX8_markOfFixed_9 ⟨Nat.zero_le _, Nat.zero_le _⟩) hS (fun x_6 H_4 lo_5 h_9 hX hS => ?_)
  try dsimp only at h_9
  have P9 : x_6 = pushRL x k [21, 20] := by rw [h_9, if_pos (by omega), P3]; rfl
  have K9 : x_6 0 12 = nI (k + 2) := by rw [P9]; exact pushRL_len k [21, 20] x hk
  have M9 : x_6 5 = x 5 := by rw [P9]; exact pushRL_off k _ x _ (by decide) (by decide)
  refine lv_iload_n hx hb dX8_markOfFixed_12 rfl (lv_at hl 1 rfl) ?_
  refine lv_bipush (v := 10) hx hb dX8_markOfFixed_13 (by decide) ?_
  refine lv_aload_n hx hb dX8_markOfFixed_15 rfl (lv_at hl 0 rfl) ?_
  refine lv_iload_n hx hb dX8_markOfFixed_16 rfl (lv_at hl 1 rfl) ?_
  refine lv_iconst (v := 0) hx hb dX8_markOfFixed_17 (by decide) ?_
  refine x_ip (w := (wM G B)) (x := x_6) (v := sF (x_6 5) ml 0) (va_runV (As := [.int (nI ml), .int (0)]) (rest := [.int (10), .int (nI ml)]) ⟨hx, hb, hml, hown, hts⟩ (c_X8_of (l := l) (G := G) (B := B) (hW := hW) (x := x_6) (ml := ml) (k := 0) (hml9 := (by omega)) (hk10 := (by omega))) (cwV 2 hts gX8_markOfFixed_X8_of rfl rfl rfl (by decide +kernel) ⟨Nat.le_of_ble_eq_true rfl, Nat.le_of_ble_eq_true rfl⟩) (x_pv (w := (wM G B)) (a := 0) hW hX hK hE hS [.int (nI ml), .int (0)] (Nat.le_of_ble_eq_true rfl) (shM_0 (G := G) (B := B)) rfl) rfl rfl hl.1 rfl (lv_room (Nat.le_of_ble_eq_true rfl)) dX8_markOfFixed_18 ⟨Nat.zero_le _, Nat.zero_le _⟩) hS (fun H_7 lo_8 hX hS => ?_)
  refine lv_imul hx hb dX8_markOfFixed_21 ?_
  refine lv_iadd hx hb dX8_markOfFixed_22 ?_
  rw [← hQ]
  refine x_iret (v := nI ml + (10 * (sF (x_6 5) ml 0))) hx hb hr hX hS hlocks dX8_markOfFixed_23 ?_
  exact ⟨by rw [M9], P9⟩

abbrev rmX8_markOfHooded : Room := { frames := 2, cells := 0, slots := 0, locals := 43 }
set_option maxHeartbeats 4000000 in
set_option maxRecDepth 100000 in
theorem c_X8_markOfHooded (l : Launch) (G : GG) (B : Nat) (hW : WOK (wM G B)) (x : Mem) {ml : Nat} {k : Nat} (hk : x 0 12 = nI k) (hk16 : k + 3 ≤ 16) (hml9 : ml < 8) : Met l yX8_markOfHooded wsX8_markOfHooded rmX8_markOfHooded (XP G (wM G B) [.ref (B + (0)), .int (nI ml)] x) (va_Qi (fun r u => r = nI ml + 10 * sF (x 5) ml 0 - sF (x 5) ml 2 ∧ u = pushRL x k ([22, 21, 20])) (XB G (wM G B)) (blkA B (B + 13))) 0 0 (blkA B (B + 13)) := by
  refine Met.ofW (cc := cX8_markOfHooded) (maxL := 2) (ret := (some .int)) (by decide) rfl ?_
  intro pp ee ss mm aa bb mt cd s1 Bd hml hv
  obtain ⟨hae, hX, hK, hE⟩ := hv
  have hx := Bd.exec
  have hb := Bd.bytes
  have hr := Bd.returns
  have hts := atoms_spec (ws := wsX8_markOfHooded) Bd.pre
  have hown : ss.vm.findClass RX8 = some mm.cls := findClass_of_methodNamed Bd.named
  have hlocks := Bd.notSynchronized
  have hS : va_S (blkA B (B + 13)) ss.heap ss.heap [] := va_S.rf
  have hl := lv_entry ([.ref (B + (0)), .int (nI ml)]) (n := 2) (Nat.le_of_ble_eq_true rfl)
  subst hae
  rw [lg_entry_eq]
  generalize (lg_sl ([.ref (B + (0)), .int (nI ml)]) ++ List.replicate (2 - (lg_sl ([.ref (B + (0)), .int (nI ml)])).length) Slot.unset).toArray = ls at hl ⊢
  have hl : lv_has ls 2 [(0, .ref (B + (0))), (1, .int (nI ml))] := hl
  generalize ([.ref (B + (0)), .int (nI ml)] : List Value).toArray = aa at hts ⊢
  show W pp l ee rmX8_markOfHooded ss mm aa bb mt cd ss.heap [] 0 0 _ (F0 mm 0 ls [])
  generalize hQ : MQ bb (va_Qi (fun r u => r = nI ml + 10 * sF (x 5) ml 0 - sF (x 5) ml 2 ∧ u = pushRL x k ([22, 21, 20])) (XB G (wM G B)) (blkA B (B + 13))) aa ss 0 0 (blkA B (B + 13)) = Q
  refine lv_aload_n hx hb dX8_markOfHooded_0 rfl (lv_at hl 0 rfl) ?_
  refine lv_bipush (v := 22) hx hb dX8_markOfHooded_1 (by decide) ?_
  refine x_vf (w := (wM G B)) (va_runV (As := [.int (22)]) (rest := []) ⟨hx, hb, hml, hown, hts⟩ (c_X8_leave (l := l) (G := G) (B := B) (hW := hW) (x := x) (b := 22) (k := k) (hk := hk) (hk16 := (by omega))) (cwV 1 hts gX8_markOfHooded_X8_leave rfl rfl rfl (by decide +kernel) ⟨Nat.le_of_ble_eq_true rfl, Nat.le_of_ble_eq_true rfl⟩) (x_pv (w := (wM G B)) (a := 0) hW hX hK hE hS [.int (22)] (Nat.le_of_ble_eq_true rfl) (shM_0 (G := G) (B := B)) rfl) rfl rfl hl.1 rfl (lv_room (Nat.le_of_ble_eq_true rfl)) dX8_markOfHooded_3 ⟨Nat.zero_le _, Nat.zero_le _⟩) hS (fun x_3 H_1 lo_2 h_3 hX hS => ?_)
  try dsimp only at h_3
  have P3 : x_3 = pushRL x k [22] := by rw [h_3, if_pos (by omega)]; rfl
  have K3 : x_3 0 12 = nI (k + 1) := by rw [P3]; exact pushRL_len k [22] x hk
  have M3 : x_3 5 = x 5 := by rw [P3]; exact pushRL_off k _ x _ (by decide) (by decide)
  refine lv_aload_n hx hb dX8_markOfHooded_6 rfl (lv_at hl 0 rfl) ?_
  refine lv_iload_n hx hb dX8_markOfHooded_7 rfl (lv_at hl 1 rfl) ?_
  refine x_if (w := (wM G B)) (va_runV (As := [.int (nI ml)]) (rest := []) ⟨hx, hb, hml, hown, hts⟩ (c_X8_markOfFixed (l := l) (G := G) (B := B) (hW := hW) (x := x_3) (ml := ml) (k := k + 1) (hk := K3) (hk16 := (by omega)) (hml9 := (by omega))) (cwV 1 hts gX8_markOfHooded_X8_markOfFixed rfl rfl rfl (by decide +kernel) ⟨Nat.le_of_ble_eq_true rfl, Nat.le_of_ble_eq_true rfl⟩) (x_pv (w := (wM G B)) (a := 0) hW hX hK hE hS [.int (nI ml)] (Nat.le_of_ble_eq_true rfl) (shM_0 (G := G) (B := B)) rfl) rfl rfl hl.1 rfl (lv_room (Nat.le_of_ble_eq_true rfl)) dX8_markOfHooded_8 ⟨Nat.zero_le _, Nat.zero_le _⟩) hS (fun r_6 x_7 H_4 lo_5 h_8 hX hS => ?_)
  try dsimp only at h_8
  have P8 : x_7 = pushRL x k ([22, 21, 20]) := by rw [h_8.2, P3]; exact (pushRL_app x k [22] ([21, 20])).symm
  have V8 := h_8.1
  rw [M3] at V8
  have K8 : x_7 0 12 = nI (k + 3) := by rw [P8]; exact pushRL_len k [22, 21, 20] x hk
  have M8 : x_7 5 = x 5 := by rw [P8]; exact pushRL_off k _ x _ (by decide) (by decide)
  refine lv_aload_n hx hb dX8_markOfHooded_11 rfl (lv_at hl 0 rfl) ?_
  refine lv_iload_n hx hb dX8_markOfHooded_12 rfl (lv_at hl 1 rfl) ?_
  refine lv_iconst (v := 2) hx hb dX8_markOfHooded_13 (by decide) ?_
  refine x_ip (w := (wM G B)) (x := x_7) (v := sF (x_7 5) ml 2) (va_runV (As := [.int (nI ml), .int (2)]) (rest := [.int (r_6)]) ⟨hx, hb, hml, hown, hts⟩ (c_X8_of (l := l) (G := G) (B := B) (hW := hW) (x := x_7) (ml := ml) (k := 2) (hml9 := (by omega)) (hk10 := (by omega))) (cwV 2 hts gX8_markOfHooded_X8_of rfl rfl rfl (by decide +kernel) ⟨Nat.le_of_ble_eq_true rfl, Nat.le_of_ble_eq_true rfl⟩) (x_pv (w := (wM G B)) (a := 0) hW hX hK hE hS [.int (nI ml), .int (2)] (Nat.le_of_ble_eq_true rfl) (shM_0 (G := G) (B := B)) rfl) rfl rfl hl.1 rfl (lv_room (Nat.le_of_ble_eq_true rfl)) dX8_markOfHooded_14 ⟨Nat.zero_le _, Nat.zero_le _⟩) hS (fun H_8 lo_9 hX hS => ?_)
  refine lv_isub hx hb dX8_markOfHooded_17 ?_
  rw [← hQ]
  refine x_iret (v := r_6 - (sF (x_7 5) ml 2)) hx hb hr hX hS hlocks dX8_markOfHooded_18 ?_
  exact ⟨by rw [V8, M8], P8⟩

abbrev rmX8_sizeOfMill : Room := { frames := 1, cells := 0, slots := 0, locals := 22 }
set_option maxHeartbeats 4000000 in
set_option maxRecDepth 100000 in
theorem c_X8_sizeOfMill (l : Launch) (G : GG) (B : Nat) (hW : WOK (wM G B)) (x : Mem) {ml : Nat} {k : Nat} (hk : x 0 12 = nI k) (hk16 : k + 1 ≤ 16) (hml9 : ml < 8) : Met l yX8_sizeOfMill wsX8_sizeOfMill rmX8_sizeOfMill (XP G (wM G B) [.ref (B + (0)), .int (nI ml)] x) (va_Qi (fun r u => r = sF (x 5) ml 4 ∧ u = pushRL x k ([10])) (XB G (wM G B)) (blkA B (B + 13))) 0 0 (blkA B (B + 13)) := by
  refine Met.ofW (cc := cX8_sizeOfMill) (maxL := 2) (ret := (some .int)) (by decide) rfl ?_
  intro pp ee ss mm aa bb mt cd s1 Bd hml hv
  obtain ⟨hae, hX, hK, hE⟩ := hv
  have hx := Bd.exec
  have hb := Bd.bytes
  have hr := Bd.returns
  have hts := atoms_spec (ws := wsX8_sizeOfMill) Bd.pre
  have hown : ss.vm.findClass RX8 = some mm.cls := findClass_of_methodNamed Bd.named
  have hlocks := Bd.notSynchronized
  have hS : va_S (blkA B (B + 13)) ss.heap ss.heap [] := va_S.rf
  have hl := lv_entry ([.ref (B + (0)), .int (nI ml)]) (n := 2) (Nat.le_of_ble_eq_true rfl)
  subst hae
  rw [lg_entry_eq]
  generalize (lg_sl ([.ref (B + (0)), .int (nI ml)]) ++ List.replicate (2 - (lg_sl ([.ref (B + (0)), .int (nI ml)])).length) Slot.unset).toArray = ls at hl ⊢
  have hl : lv_has ls 2 [(0, .ref (B + (0))), (1, .int (nI ml))] := hl
  generalize ([.ref (B + (0)), .int (nI ml)] : List Value).toArray = aa at hts ⊢
  show W pp l ee rmX8_sizeOfMill ss mm aa bb mt cd ss.heap [] 0 0 _ (F0 mm 0 ls [])
  generalize hQ : MQ bb (va_Qi (fun r u => r = sF (x 5) ml 4 ∧ u = pushRL x k ([10])) (XB G (wM G B)) (blkA B (B + 13))) aa ss 0 0 (blkA B (B + 13)) = Q
  refine lv_aload_n hx hb dX8_sizeOfMill_0 rfl (lv_at hl 0 rfl) ?_
  refine lv_bipush (v := 10) hx hb dX8_sizeOfMill_1 (by decide) ?_
  refine x_vf (w := (wM G B)) (va_runV (As := [.int (10)]) (rest := []) ⟨hx, hb, hml, hown, hts⟩ (c_X8_leave (l := l) (G := G) (B := B) (hW := hW) (x := x) (b := 10) (k := k) (hk := hk) (hk16 := (by omega))) (cwV 1 hts gX8_sizeOfMill_X8_leave rfl rfl rfl (by decide +kernel) ⟨Nat.le_of_ble_eq_true rfl, Nat.le_of_ble_eq_true rfl⟩) (x_pv (w := (wM G B)) (a := 0) hW hX hK hE hS [.int (10)] (Nat.le_of_ble_eq_true rfl) (shM_0 (G := G) (B := B)) rfl) rfl rfl hl.1 rfl (lv_room (Nat.le_of_ble_eq_true rfl)) dX8_sizeOfMill_3 ⟨Nat.zero_le _, Nat.zero_le _⟩) hS (fun x_3 H_1 lo_2 h_3 hX hS => ?_)
  try dsimp only at h_3
  have P3 : x_3 = pushRL x k [10] := by rw [h_3, if_pos (by omega)]; rfl
  have K3 : x_3 0 12 = nI (k + 1) := by rw [P3]; exact pushRL_len k [10] x hk
  have M3 : x_3 5 = x 5 := by rw [P3]; exact pushRL_off k _ x _ (by decide) (by decide)
  refine lv_aload_n hx hb dX8_sizeOfMill_6 rfl (lv_at hl 0 rfl) ?_
  refine lv_iload_n hx hb dX8_sizeOfMill_7 rfl (lv_at hl 1 rfl) ?_
  refine lv_iconst (v := 4) hx hb dX8_sizeOfMill_8 (by decide) ?_
  refine x_ip (w := (wM G B)) (x := x_3) (v := sF (x_3 5) ml 4) (va_runV (As := [.int (nI ml), .int (4)]) (rest := []) ⟨hx, hb, hml, hown, hts⟩ (c_X8_of (l := l) (G := G) (B := B) (hW := hW) (x := x_3) (ml := ml) (k := 4) (hml9 := (by omega)) (hk10 := (by omega))) (cwV 2 hts gX8_sizeOfMill_X8_of rfl rfl rfl (by decide +kernel) ⟨Nat.le_of_ble_eq_true rfl, Nat.le_of_ble_eq_true rfl⟩) (x_pv (w := (wM G B)) (a := 0) hW hX hK hE hS [.int (nI ml), .int (4)] (Nat.le_of_ble_eq_true rfl) (shM_0 (G := G) (B := B)) rfl) rfl rfl hl.1 rfl (lv_room (Nat.le_of_ble_eq_true rfl)) dX8_sizeOfMill_9 ⟨Nat.zero_le _, Nat.zero_le _⟩) hS (fun H_4 lo_5 hX hS => ?_)
  rw [← hQ]
  refine x_iret (v := sF (x_3 5) ml 4) hx hb hr hX hS hlocks dX8_sizeOfMill_12 ?_
  exact ⟨by rw [M3], P3⟩

abbrev rmX8_sizeOfWater : Room := { frames := 2, cells := 0, slots := 0, locals := 43 }
set_option maxHeartbeats 4000000 in
set_option maxRecDepth 100000 in
theorem c_X8_sizeOfWater (l : Launch) (G : GG) (B : Nat) (hW : WOK (wM G B)) (x : Mem) {ml : Nat} {k : Nat} (hk : x 0 12 = nI k) (hk16 : k + 2 ≤ 16) (hml9 : ml < 8) : Met l yX8_sizeOfWater wsX8_sizeOfWater rmX8_sizeOfWater (XP G (wM G B) [.ref (B + (0)), .int (nI ml)] x) (va_Qi (fun r u => r = sF (x 5) ml 4 - 100 ∧ u = pushRL x k ([13, 10])) (XB G (wM G B)) (blkA B (B + 13))) 0 0 (blkA B (B + 13)) := by
  refine Met.ofW (cc := cX8_sizeOfWater) (maxL := 2) (ret := (some .int)) (by decide) rfl ?_
  intro pp ee ss mm aa bb mt cd s1 Bd hml hv
  obtain ⟨hae, hX, hK, hE⟩ := hv
  have hx := Bd.exec
  have hb := Bd.bytes
  have hr := Bd.returns
  have hts := atoms_spec (ws := wsX8_sizeOfWater) Bd.pre
  have hown : ss.vm.findClass RX8 = some mm.cls := findClass_of_methodNamed Bd.named
  have hlocks := Bd.notSynchronized
  have hS : va_S (blkA B (B + 13)) ss.heap ss.heap [] := va_S.rf
  have hl := lv_entry ([.ref (B + (0)), .int (nI ml)]) (n := 2) (Nat.le_of_ble_eq_true rfl)
  subst hae
  rw [lg_entry_eq]
  generalize (lg_sl ([.ref (B + (0)), .int (nI ml)]) ++ List.replicate (2 - (lg_sl ([.ref (B + (0)), .int (nI ml)])).length) Slot.unset).toArray = ls at hl ⊢
  have hl : lv_has ls 2 [(0, .ref (B + (0))), (1, .int (nI ml))] := hl
  generalize ([.ref (B + (0)), .int (nI ml)] : List Value).toArray = aa at hts ⊢
  show W pp l ee rmX8_sizeOfWater ss mm aa bb mt cd ss.heap [] 0 0 _ (F0 mm 0 ls [])
  generalize hQ : MQ bb (va_Qi (fun r u => r = sF (x 5) ml 4 - 100 ∧ u = pushRL x k ([13, 10])) (XB G (wM G B)) (blkA B (B + 13))) aa ss 0 0 (blkA B (B + 13)) = Q
  refine lv_aload_n hx hb dX8_sizeOfWater_0 rfl (lv_at hl 0 rfl) ?_
  refine lv_bipush (v := 13) hx hb dX8_sizeOfWater_1 (by decide) ?_
  refine x_vf (w := (wM G B)) (va_runV (As := [.int (13)]) (rest := []) ⟨hx, hb, hml, hown, hts⟩ (c_X8_leave (l := l) (G := G) (B := B) (hW := hW) (x := x) (b := 13) (k := k) (hk := hk) (hk16 := (by omega))) (cwV 1 hts gX8_sizeOfWater_X8_leave rfl rfl rfl (by decide +kernel) ⟨Nat.le_of_ble_eq_true rfl, Nat.le_of_ble_eq_true rfl⟩) (x_pv (w := (wM G B)) (a := 0) hW hX hK hE hS [.int (13)] (Nat.le_of_ble_eq_true rfl) (shM_0 (G := G) (B := B)) rfl) rfl rfl hl.1 rfl (lv_room (Nat.le_of_ble_eq_true rfl)) dX8_sizeOfWater_3 ⟨Nat.zero_le _, Nat.zero_le _⟩) hS (fun x_3 H_1 lo_2 h_3 hX hS => ?_)
  try dsimp only at h_3
  have P3 : x_3 = pushRL x k [13] := by rw [h_3, if_pos (by omega)]; rfl
  have K3 : x_3 0 12 = nI (k + 1) := by rw [P3]; exact pushRL_len k [13] x hk
  have M3 : x_3 5 = x 5 := by rw [P3]; exact pushRL_off k _ x _ (by decide) (by decide)
  refine lv_aload_n hx hb dX8_sizeOfWater_6 rfl (lv_at hl 0 rfl) ?_
  refine lv_iload_n hx hb dX8_sizeOfWater_7 rfl (lv_at hl 1 rfl) ?_
  refine x_if (w := (wM G B)) (va_runV (As := [.int (nI ml)]) (rest := []) ⟨hx, hb, hml, hown, hts⟩ (c_X8_sizeOfMill (l := l) (G := G) (B := B) (hW := hW) (x := x_3) (ml := ml) (k := k + 1) (hk := K3) (hk16 := (by omega)) (hml9 := (by omega))) (cwV 1 hts gX8_sizeOfWater_X8_sizeOfMill rfl rfl rfl (by decide +kernel) ⟨Nat.le_of_ble_eq_true rfl, Nat.le_of_ble_eq_true rfl⟩) (x_pv (w := (wM G B)) (a := 0) hW hX hK hE hS [.int (nI ml)] (Nat.le_of_ble_eq_true rfl) (shM_0 (G := G) (B := B)) rfl) rfl rfl hl.1 rfl (lv_room (Nat.le_of_ble_eq_true rfl)) dX8_sizeOfWater_8 ⟨Nat.zero_le _, Nat.zero_le _⟩) hS (fun r_6 x_7 H_4 lo_5 h_8 hX hS => ?_)
  try dsimp only at h_8
  have P8 : x_7 = pushRL x k ([13, 10]) := by rw [h_8.2, P3]; exact (pushRL_app x k [13] ([10])).symm
  have V8 := h_8.1
  rw [M3] at V8
  have K8 : x_7 0 12 = nI (k + 2) := by rw [P8]; exact pushRL_len k [13, 10] x hk
  have M8 : x_7 5 = x 5 := by rw [P8]; exact pushRL_off k _ x _ (by decide) (by decide)
  refine lv_bipush (v := 100) hx hb dX8_sizeOfWater_11 (by decide) ?_
  refine lv_isub hx hb dX8_sizeOfWater_13 ?_
  rw [← hQ]
  refine x_iret (v := r_6 - 100) hx hb hr hX hS hlocks dX8_sizeOfWater_14 ?_
  exact ⟨by rw [V8], P8⟩

theorem kX8_mark_22 : (.fieldLink RX8 22 "WindTakenModel" "now" "[I" : Cond) ∈ wsX8_mark := by decide +kernel
theorem iX8_mark_X8 : ∀ w ∈ wsX80, w ∈ wsX8_mark := by decide +kernel
abbrev rmX8_mark : Room := { frames := 3, cells := 0, slots := 0, locals := 64 }
set_option maxHeartbeats 4000000 in
set_option maxRecDepth 100000 in
theorem c_X8_mark (l : Launch) (G : GG) (B : Nat) (hW : WOK (wM G B)) (x : Mem) {ml : Nat} {k : Nat} {kk : Nat} (hk : x 0 12 = nI k) (hk16 : k + 4 ≤ 16) (hml9 : ml < 8) (hkd : x 5 (85 + ml) = nI kk) (hk1 : 1 ≤ kk) (hk6 : kk < 6) : Met l yX8_mark wsX8_mark rmX8_mark (XP G (wM G B) [.ref (B + (0)), .int (nI ml)] x) (va_Qi (fun r u => r = markV (mR (x 5) ml) kk ∧ u = pushRL x k (markT kk)) (XB G (wM G B)) (blkA B (B + 13))) 0 0 (blkA B (B + 13)) := by
  refine Met.ofW (cc := cX8_mark) (maxL := 2) (ret := (some .int)) (by decide) rfl ?_
  intro pp ee ss mm aa bb mt cd s1 Bd hml hv
  obtain ⟨hae, hX, hK, hE⟩ := hv
  have hx := Bd.exec
  have hb := Bd.bytes
  have hr := Bd.returns
  have hts := atoms_spec (ws := wsX8_mark) Bd.pre
  have hown : ss.vm.findClass RX8 = some mm.cls := findClass_of_methodNamed Bd.named
  have hlocks := Bd.notSynchronized
  have hS : va_S (blkA B (B + 13)) ss.heap ss.heap [] := va_S.rf
  have hl := lv_entry ([.ref (B + (0)), .int (nI ml)]) (n := 2) (Nat.le_of_ble_eq_true rfl)
  subst hae
  rw [lg_entry_eq]
  generalize (lg_sl ([.ref (B + (0)), .int (nI ml)]) ++ List.replicate (2 - (lg_sl ([.ref (B + (0)), .int (nI ml)])).length) Slot.unset).toArray = ls at hl ⊢
  have hl : lv_has ls 2 [(0, .ref (B + (0))), (1, .int (nI ml))] := hl
  generalize ([.ref (B + (0)), .int (nI ml)] : List Value).toArray = aa at hts ⊢
  show W pp l ee rmX8_mark ss mm aa bb mt cd ss.heap [] 0 0 _ (F0 mm 0 ls [])
  generalize hQ : MQ bb (va_Qi (fun r u => r = markV (mR (x 5) ml) kk ∧ u = pushRL x k (markT kk)) (XB G (wM G B)) (blkA B (B + 13))) aa ss 0 0 (blkA B (B + 13)) = Q
  refine lv_aload_n hx hb dX8_mark_0 rfl (lv_at hl 0 rfl) ?_
  refine x_get (w := (wM G B)) (a := 0) (v := .ref (B + (5))) hx hb hts iX8_mark_X8 hown hK hX (Nat.le_of_ble_eq_true rfl) (shM_0 (G := G) (B := B)) rfl 7 (by decide) (hts _ kX8_mark_22) (fun _ h9 => h9) rfl dX8_mark_1 ?_
  refine lv_bipush (v := 85) hx hb dX8_mark_4 (by decide) ?_
  refine lv_iload_n hx hb dX8_mark_6 rfl (lv_at hl 1 rfl) ?_
  refine lv_iadd hx hb dX8_mark_7 ?_
  refine x_iald (w := (wM G B)) (a := 5) (n := 93) (j := 85 + ml) hx hb hK hX (Nat.le_of_ble_eq_true rfl) (shM_a (G := G) (B := B) (a := 5) (f := x (5)) (by decide)) (n_add rfl rfl) (by omega) (by decide) dX8_mark_8 ?_
  refine W.eq (g2 := F0 mm 9 ls [.int (nI kk)]) (congrArg (fun z9 : Int32 => F0 mm 9 ls [.int (z9)]) hkd) ?_
  refine lv_topi (fun y_1 ey_1 => ?_)
  by_cases c_2 : y_1 = 2
  · subst c_2
    refine lv_tableIn (tgt := 36) (off := 27) hx hb dX8_mark_9 (by decide) (by decide) rfl (by decide) ?_
    have w_9 : nI kk = 2 := ey_1.symm
    have hk9 : kk = 2 := (n_eq (a := kk) (b := 2) rfl rfl (by omega) (by decide)).mp w_9
    refine lv_aload_n hx hb dX8_mark_36 rfl (lv_at hl 0 rfl) ?_
    refine lv_iload_n hx hb dX8_mark_37 rfl (lv_at hl 1 rfl) ?_
    refine x_if (w := (wM G B)) (va_runV (As := [.int (nI ml)]) (rest := []) ⟨hx, hb, hml, hown, hts⟩ (c_X8_markOfHooded (l := l) (G := G) (B := B) (hW := hW) (x := x) (ml := ml) (k := k) (hk := hk) (hk16 := (by omega)) (hml9 := (by omega))) (cwV 1 hts gX8_mark_X8_markOfHooded rfl rfl rfl (by decide +kernel) ⟨Nat.le_of_ble_eq_true rfl, Nat.le_of_ble_eq_true rfl⟩) (x_pv (w := (wM G B)) (a := 0) hW hX hK hE hS [.int (nI ml)] (Nat.le_of_ble_eq_true rfl) (shM_0 (G := G) (B := B)) rfl) rfl rfl hl.1 rfl (lv_room (Nat.le_of_ble_eq_true rfl)) dX8_mark_38 ⟨Nat.zero_le _, Nat.zero_le _⟩) hS (fun r_5 x_6 H_3 lo_4 h_38 hX hS => ?_)
    try dsimp only at h_38
    rw [← hQ]
    refine x_iret (v := r_5) hx hb hr hX hS hlocks dX8_mark_41 ?_
    rw [hk9]
    exact ⟨h_38.1, h_38.2⟩
  by_cases c_7 : y_1 = 3
  · subst c_7
    refine lv_tableIn (tgt := 42) (off := 33) hx hb dX8_mark_9 (by decide) (by decide) rfl (by decide) ?_
    have w_9 : nI kk = 3 := ey_1.symm
    have hk9 : kk = 3 := (n_eq (a := kk) (b := 3) rfl rfl (by omega) (by decide)).mp w_9
    refine lv_aload_n hx hb dX8_mark_42 rfl (lv_at hl 0 rfl) ?_
    refine lv_bipush (v := 24) hx hb dX8_mark_43 (by decide) ?_
    refine x_vf (w := (wM G B)) (va_runV (As := [.int (24)]) (rest := []) ⟨hx, hb, hml, hown, hts⟩ (c_X8_leave (l := l) (G := G) (B := B) (hW := hW) (x := x) (b := 24) (k := k) (hk := hk) (hk16 := (by omega))) (cwV 1 hts gX8_mark_X8_leave rfl rfl rfl (by decide +kernel) ⟨Nat.le_of_ble_eq_true rfl, Nat.le_of_ble_eq_true rfl⟩) (x_pv (w := (wM G B)) (a := 0) hW hX hK hE hS [.int (24)] (Nat.le_of_ble_eq_true rfl) (shM_0 (G := G) (B := B)) rfl) rfl rfl hl.1 rfl (lv_room (Nat.le_of_ble_eq_true rfl)) dX8_mark_45 ⟨Nat.zero_le _, Nat.zero_le _⟩) hS (fun x_10 H_8 lo_9 h_45 hX hS => ?_)
    try dsimp only at h_45
    have P45 : x_10 = pushRL x k [24] := by rw [h_45, if_pos (by omega)]; rfl
    have K45 : x_10 0 12 = nI (k + 1) := by rw [P45]; exact pushRL_len k [24] x hk
    have M45 : x_10 5 = x 5 := by rw [P45]; exact pushRL_off k _ x _ (by decide) (by decide)
    refine lv_iconst (v := 2) hx hb dX8_mark_48 (by decide) ?_
    refine lv_aload_n hx hb dX8_mark_49 rfl (lv_at hl 0 rfl) ?_
    refine lv_iload_n hx hb dX8_mark_50 rfl (lv_at hl 1 rfl) ?_
    refine x_if (w := (wM G B)) (va_runV (As := [.int (nI ml)]) (rest := [.int (2)]) ⟨hx, hb, hml, hown, hts⟩ (c_X8_markOfHooded (l := l) (G := G) (B := B) (hW := hW) (x := x_10) (ml := ml) (k := k + 1) (hk := K45) (hk16 := (by omega)) (hml9 := (by omega))) (cwV 1 hts gX8_mark_X8_markOfHooded rfl rfl rfl (by decide +kernel) ⟨Nat.le_of_ble_eq_true rfl, Nat.le_of_ble_eq_true rfl⟩) (x_pv (w := (wM G B)) (a := 0) hW hX hK hE hS [.int (nI ml)] (Nat.le_of_ble_eq_true rfl) (shM_0 (G := G) (B := B)) rfl) rfl rfl hl.1 rfl (lv_room (Nat.le_of_ble_eq_true rfl)) dX8_mark_51 ⟨Nat.zero_le _, Nat.zero_le _⟩) hS (fun r_13 x_14 H_11 lo_12 h_51 hX hS => ?_)
    try dsimp only at h_51
    refine lv_imul hx hb dX8_mark_54 ?_
    rw [← hQ]
    refine x_iret (v := 2 * r_13) hx hb hr hX hS hlocks dX8_mark_55 ?_
    rw [hk9]
    have V9 := h_51.1
    rw [M45] at V9
    exact ⟨congrArg (fun z => 2 * z) V9, by rw [h_51.2, P45]; rfl⟩
  by_cases c_15 : y_1 = 4
  · subst c_15
    refine lv_tableIn (tgt := 56) (off := 47) hx hb dX8_mark_9 (by decide) (by decide) rfl (by decide) ?_
    have w_9 : nI kk = 4 := ey_1.symm
    have hk9 : kk = 4 := (n_eq (a := kk) (b := 4) rfl rfl (by omega) (by decide)).mp w_9
    refine lv_aload_n hx hb dX8_mark_56 rfl (lv_at hl 0 rfl) ?_
    refine lv_bipush (v := 23) hx hb dX8_mark_57 (by decide) ?_
    refine x_vf (w := (wM G B)) (va_runV (As := [.int (23)]) (rest := []) ⟨hx, hb, hml, hown, hts⟩ (c_X8_leave (l := l) (G := G) (B := B) (hW := hW) (x := x) (b := 23) (k := k) (hk := hk) (hk16 := (by omega))) (cwV 1 hts gX8_mark_X8_leave rfl rfl rfl (by decide +kernel) ⟨Nat.le_of_ble_eq_true rfl, Nat.le_of_ble_eq_true rfl⟩) (x_pv (w := (wM G B)) (a := 0) hW hX hK hE hS [.int (23)] (Nat.le_of_ble_eq_true rfl) (shM_0 (G := G) (B := B)) rfl) rfl rfl hl.1 rfl (lv_room (Nat.le_of_ble_eq_true rfl)) dX8_mark_59 ⟨Nat.zero_le _, Nat.zero_le _⟩) hS (fun x_18 H_16 lo_17 h_59 hX hS => ?_)
    try dsimp only at h_59
    have P59 : x_18 = pushRL x k [23] := by rw [h_59, if_pos (by omega)]; rfl
    have K59 : x_18 0 12 = nI (k + 1) := by rw [P59]; exact pushRL_len k [23] x hk
    have M59 : x_18 5 = x 5 := by rw [P59]; exact pushRL_off k _ x _ (by decide) (by decide)
    refine lv_aload_n hx hb dX8_mark_62 rfl (lv_at hl 0 rfl) ?_
    refine lv_bipush (v := 20) hx hb dX8_mark_63 (by decide) ?_
    refine x_vf (w := (wM G B)) (va_runV (As := [.int (20)]) (rest := []) ⟨hx, hb, hml, hown, hts⟩ (c_X8_leave (l := l) (G := G) (B := B) (hW := hW) (x := x_18) (b := 20) (k := k + 1) (hk := K59) (hk16 := (by omega))) (cwV 1 hts gX8_mark_X8_leave rfl rfl rfl (by decide +kernel) ⟨Nat.le_of_ble_eq_true rfl, Nat.le_of_ble_eq_true rfl⟩) (x_pv (w := (wM G B)) (a := 0) hW hX hK hE hS [.int (20)] (Nat.le_of_ble_eq_true rfl) (shM_0 (G := G) (B := B)) rfl) rfl rfl hl.1 rfl (lv_room (Nat.le_of_ble_eq_true rfl)) dX8_mark_65 ⟨Nat.zero_le _, Nat.zero_le _⟩) hS (fun x_21 H_19 lo_20 h_65 hX hS => ?_)
    try dsimp only at h_65
    have P65 : x_21 = pushRL x k [23, 20] := by rw [h_65, if_pos (by omega), P59]; rfl
    have K65 : x_21 0 12 = nI (k + 2) := by rw [P65]; exact pushRL_len k [23, 20] x hk
    have M65 : x_21 5 = x 5 := by rw [P65]; exact pushRL_off k _ x _ (by decide) (by decide)
    refine lv_iload_n hx hb dX8_mark_68 rfl (lv_at hl 1 rfl) ?_
    refine lv_aload_n hx hb dX8_mark_69 rfl (lv_at hl 0 rfl) ?_
    refine lv_iload_n hx hb dX8_mark_70 rfl (lv_at hl 1 rfl) ?_
    refine x_if (w := (wM G B)) (va_runV (As := [.int (nI ml)]) (rest := [.int (nI ml)]) ⟨hx, hb, hml, hown, hts⟩ (c_X8_sizeOfWater (l := l) (G := G) (B := B) (hW := hW) (x := x_21) (ml := ml) (k := k + 2) (hk := K65) (hk16 := (by omega)) (hml9 := (by omega))) (cwV 1 hts gX8_mark_X8_sizeOfWater rfl rfl rfl (by decide +kernel) ⟨Nat.le_of_ble_eq_true rfl, Nat.le_of_ble_eq_true rfl⟩) (x_pv (w := (wM G B)) (a := 0) hW hX hK hE hS [.int (nI ml)] (Nat.le_of_ble_eq_true rfl) (shM_0 (G := G) (B := B)) rfl) rfl rfl hl.1 rfl (lv_room (Nat.le_of_ble_eq_true rfl)) dX8_mark_71 ⟨Nat.zero_le _, Nat.zero_le _⟩) hS (fun r_24 x_25 H_22 lo_23 h_71 hX hS => ?_)
    try dsimp only at h_71
    refine lv_iadd hx hb dX8_mark_74 ?_
    rw [← hQ]
    refine x_iret (v := nI ml + r_24) hx hb hr hX hS hlocks dX8_mark_75 ?_
    rw [hk9]
    have V9 := h_71.1
    rw [M65] at V9
    exact ⟨congrArg (fun z => nI ml + z) V9, by rw [h_71.2, P65]; rfl⟩
  have w_9_0 : ¬ nI kk = 2 := by rw [← ey_1]; exact c_2
  have w_9_1 : ¬ nI kk = 3 := by rw [← ey_1]; exact c_7
  have w_9_2 : ¬ nI kk = 4 := by rw [← ey_1]; exact c_15
  have hk9 : kk ≠ 2 ∧ kk ≠ 3 ∧ kk ≠ 4 := ⟨fun z => w_9_0 (by rw [z]; rfl), fun z => w_9_1 (by rw [z]; rfl), fun z => w_9_2 (by rw [z]; rfl)⟩
  refine lv_tableOut (tgt := 76) hx hb dX8_mark_9 (ts_out (fun k h1 h2 => by
    have h3 : k = 2 ∨ k = 3 ∨ k = 4 := by omega
    rcases h3 with rfl | rfl | rfl
    · exact c_2
    · exact c_7
    · exact c_15
    )) (by decide) ?_
  refine lv_aload_n hx hb dX8_mark_76 rfl (lv_at hl 0 rfl) ?_
  refine lv_iload_n hx hb dX8_mark_77 rfl (lv_at hl 1 rfl) ?_
  refine x_if (w := (wM G B)) (va_runV (As := [.int (nI ml)]) (rest := []) ⟨hx, hb, hml, hown, hts⟩ (c_X8_markOfFixed (l := l) (G := G) (B := B) (hW := hW) (x := x) (ml := ml) (k := k) (hk := hk) (hk16 := (by omega)) (hml9 := (by omega))) (cwV 1 hts gX8_mark_X8_markOfFixed rfl rfl rfl (by decide +kernel) ⟨Nat.le_of_ble_eq_true rfl, Nat.le_of_ble_eq_true rfl⟩) (x_pv (w := (wM G B)) (a := 0) hW hX hK hE hS [.int (nI ml)] (Nat.le_of_ble_eq_true rfl) (shM_0 (G := G) (B := B)) rfl) rfl rfl hl.1 rfl (lv_room (Nat.le_of_ble_eq_true rfl)) dX8_mark_78 ⟨Nat.zero_le _, Nat.zero_le _⟩) hS (fun r_28 x_29 H_26 lo_27 h_78 hX hS => ?_)
  try dsimp only at h_78
  rw [← hQ]
  refine x_iret (v := r_28) hx hb hr hX hS hlocks dX8_mark_81 ?_
  have e9 : kk = 1 ∨ kk = 5 := by omega
  rcases e9 with e9 | e9 <;> rw [e9] <;> exact ⟨h_78.1, h_78.2⟩

abbrev rmX8_sizeOfFixed : Room := { frames := 4, cells := 0, slots := 0, locals := 85 }
set_option maxHeartbeats 4000000 in
set_option maxRecDepth 100000 in
theorem c_X8_sizeOfFixed (l : Launch) (G : GG) (B : Nat) (hW : WOK (wM G B)) (x : Mem) {ml : Nat} {k : Nat} {kk : Nat} (hk : x 0 12 = nI k) (hk16 : k + 6 ≤ 16) (hml9 : ml < 8) (hkd : x 5 (85 + ml) = nI kk) (hk1 : 1 ≤ kk) (hk6 : kk < 6) : Met l yX8_sizeOfFixed wsX8_sizeOfFixed rmX8_sizeOfFixed (XP G (wM G B) [.ref (B + (0)), .int (nI ml)] x) (va_Qi (fun r u => r = sF (x 5) ml 4 + markV (mR (x 5) ml) kk ∧ u = pushRL x k (11 :: 10 :: markT kk)) (XB G (wM G B)) (blkA B (B + 13))) 0 0 (blkA B (B + 13)) := by
  refine Met.ofW (cc := cX8_sizeOfFixed) (maxL := 2) (ret := (some .int)) (by decide) rfl ?_
  intro pp ee ss mm aa bb mt cd s1 Bd hml hv
  obtain ⟨hae, hX, hK, hE⟩ := hv
  have hx := Bd.exec
  have hb := Bd.bytes
  have hr := Bd.returns
  have hts := atoms_spec (ws := wsX8_sizeOfFixed) Bd.pre
  have hown : ss.vm.findClass RX8 = some mm.cls := findClass_of_methodNamed Bd.named
  have hlocks := Bd.notSynchronized
  have hS : va_S (blkA B (B + 13)) ss.heap ss.heap [] := va_S.rf
  have hl := lv_entry ([.ref (B + (0)), .int (nI ml)]) (n := 2) (Nat.le_of_ble_eq_true rfl)
  subst hae
  rw [lg_entry_eq]
  generalize (lg_sl ([.ref (B + (0)), .int (nI ml)]) ++ List.replicate (2 - (lg_sl ([.ref (B + (0)), .int (nI ml)])).length) Slot.unset).toArray = ls at hl ⊢
  have hl : lv_has ls 2 [(0, .ref (B + (0))), (1, .int (nI ml))] := hl
  generalize ([.ref (B + (0)), .int (nI ml)] : List Value).toArray = aa at hts ⊢
  show W pp l ee rmX8_sizeOfFixed ss mm aa bb mt cd ss.heap [] 0 0 _ (F0 mm 0 ls [])
  generalize hQ : MQ bb (va_Qi (fun r u => r = sF (x 5) ml 4 + markV (mR (x 5) ml) kk ∧ u = pushRL x k (11 :: 10 :: markT kk)) (XB G (wM G B)) (blkA B (B + 13))) aa ss 0 0 (blkA B (B + 13)) = Q
  refine lv_aload_n hx hb dX8_sizeOfFixed_0 rfl (lv_at hl 0 rfl) ?_
  refine lv_bipush (v := 11) hx hb dX8_sizeOfFixed_1 (by decide) ?_
  refine x_vf (w := (wM G B)) (va_runV (As := [.int (11)]) (rest := []) ⟨hx, hb, hml, hown, hts⟩ (c_X8_leave (l := l) (G := G) (B := B) (hW := hW) (x := x) (b := 11) (k := k) (hk := hk) (hk16 := (by omega))) (cwV 1 hts gX8_sizeOfFixed_X8_leave rfl rfl rfl (by decide +kernel) ⟨Nat.le_of_ble_eq_true rfl, Nat.le_of_ble_eq_true rfl⟩) (x_pv (w := (wM G B)) (a := 0) hW hX hK hE hS [.int (11)] (Nat.le_of_ble_eq_true rfl) (shM_0 (G := G) (B := B)) rfl) rfl rfl hl.1 rfl (lv_room (Nat.le_of_ble_eq_true rfl)) dX8_sizeOfFixed_3 ⟨Nat.zero_le _, Nat.zero_le _⟩) hS (fun x_3 H_1 lo_2 h_3 hX hS => ?_)
  try dsimp only at h_3
  have P3 : x_3 = pushRL x k [11] := by rw [h_3, if_pos (by omega)]; rfl
  have K3 : x_3 0 12 = nI (k + 1) := by rw [P3]; exact pushRL_len k [11] x hk
  have M3 : x_3 5 = x 5 := by rw [P3]; exact pushRL_off k _ x _ (by decide) (by decide)
  refine lv_aload_n hx hb dX8_sizeOfFixed_6 rfl (lv_at hl 0 rfl) ?_
  refine lv_iload_n hx hb dX8_sizeOfFixed_7 rfl (lv_at hl 1 rfl) ?_
  refine x_if (w := (wM G B)) (va_runV (As := [.int (nI ml)]) (rest := []) ⟨hx, hb, hml, hown, hts⟩ (c_X8_sizeOfMill (l := l) (G := G) (B := B) (hW := hW) (x := x_3) (ml := ml) (k := k + 1) (hk := K3) (hk16 := (by omega)) (hml9 := (by omega))) (cwV 1 hts gX8_sizeOfFixed_X8_sizeOfMill rfl rfl rfl (by decide +kernel) ⟨Nat.le_of_ble_eq_true rfl, Nat.le_of_ble_eq_true rfl⟩) (x_pv (w := (wM G B)) (a := 0) hW hX hK hE hS [.int (nI ml)] (Nat.le_of_ble_eq_true rfl) (shM_0 (G := G) (B := B)) rfl) rfl rfl hl.1 rfl (lv_room (Nat.le_of_ble_eq_true rfl)) dX8_sizeOfFixed_8 ⟨Nat.zero_le _, Nat.zero_le _⟩) hS (fun r_6 x_7 H_4 lo_5 h_8 hX hS => ?_)
  try dsimp only at h_8
  have P8 : x_7 = pushRL x k ([11, 10]) := by rw [h_8.2, P3]; exact (pushRL_app x k [11] ([10])).symm
  have V8 := h_8.1
  rw [M3] at V8
  have K8 : x_7 0 12 = nI (k + 2) := by rw [P8]; exact pushRL_len k [11, 10] x hk
  have M8 : x_7 5 = x 5 := by rw [P8]; exact pushRL_off k _ x _ (by decide) (by decide)
  refine lv_aload_n hx hb dX8_sizeOfFixed_11 rfl (lv_at hl 0 rfl) ?_
  refine lv_iload_n hx hb dX8_sizeOfFixed_12 rfl (lv_at hl 1 rfl) ?_
  refine x_if (w := (wM G B)) (va_runV (As := [.int (nI ml)]) (rest := [.int (r_6)]) ⟨hx, hb, hml, hown, hts⟩ (c_X8_mark (l := l) (G := G) (B := B) (hW := hW) (x := x_7) (ml := ml) (k := k + 2) (kk := kk) (hk := K8) (hk16 := (by omega)) (hml9 := (by omega)) (hkd := (by rw [M8]; exact hkd)) (hk1 := hk1) (hk6 := hk6)) (cwV 1 hts gX8_sizeOfFixed_X8_mark rfl rfl rfl (by decide +kernel) ⟨Nat.le_of_ble_eq_true rfl, Nat.le_of_ble_eq_true rfl⟩) (x_pv (w := (wM G B)) (a := 0) hW hX hK hE hS [.int (nI ml)] (Nat.le_of_ble_eq_true rfl) (shM_0 (G := G) (B := B)) rfl) rfl rfl hl.1 rfl (lv_room (Nat.le_of_ble_eq_true rfl)) dX8_sizeOfFixed_13 ⟨Nat.zero_le _, Nat.zero_le _⟩) hS (fun r_10 x_11 H_8 lo_9 h_13 hX hS => ?_)
  try dsimp only at h_13
  have P13 : x_11 = pushRL x k (11 :: 10 :: markT kk) := by rw [h_13.2, P8]; exact (pushRL_app x k [11, 10] (markT kk)).symm
  have V13 := h_13.1
  rw [M8] at V13
  refine lv_iadd hx hb dX8_sizeOfFixed_16 ?_
  rw [← hQ]
  refine x_iret (v := r_6 + r_10) hx hb hr hX hS hlocks dX8_sizeOfFixed_17 ?_
  exact ⟨by rw [V8, V13], P13⟩

theorem kX8_size_22 : (.fieldLink RX8 22 "WindTakenModel" "now" "[I" : Cond) ∈ wsX8_size := by decide +kernel
theorem iX8_size_X8 : ∀ w ∈ wsX80, w ∈ wsX8_size := by decide +kernel
abbrev rmX8_size : Room := { frames := 5, cells := 0, slots := 0, locals := 106 }
set_option maxHeartbeats 4000000 in
set_option maxRecDepth 100000 in
theorem c_X8_size (l : Launch) (G : GG) (B : Nat) (hW : WOK (wM G B)) (x : Mem) {ml : Nat} {k : Nat} {kk : Nat} (hk : x 0 12 = nI k) (hk16 : k + 7 ≤ 16) (hml9 : ml < 8) (hkd : x 5 (85 + ml) = nI kk) (hk1 : 1 ≤ kk) (hk6 : kk < 6) : Met l yX8_size wsX8_size rmX8_size (XP G (wM G B) [.ref (B + (0)), .int (nI ml)] x) (va_Qi (fun r u => r = sizeV (mR (x 5) ml) kk ∧ u = pushRL x k (sizeT kk)) (XB G (wM G B)) (blkA B (B + 13))) 0 0 (blkA B (B + 13)) := by
  refine Met.ofW (cc := cX8_size) (maxL := 2) (ret := (some .int)) (by decide) rfl ?_
  intro pp ee ss mm aa bb mt cd s1 Bd hml hv
  obtain ⟨hae, hX, hK, hE⟩ := hv
  have hx := Bd.exec
  have hb := Bd.bytes
  have hr := Bd.returns
  have hts := atoms_spec (ws := wsX8_size) Bd.pre
  have hown : ss.vm.findClass RX8 = some mm.cls := findClass_of_methodNamed Bd.named
  have hlocks := Bd.notSynchronized
  have hS : va_S (blkA B (B + 13)) ss.heap ss.heap [] := va_S.rf
  have hl := lv_entry ([.ref (B + (0)), .int (nI ml)]) (n := 2) (Nat.le_of_ble_eq_true rfl)
  subst hae
  rw [lg_entry_eq]
  generalize (lg_sl ([.ref (B + (0)), .int (nI ml)]) ++ List.replicate (2 - (lg_sl ([.ref (B + (0)), .int (nI ml)])).length) Slot.unset).toArray = ls at hl ⊢
  have hl : lv_has ls 2 [(0, .ref (B + (0))), (1, .int (nI ml))] := hl
  generalize ([.ref (B + (0)), .int (nI ml)] : List Value).toArray = aa at hts ⊢
  show W pp l ee rmX8_size ss mm aa bb mt cd ss.heap [] 0 0 _ (F0 mm 0 ls [])
  generalize hQ : MQ bb (va_Qi (fun r u => r = sizeV (mR (x 5) ml) kk ∧ u = pushRL x k (sizeT kk)) (XB G (wM G B)) (blkA B (B + 13))) aa ss 0 0 (blkA B (B + 13)) = Q
  refine lv_aload_n hx hb dX8_size_0 rfl (lv_at hl 0 rfl) ?_
  refine x_get (w := (wM G B)) (a := 0) (v := .ref (B + (5))) hx hb hts iX8_size_X8 hown hK hX (Nat.le_of_ble_eq_true rfl) (shM_0 (G := G) (B := B)) rfl 7 (by decide) (hts _ kX8_size_22) (fun _ h9 => h9) rfl dX8_size_1 ?_
  refine lv_bipush (v := 85) hx hb dX8_size_4 (by decide) ?_
  refine lv_iload_n hx hb dX8_size_6 rfl (lv_at hl 1 rfl) ?_
  refine lv_iadd hx hb dX8_size_7 ?_
  refine x_iald (w := (wM G B)) (a := 5) (n := 93) (j := 85 + ml) hx hb hK hX (Nat.le_of_ble_eq_true rfl) (shM_a (G := G) (B := B) (a := 5) (f := x (5)) (by decide)) (n_add rfl rfl) (by omega) (by decide) dX8_size_8 ?_
  refine W.eq (g2 := F0 mm 9 ls [.int (nI kk)]) (congrArg (fun z9 : Int32 => F0 mm 9 ls [.int (z9)]) hkd) ?_
  refine lv_topi (fun y_1 ey_1 => ?_)
  by_cases c_2 : y_1 = 3
  · subst c_2
    refine lv_tableIn (tgt := 36) (off := 27) hx hb dX8_size_9 (by decide) (by decide) rfl (by decide) ?_
    have w_9 : nI kk = 3 := ey_1.symm
    have hk9 : kk = 3 := (n_eq (a := kk) (b := 3) rfl rfl (by omega) (by decide)).mp w_9
    refine lv_aload_n hx hb dX8_size_36 rfl (lv_at hl 0 rfl) ?_
    refine lv_bipush (v := 12) hx hb dX8_size_37 (by decide) ?_
    refine x_vf (w := (wM G B)) (va_runV (As := [.int (12)]) (rest := []) ⟨hx, hb, hml, hown, hts⟩ (c_X8_leave (l := l) (G := G) (B := B) (hW := hW) (x := x) (b := 12) (k := k) (hk := hk) (hk16 := (by omega))) (cwV 1 hts gX8_size_X8_leave rfl rfl rfl (by decide +kernel) ⟨Nat.le_of_ble_eq_true rfl, Nat.le_of_ble_eq_true rfl⟩) (x_pv (w := (wM G B)) (a := 0) hW hX hK hE hS [.int (12)] (Nat.le_of_ble_eq_true rfl) (shM_0 (G := G) (B := B)) rfl) rfl rfl hl.1 rfl (lv_room (Nat.le_of_ble_eq_true rfl)) dX8_size_39 ⟨Nat.zero_le _, Nat.zero_le _⟩) hS (fun x_5 H_3 lo_4 h_39 hX hS => ?_)
    try dsimp only at h_39
    have P39 : x_5 = pushRL x k [12] := by rw [h_39, if_pos (by omega)]; rfl
    have K39 : x_5 0 12 = nI (k + 1) := by rw [P39]; exact pushRL_len k [12] x hk
    have M39 : x_5 5 = x 5 := by rw [P39]; exact pushRL_off k _ x _ (by decide) (by decide)
    refine lv_aload_n hx hb dX8_size_42 rfl (lv_at hl 0 rfl) ?_
    refine lv_iload_n hx hb dX8_size_43 rfl (lv_at hl 1 rfl) ?_
    refine x_if (w := (wM G B)) (va_runV (As := [.int (nI ml)]) (rest := []) ⟨hx, hb, hml, hown, hts⟩ (c_X8_sizeOfFixed (l := l) (G := G) (B := B) (hW := hW) (x := x_5) (ml := ml) (k := k + 1) (kk := kk) (hk := K39) (hk16 := (by omega)) (hml9 := (by omega)) (hkd := (by rw [M39]; exact hkd)) (hk1 := hk1) (hk6 := hk6)) (cwV 1 hts gX8_size_X8_sizeOfFixed rfl rfl rfl (by decide +kernel) ⟨Nat.le_of_ble_eq_true rfl, Nat.le_of_ble_eq_true rfl⟩) (x_pv (w := (wM G B)) (a := 0) hW hX hK hE hS [.int (nI ml)] (Nat.le_of_ble_eq_true rfl) (shM_0 (G := G) (B := B)) rfl) rfl rfl hl.1 rfl (lv_room (Nat.le_of_ble_eq_true rfl)) dX8_size_44 ⟨Nat.zero_le _, Nat.zero_le _⟩) hS (fun r_8 x_9 H_6 lo_7 h_44 hX hS => ?_)
    try dsimp only at h_44
    refine lv_ineg hx hb dX8_size_47 ?_
    rw [← hQ]
    refine x_iret (v := -r_8) hx hb hr hX hS hlocks dX8_size_48 ?_
    have V9 := h_44.1
    have U9 := h_44.2
    rw [M39] at V9
    rw [hk9] at V9 U9 ⊢
    refine ⟨?_, ?_⟩
    · rw [V9, sz_3, mR_8]
    · rw [U9, P39, sT_3]; exact (pushRL_app x k [12] (11 :: 10 :: markT 3)).symm
  by_cases c_10 : y_1 = 4
  · subst c_10
    refine lv_tableIn (tgt := 49) (off := 40) hx hb dX8_size_9 (by decide) (by decide) rfl (by decide) ?_
    have w_9 : nI kk = 4 := ey_1.symm
    have hk9 : kk = 4 := (n_eq (a := kk) (b := 4) rfl rfl (by omega) (by decide)).mp w_9
    refine lv_aload_n hx hb dX8_size_49 rfl (lv_at hl 0 rfl) ?_
    refine lv_iload_n hx hb dX8_size_50 rfl (lv_at hl 1 rfl) ?_
    refine x_if (w := (wM G B)) (va_runV (As := [.int (nI ml)]) (rest := []) ⟨hx, hb, hml, hown, hts⟩ (c_X8_sizeOfWater (l := l) (G := G) (B := B) (hW := hW) (x := x) (ml := ml) (k := k) (hk := hk) (hk16 := (by omega)) (hml9 := (by omega))) (cwV 1 hts gX8_size_X8_sizeOfWater rfl rfl rfl (by decide +kernel) ⟨Nat.le_of_ble_eq_true rfl, Nat.le_of_ble_eq_true rfl⟩) (x_pv (w := (wM G B)) (a := 0) hW hX hK hE hS [.int (nI ml)] (Nat.le_of_ble_eq_true rfl) (shM_0 (G := G) (B := B)) rfl) rfl rfl hl.1 rfl (lv_room (Nat.le_of_ble_eq_true rfl)) dX8_size_51 ⟨Nat.zero_le _, Nat.zero_le _⟩) hS (fun r_13 x_14 H_11 lo_12 h_51 hX hS => ?_)
    try dsimp only at h_51
    rw [← hQ]
    refine x_iret (v := r_13) hx hb hr hX hS hlocks dX8_size_54 ?_
    rw [hk9]
    exact ⟨h_51.1, h_51.2⟩
  by_cases c_15 : y_1 = 5
  · subst c_15
    refine lv_tableIn (tgt := 55) (off := 46) hx hb dX8_size_9 (by decide) (by decide) rfl (by decide) ?_
    have w_9 : nI kk = 5 := ey_1.symm
    have hk9 : kk = 5 := (n_eq (a := kk) (b := 5) rfl rfl (by omega) (by decide)).mp w_9
    refine lv_aload_n hx hb dX8_size_55 rfl (lv_at hl 0 rfl) ?_
    refine lv_bipush (v := 14) hx hb dX8_size_56 (by decide) ?_
    refine x_vf (w := (wM G B)) (va_runV (As := [.int (14)]) (rest := []) ⟨hx, hb, hml, hown, hts⟩ (c_X8_leave (l := l) (G := G) (B := B) (hW := hW) (x := x) (b := 14) (k := k) (hk := hk) (hk16 := (by omega))) (cwV 1 hts gX8_size_X8_leave rfl rfl rfl (by decide +kernel) ⟨Nat.le_of_ble_eq_true rfl, Nat.le_of_ble_eq_true rfl⟩) (x_pv (w := (wM G B)) (a := 0) hW hX hK hE hS [.int (14)] (Nat.le_of_ble_eq_true rfl) (shM_0 (G := G) (B := B)) rfl) rfl rfl hl.1 rfl (lv_room (Nat.le_of_ble_eq_true rfl)) dX8_size_58 ⟨Nat.zero_le _, Nat.zero_le _⟩) hS (fun x_18 H_16 lo_17 h_58 hX hS => ?_)
    try dsimp only at h_58
    have P58 : x_18 = pushRL x k [14] := by rw [h_58, if_pos (by omega)]; rfl
    have K58 : x_18 0 12 = nI (k + 1) := by rw [P58]; exact pushRL_len k [14] x hk
    have M58 : x_18 5 = x 5 := by rw [P58]; exact pushRL_off k _ x _ (by decide) (by decide)
    refine lv_iconst (v := 2) hx hb dX8_size_61 (by decide) ?_
    refine lv_aload_n hx hb dX8_size_62 rfl (lv_at hl 0 rfl) ?_
    refine lv_iload_n hx hb dX8_size_63 rfl (lv_at hl 1 rfl) ?_
    refine x_if (w := (wM G B)) (va_runV (As := [.int (nI ml)]) (rest := [.int (2)]) ⟨hx, hb, hml, hown, hts⟩ (c_X8_sizeOfFixed (l := l) (G := G) (B := B) (hW := hW) (x := x_18) (ml := ml) (k := k + 1) (kk := kk) (hk := K58) (hk16 := (by omega)) (hml9 := (by omega)) (hkd := (by rw [M58]; exact hkd)) (hk1 := hk1) (hk6 := hk6)) (cwV 1 hts gX8_size_X8_sizeOfFixed rfl rfl rfl (by decide +kernel) ⟨Nat.le_of_ble_eq_true rfl, Nat.le_of_ble_eq_true rfl⟩) (x_pv (w := (wM G B)) (a := 0) hW hX hK hE hS [.int (nI ml)] (Nat.le_of_ble_eq_true rfl) (shM_0 (G := G) (B := B)) rfl) rfl rfl hl.1 rfl (lv_room (Nat.le_of_ble_eq_true rfl)) dX8_size_64 ⟨Nat.zero_le _, Nat.zero_le _⟩) hS (fun r_21 x_22 H_19 lo_20 h_64 hX hS => ?_)
    try dsimp only at h_64
    refine lv_imul hx hb dX8_size_67 ?_
    rw [← hQ]
    refine x_iret (v := 2 * r_21) hx hb hr hX hS hlocks dX8_size_68 ?_
    have V9 := h_64.1
    have U9 := h_64.2
    rw [M58] at V9
    rw [hk9] at V9 U9 ⊢
    refine ⟨?_, ?_⟩
    · rw [V9, sz_5, mR_8]
    · rw [U9, P58, sT_5]; exact (pushRL_app x k [14] (11 :: 10 :: markT 5)).symm
  have w_9_0 : ¬ nI kk = 3 := by rw [← ey_1]; exact c_2
  have w_9_1 : ¬ nI kk = 4 := by rw [← ey_1]; exact c_10
  have w_9_2 : ¬ nI kk = 5 := by rw [← ey_1]; exact c_15
  have hk9 : kk ≠ 3 ∧ kk ≠ 4 ∧ kk ≠ 5 := ⟨fun z => w_9_0 (by rw [z]; rfl), fun z => w_9_1 (by rw [z]; rfl), fun z => w_9_2 (by rw [z]; rfl)⟩
  refine lv_tableOut (tgt := 69) hx hb dX8_size_9 (ts_out (fun k h1 h2 => by
    have h3 : k = 3 ∨ k = 4 ∨ k = 5 := by omega
    rcases h3 with rfl | rfl | rfl
    · exact c_2
    · exact c_10
    · exact c_15
    )) (by decide) ?_
  refine lv_aload_n hx hb dX8_size_69 rfl (lv_at hl 0 rfl) ?_
  refine lv_iload_n hx hb dX8_size_70 rfl (lv_at hl 1 rfl) ?_
  refine x_if (w := (wM G B)) (va_runV (As := [.int (nI ml)]) (rest := []) ⟨hx, hb, hml, hown, hts⟩ (c_X8_sizeOfFixed (l := l) (G := G) (B := B) (hW := hW) (x := x) (ml := ml) (k := k) (kk := kk) (hk := hk) (hk16 := (by omega)) (hml9 := (by omega)) (hkd := hkd) (hk1 := hk1) (hk6 := hk6)) (cwV 1 hts gX8_size_X8_sizeOfFixed rfl rfl rfl (by decide +kernel) ⟨Nat.le_of_ble_eq_true rfl, Nat.le_of_ble_eq_true rfl⟩) (x_pv (w := (wM G B)) (a := 0) hW hX hK hE hS [.int (nI ml)] (Nat.le_of_ble_eq_true rfl) (shM_0 (G := G) (B := B)) rfl) rfl rfl hl.1 rfl (lv_room (Nat.le_of_ble_eq_true rfl)) dX8_size_71 ⟨Nat.zero_le _, Nat.zero_le _⟩) hS (fun r_25 x_26 H_23 lo_24 h_71 hX hS => ?_)
  try dsimp only at h_71
  rw [← hQ]
  refine x_iret (v := r_25) hx hb hr hX hS hlocks dX8_size_74 ?_
  have e9 : kk = 1 ∨ kk = 2 := by omega
  refine ⟨?_, ?_⟩
  · rw [h_71.1, sz_1 _ e9, mR_8]
  · rw [h_71.2, sT_1 e9]

def PT_X8_ask (x : Mem) (m : Int32) (w : Int32) (n : Nat) (r : Int32) (u : Mem) : Prop := (if (decide (0 ≤ m) && decide (m < nI n)) = false then (r = (-1000001) ∧ u = x) else (if (decide (((0 : Int32)) ≤ ((w : Int32))) && decide (((w : Int32)) ≤ ((1 : Int32)))) = true then (if w = 0 then (r = sizeV (mR (x 5) (tn m)) (tn (x 5 (85 + tn m))) ∧ u = pushRL (mst x 0 12 0) 0 (sizeT (tn (x 5 (85 + tn m))))) else (r = markV (mR (x 5) (tn m)) (tn (x 5 (85 + tn m))) ∧ u = pushRL (mst x 0 12 0) 0 (markT (tn (x 5 (85 + tn m)))))) else (r = (-1000001) ∧ u = x)))
theorem kX8_ask_63 : (.constant RX8 63 (-1000001) : Cond) ∈ wsX8_ask := by decide +kernel
theorem kX8_ask_268 : (.fieldLink RX8 268 "WindTakenModel" "traced" "I" : Cond) ∈ wsX8_ask := by decide +kernel
theorem iX8_ask_X8 : ∀ w ∈ wsX80, w ∈ wsX8_ask := by decide +kernel
abbrev rmX8_ask : Room := { frames := 6, cells := 0, slots := 0, locals := 127 }
set_option maxHeartbeats 4000000 in
set_option maxRecDepth 100000 in
theorem c_X8_ask (l : Launch) (G : GG) (B : Nat) (hW : WOK (wM G B)) (x : Mem) (m : Int32) (w : Int32) {n : Nat} (hN : x 5 0 = nI n) (hn8 : n ≤ 8) (hkk : ∀ j, j < n → ∃ k, 1 ≤ k ∧ k < 6 ∧ sK (x 5) j = nI k) : Met l yX8_ask wsX8_ask rmX8_ask (XP G (wM G B) [.ref (B + (0)), .int (m), .int (w)] x) (va_Qi (fun r u => PT_X8_ask x m w n r u) (XB G (wM G B)) (blkA B (B + 13))) 0 0 (blkA B (B + 13)) := by
  refine Met.ofW (cc := cX8_ask) (maxL := 3) (ret := (some .int)) (by decide) rfl ?_
  intro pp ee ss mm aa bb mt cd s1 Bd hml hv
  obtain ⟨hae, hX, hK, hE⟩ := hv
  have hx := Bd.exec
  have hb := Bd.bytes
  have hr := Bd.returns
  have hts := atoms_spec (ws := wsX8_ask) Bd.pre
  have hown : ss.vm.findClass RX8 = some mm.cls := findClass_of_methodNamed Bd.named
  have hlocks := Bd.notSynchronized
  have hS : va_S (blkA B (B + 13)) ss.heap ss.heap [] := va_S.rf
  have hl := lv_entry ([.ref (B + (0)), .int (m), .int (w)]) (n := 3) (Nat.le_of_ble_eq_true rfl)
  subst hae
  rw [lg_entry_eq]
  generalize (lg_sl ([.ref (B + (0)), .int (m), .int (w)]) ++ List.replicate (3 - (lg_sl ([.ref (B + (0)), .int (m), .int (w)])).length) Slot.unset).toArray = ls at hl ⊢
  have hl : lv_has ls 3 [(0, .ref (B + (0))), (1, .int (m)), (2, .int (w))] := hl
  generalize ([.ref (B + (0)), .int (m), .int (w)] : List Value).toArray = aa at hts ⊢
  show W pp l ee rmX8_ask ss mm aa bb mt cd ss.heap [] 0 0 _ (F0 mm 0 ls [])
  generalize hQ : MQ bb (va_Qi (fun r u => PT_X8_ask x m w n r u) (XB G (wM G B)) (blkA B (B + 13))) aa ss 0 0 (blkA B (B + 13)) = Q
  refine lv_aload_n hx hb dX8_ask_0 rfl (lv_at hl 0 rfl) ?_
  refine lv_iload_n hx hb dX8_ask_1 rfl (lv_at hl 1 rfl) ?_
  refine x_ip (w := (wM G B)) (x := x) (v := bI (decide (0 ≤ m) && decide (m < nI n))) (va_runV (As := [.int (m)]) (rest := []) ⟨hx, hb, hml, hown, hts⟩ (c_X8_isMill (l := l) (G := G) (B := B) (hW := hW) (x := x) (v := m) (n := n) (hN := hN) (hn8 := hn8)) (cwV 1 hts gX8_ask_X8_isMill rfl rfl rfl (by decide +kernel) ⟨Nat.le_of_ble_eq_true rfl, Nat.le_of_ble_eq_true rfl⟩) (x_pv (w := (wM G B)) (a := 0) hW hX hK hE hS [.int (m)] (Nat.le_of_ble_eq_true rfl) (shM_0 (G := G) (B := B)) rfl) rfl rfl hl.1 rfl (lv_room (Nat.le_of_ble_eq_true rfl)) dX8_ask_2 ⟨Nat.zero_le _, Nat.zero_le _⟩) hS (fun H_1 lo_2 hX hS => ?_)
  refine x_ifeq (tgt := 18) hx hb dX8_ask_5 (by decide) (fun c_3 => ?_) (fun c_3 => ?_)
  · refine lv_ldc (v := (-1000001)) hx hb hown (hts _ kX8_ask_63) dX8_ask_18 ?_
    rw [← hQ]
    refine x_iret (v := (-1000001)) hx hb hr hX hS hlocks dX8_ask_20 ?_
    show PT_X8_ask _ _ _ _ _ _
    unfold PT_X8_ask
    rw [if_pos c_3]
    exact ⟨rfl, rfl⟩
  · obtain ⟨hme, hmn⟩ := hasM (c := nI n) rfl hn8 c_3
    obtain ⟨hkx, hkx1, hkx6⟩ := kdN1 (x := x 5 (85 + tn m)) (hkk (tn m) hmn)
    refine lv_iload_n hx hb dX8_ask_8 rfl (lv_at hl 2 rfl) ?_
    refine lv_i2l (v := (w : Int32).toInt64) hx hb dX8_ask_9 rfl ?_
    refine lv_lconst (v := 0) hx hb dX8_ask_10 (by decide) ?_
    refine lv_lconst (v := 1) hx hb dX8_ask_11 (by decide) ?_
    refine x_ip (w := (wM G B)) (x := x) (v := bI (decide (((0 : Int32)) ≤ ((w : Int32))) && decide (((w : Int32)) ≤ ((1 : Int32))))) (va_runS (As := [.long ((w : Int32).toInt64), .long (0), .long (1)]) (rest := []) ⟨hx, hb, hml, hown, hts⟩ (c_X8_in (l := l) (G := G) (B := B) (hW := hW) (x := x) (va := (w : Int32).toInt64) (vb := 0) (vc := 1) (v1 := (w : Int32)) (lo1 := (0 : Int32)) (hi1 := (1 : Int32)) (hv := (by first | rfl | decide)) (hlo := (by first | rfl | decide)) (hhi := (by first | rfl | decide))) (va_cwS 3 hts gX8_ask_X8_in rfl rfl rfl (by decide +kernel) ⟨Nat.le_of_ble_eq_true rfl, Nat.le_of_ble_eq_true rfl⟩) (x_ps (w := (wM G B)) hW hX hK hE hS [.long ((w : Int32).toInt64), .long (0), .long (1)]) rfl rfl hl.1 rfl (lv_room (Nat.le_of_ble_eq_true rfl)) dX8_ask_12 ⟨Nat.zero_le _, Nat.zero_le _⟩) hS (fun H_4 lo_5 hX hS => ?_)
    refine x_ifne (tgt := 21) hx hb dX8_ask_15 (by decide) (fun c_6 => ?_) (fun c_6 => ?_)
    · refine lv_aload_n hx hb dX8_ask_21 rfl (lv_at hl 0 rfl) ?_
      refine lv_iconst (v := 0) hx hb dX8_ask_22 (by decide) ?_
      refine x_put (w := (wM G B)) (a := 0) (v := 0) (ty := .int) hx hb hts iX8_ask_X8 tyX8 tyX8_ok nmX8 hown hK hW hX hS (Nat.le_of_ble_eq_true rfl) (shM_0 (G := G) (B := B)) rfl 12 (by decide) (hts _ kX8_ask_268) (fun _ h9 => h9) rfl (by decide +kernel) rfl rfl (Nat.le_of_ble_eq_true rfl) (shM_0 (G := G) (B := B)) dX8_ask_23 (fun H_8 lo_9 hX hS => ?_)
      obtain ⟨x_7, ex_7⟩ : ∃ z, z = mst x (0) 12 (0) := ⟨_, rfl⟩
      rw [← ex_7] at hX
      have z_10 : x_7 (0) 12 = nI (0) := by rw [ex_7, mst_self]; first | done | exact rfl
      have hM5 : x_7 5 = x 5 := by rw [ex_7]; exact mst_ne (by decide)
      have hk0 : x_7 0 12 = nI 0 := by rw [ex_7, mst_self]; rfl
      have hkx9 : x_7 5 (85 + tn m) = nI (tn (x 5 (85 + tn m))) := by rw [hM5]; exact hkx
      refine lv_iload_n hx hb dX8_ask_26 rfl (lv_at hl 2 rfl) ?_
      refine lv_if_ne (tgt := 38) hx hb dX8_ask_27 (by decide) (fun c_11 => ?_) (fun c_11 => ?_)
      · refine lv_aload_n hx hb dX8_ask_38 rfl (lv_at hl 0 rfl) ?_
        refine lv_iload_n hx hb dX8_ask_39 rfl (lv_at hl 1 rfl) ?_
        refine W.eq (g2 := F0 mm 40 ls [.int (nI (tn m)), .ref (B + (0))]) (congrArg (fun z9 : Int32 => F0 mm 40 ls [.int (z9), .ref (B + (0))]) hme) ?_
        refine x_if (w := (wM G B)) (va_runV (As := [.int (nI (tn m))]) (rest := []) ⟨hx, hb, hml, hown, hts⟩ (c_X8_mark (l := l) (G := G) (B := B) (hW := hW) (x := x_7) (ml := tn m) (k := 0) (kk := (tn (x 5 (85 + tn m)))) (hk := hk0) (hk16 := (by omega)) (hml9 := (by omega)) (hkd := hkx9) (hk1 := hkx1) (hk6 := hkx6)) (cwV 1 hts gX8_ask_X8_mark rfl rfl rfl (by decide +kernel) ⟨Nat.le_of_ble_eq_true rfl, Nat.le_of_ble_eq_true rfl⟩) (x_pv (w := (wM G B)) (a := 0) hW hX hK hE hS [.int (nI (tn m))] (Nat.le_of_ble_eq_true rfl) (shM_0 (G := G) (B := B)) rfl) rfl rfl hl.1 rfl (lv_room (Nat.le_of_ble_eq_true rfl)) dX8_ask_40 ⟨Nat.zero_le _, Nat.zero_le _⟩) hS (fun r_14 x_15 H_12 lo_13 h_40 hX hS => ?_)
        try dsimp only at h_40
        rw [← hQ]
        refine x_iret (v := r_14) hx hb hr hX hS hlocks dX8_ask_43 ?_
        show PT_X8_ask _ _ _ _ _ _
        unfold PT_X8_ask
        rw [if_neg (ne_of_true c_3), if_pos c_6, if_neg c_11]
        rw [hM5, ex_7] at h_40
        exact h_40
      · refine lv_aload_n hx hb dX8_ask_30 rfl (lv_at hl 0 rfl) ?_
        refine lv_iload_n hx hb dX8_ask_31 rfl (lv_at hl 1 rfl) ?_
        refine W.eq (g2 := F0 mm 32 ls [.int (nI (tn m)), .ref (B + (0))]) (congrArg (fun z9 : Int32 => F0 mm 32 ls [.int (z9), .ref (B + (0))]) hme) ?_
        refine x_if (w := (wM G B)) (va_runV (As := [.int (nI (tn m))]) (rest := []) ⟨hx, hb, hml, hown, hts⟩ (c_X8_size (l := l) (G := G) (B := B) (hW := hW) (x := x_7) (ml := tn m) (k := 0) (kk := (tn (x 5 (85 + tn m)))) (hk := hk0) (hk16 := (by omega)) (hml9 := (by omega)) (hkd := hkx9) (hk1 := hkx1) (hk6 := hkx6)) (cwV 1 hts gX8_ask_X8_size rfl rfl rfl (by decide +kernel) ⟨Nat.le_of_ble_eq_true rfl, Nat.le_of_ble_eq_true rfl⟩) (x_pv (w := (wM G B)) (a := 0) hW hX hK hE hS [.int (nI (tn m))] (Nat.le_of_ble_eq_true rfl) (shM_0 (G := G) (B := B)) rfl) rfl rfl hl.1 rfl (lv_room (Nat.le_of_ble_eq_true rfl)) dX8_ask_32 ⟨Nat.zero_le _, Nat.zero_le _⟩) hS (fun r_18 x_19 H_16 lo_17 h_32 hX hS => ?_)
        try dsimp only at h_32
        refine lv_goto (tgt := 43) hx hb dX8_ask_35 (by decide) ?_
        rw [← hQ]
        refine x_iret (v := r_18) hx hb hr hX hS hlocks dX8_ask_43 ?_
        show PT_X8_ask _ _ _ _ _ _
        unfold PT_X8_ask
        rw [if_neg (ne_of_true c_3), if_pos c_6, if_pos c_11]
        rw [hM5, ex_7] at h_32
        exact h_32
    · refine lv_ldc (v := (-1000001)) hx hb hown (hts _ kX8_ask_63) dX8_ask_18 ?_
      rw [← hQ]
      refine x_iret (v := (-1000001)) hx hb hr hX hS hlocks dX8_ask_20 ?_
      show PT_X8_ask _ _ _ _ _ _
      unfold PT_X8_ask
      rw [if_neg (ne_of_true c_3), if_neg (ne_of_false c_6)]
      exact ⟨rfl, rfl⟩
