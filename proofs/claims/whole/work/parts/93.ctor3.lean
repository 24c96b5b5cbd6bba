theorem kX7_init_oi : (.methodLink RX7 1 objectInit : Cond) ∈ wsX7_init := by decide +kernel
theorem kX7_init_om : (.instanceMethod objectInit : Cond) ∈ wsX7_init := by decide +kernel
theorem kX7_init_oc : (.code objectInit ⟨#[0xb1]⟩ 1 none : Cond) ∈ wsX7_init := by decide +kernel
theorem kX7_init_cl9 : (.classLink RX7 9 RX4 : Cond) ∈ wsX7_init := by decide +kernel
theorem kX7_init_11 : (.fieldLink RX7 11 "WindTaken" "rows" "[LWindTaken$Row;" : Cond) ∈ wsX7_init := by decide +kernel
theorem iX7_init_X7 : ∀ w ∈ wsX70, w ∈ wsX7_init := by decide +kernel
theorem iX7_init_X5 : ∀ w ∈ wsX50, w ∈ wsX7_init := by decide +kernel
theorem kX7_init_cl15 : (.classLink RX7 15 RX5 : Cond) ∈ wsX7_init := by decide +kernel
theorem kX7_init_in5 : (.instantiable RX5 2 : Cond) ∈ wsX7_init := by decide +kernel
theorem kX7_init_ini5 : (.initialized RX5 : Cond) ∈ wsX7_init := by decide +kernel
theorem kX7_init_im_X5_init : (.instanceMethod yX5_init : Cond) ∈ wsX7_init := by decide +kernel
theorem kX7_init_18 : (.fieldLink RX7 18 "WindTaken" "tape" "LWindTaken$Tape;" : Cond) ∈ wsX7_init := by decide +kernel
theorem iX7_init_X2 : ∀ w ∈ wsX20, w ∈ wsX7_init := by decide +kernel
theorem kX7_init_cl22 : (.classLink RX7 22 RX2 : Cond) ∈ wsX7_init := by decide +kernel
theorem kX7_init_in2 : (.instantiable RX2 7 : Cond) ∈ wsX7_init := by decide +kernel
theorem kX7_init_ini2 : (.initialized RX2 : Cond) ∈ wsX7_init := by decide +kernel
theorem kX7_init_im_X2_init : (.instanceMethod yX2_init : Cond) ∈ wsX7_init := by decide +kernel
theorem kX7_init_ml24 : (.methodLink RX7 24 yX2_init : Cond) ∈ wsX7_init := by decide +kernel
theorem kX7_init_27 : (.fieldLink RX7 27 "WindTaken" "reader" "LWindTaken$Reader;" : Cond) ∈ wsX7_init := by decide +kernel
theorem iX7_init_X3 : ∀ w ∈ wsX30, w ∈ wsX7_init := by decide +kernel
theorem kX7_init_cl31 : (.classLink RX7 31 RX3 : Cond) ∈ wsX7_init := by decide +kernel
theorem kX7_init_in3 : (.instantiable RX3 6 : Cond) ∈ wsX7_init := by decide +kernel
theorem kX7_init_ini3 : (.initialized RX3 : Cond) ∈ wsX7_init := by decide +kernel
theorem kX7_init_im_X3_init : (.instanceMethod yX3_init : Cond) ∈ wsX7_init := by decide +kernel
theorem kX7_init_ml33 : (.methodLink RX7 33 yX3_init : Cond) ∈ wsX7_init := by decide +kernel
theorem kX7_init_34 : (.fieldLink RX7 34 "WindTaken" "ridge" "LWindTaken$Ridge;" : Cond) ∈ wsX7_init := by decide +kernel
theorem kX7_init_38 : (.fieldLink RX7 38 "WindTaken" "draft" "LWindTaken$Ridge;" : Cond) ∈ wsX7_init := by decide +kernel
theorem kX7_init_41 : (.fieldLink RX7 41 "WindTaken" "images" "[LWindTaken$Ridge;" : Cond) ∈ wsX7_init := by decide +kernel
theorem kX7_init_cl45 : (.classLink RX7 45 RX1 : Cond) ∈ wsX7_init := by decide +kernel
theorem kX7_init_47 : (.fieldLink RX7 47 "WindTaken" "quarters" "[LWindTaken$Quarter;" : Cond) ∈ wsX7_init := by decide +kernel
theorem iX7_init_X6 : ∀ w ∈ wsX60, w ∈ wsX7_init := by decide +kernel
theorem kX7_init_cl51 : (.classLink RX7 51 RX6 : Cond) ∈ wsX7_init := by decide +kernel
theorem kX7_init_in6 : (.instantiable RX6 2 : Cond) ∈ wsX7_init := by decide +kernel
theorem kX7_init_ini6 : (.initialized RX6 : Cond) ∈ wsX7_init := by decide +kernel
theorem kX7_init_im_X6_init : (.instanceMethod yX6_init : Cond) ∈ wsX7_init := by decide +kernel
theorem kX7_init_54 : (.fieldLink RX7 54 "WindTaken" "trace" "LWindTaken$Trace;" : Cond) ∈ wsX7_init := by decide +kernel
theorem iX7_init_X1 : ∀ w ∈ wsX10, w ∈ wsX7_init := by decide +kernel
theorem kX7_init_in1 : (.instantiable RX1 6 : Cond) ∈ wsX7_init := by decide +kernel
theorem kX7_init_ini1 : (.initialized RX1 : Cond) ∈ wsX7_init := by decide +kernel
theorem kX7_init_im_X1_init : (.instanceMethod yX1_init : Cond) ∈ wsX7_init := by decide +kernel
theorem kX7_init_ml59 : (.methodLink RX7 59 yX1_init : Cond) ∈ wsX7_init := by decide +kernel
theorem iX7_init_X4 : ∀ w ∈ wsX40, w ∈ wsX7_init := by decide +kernel
theorem kX7_init_in4 : (.instantiable RX4 3 : Cond) ∈ wsX7_init := by decide +kernel
theorem kX7_init_ini4 : (.initialized RX4 : Cond) ∈ wsX7_init := by decide +kernel
theorem kX7_init_im_X4_init : (.instanceMethod yX4_init : Cond) ∈ wsX7_init := by decide +kernel
abbrev rmX7_init : Room := { frames := 3, cells := 76, slots := 1317, locals := 150 }
set_option maxHeartbeats 4000000 in
set_option maxRecDepth 100000 in
theorem c_X7_init (l : Launch) (G : GG) (B : Nat)  (z : Nat → va_E) (hz : z 0 = .inr (7, [.null, .null, .null, .null, .null, .null, .null, .null, .int 0, .int 0])) : Met l yX7_init wsX7_init rmX7_init (ZP G B (1) z [.ref (B + 0)]) (va_Qv (fun y => ∀ b, b < 77 → y b = TX G B b) (ZB G B (77)) (blkF B)) 76 1317 (blkF B) := by
  refine Met.ofW (cc := cX7_init) (maxL := 2) (ret := none) (by decide) rfl ?_
  intro pp ee ss mm aa bb mt cd s1 Bd hml hv
  obtain ⟨hae, hX, hK, hO⟩ := hv
  have hx := Bd.exec
  have hb := Bd.bytes
  have hr := Bd.returns
  have hts := atoms_spec (ws := wsX7_init) Bd.pre
  have hown : ss.vm.findClass RX7 = some mm.cls := findClass_of_methodNamed Bd.named
  have hlocks := Bd.notSynchronized
  have hin : mt.name = "<init>" := (name_of_methodNamed Bd.named Bd.method).1
  have hS : va_S (blkF B) ss.heap ss.heap [] := va_S.rf
  have hl := lv_entry ([.ref (B + 0)]) (n := 2) (Nat.le_of_ble_eq_true rfl)
  subst hae
  rw [lg_entry_eq]
  generalize (lg_sl ([.ref (B + 0)]) ++ List.replicate (2 - (lg_sl ([.ref (B + 0)])).length) Slot.unset).toArray = ls at hl ⊢
  have hl : lv_has ls 2 [(0, .ref (B + 0))] := hl
  generalize ([.ref (B + 0)] : List Value).toArray = aa at hts ⊢
  show W pp l ee rmX7_init ss mm aa bb mt cd ss.heap [] 0 0 _ (F0 mm 0 ls [])
  generalize hQ : MQ bb (va_Qv (fun y => ∀ b, b < 77 → y b = TX G B b) (ZB G B (77)) (blkF B)) aa ss 76 1317 (blkF B) = Q
  have T0 : TI G B 1 z := fun b b0 b1 _ _ _ => absurd (show b = 0 by omega) b1
  refine lv_aload_n hx hb dX7_init_0 rfl (lv_at hl 0 rfl) ?_
  refine W.objInit hx hb hown (hts _ kX7_init_oi) (hts _ kX7_init_om) (hts _ kX7_init_oc) rfl (by rw [hml]; exact hl.1) rfl dX7_init_1 (Nat.le_of_ble_eq_true rfl) (Nat.le_of_ble_eq_true rfl) ?_
  refine W.eq (g2 := F0 mm 4 ls []) rfl ?_
  refine lv_aload_n hx hb dX7_init_4 rfl (lv_at hl 0 rfl) ?_
  refine lv_bipush (v := 8) hx hb dX7_init_5 (by decide) ?_
  refine z_newq (C := "WindTaken$Row") (t0 := 5) (cA := G.2 5) (N := 8) hx hb hown (hts _ kX7_init_cl9) hO.2.2.2 rfl hK hX hS (by decide) (by decide) (by decide) (Nat.le_of_ble_eq_true rfl) (Nat.le_of_ble_eq_true rfl) dX7_init_7 (fun H hX hS => ?_)
  refine W.widen (k := 1) (n := 8) (by omega) (by omega) ?_
  have hX : MZ G B (2) (zs z (1) (.inl (G.2 5, 8, rfs (fun _ => none)))) H := hX
  obtain ⟨z_1, ez_1⟩ : ∃ z9, z9 = zs z (1) (.inl (G.2 5, 8, rfs (fun _ => none))) := ⟨_, rfl⟩
  rw [← ez_1] at hX
  have k_2 : z_1 (0) = .inr (7, [.null, .null, .null, .null, .null, .null, .null, .null, .int 0, .int 0]) := by rw [ez_1, zs_ne (by omega)]; exact hz
  have k_3 : z_1 (1) = .inl (G.2 5, 8, rfs (fun _ => none)) := by rw [ez_1, zs_eq]
  have T_4 : TI G B (2) z_1 := by rw [ez_1]; exact (T0.up (by decide)).set (by decide)
  refine z_putF (a := 0) (v := .ref (B + 1)) (ty := .array (.object "WindTaken$Row")) hx hb hts iX7_init_X7 tyX7 tyX7_ok nmX7 hown hK hX hS (by omega) k_2 rfl 0 (by decide) (hts _ kX7_init_11) (fun _ h9 => h9) rfl hin rfl (by decide +kernel) rfl rfl (Nat.le_of_ble_eq_true rfl) dX7_init_10 (fun H lo hX hS => ?_)
  have hX : MZ G B (2) (zs z_1 (0) (.inr (7, [.ref (B + 1), .null, .null, .null, .null, .null, .null, .null, .int 0, .int 0]))) H := hX
  obtain ⟨z_5, ez_5⟩ : ∃ z9, z9 = zs z_1 (0) (.inr (7, [.ref (B + 1), .null, .null, .null, .null, .null, .null, .null, .int 0, .int 0])) := ⟨_, rfl⟩
  rw [← ez_5] at hX
  have k_6 : z_5 (1) = .inl (G.2 5, 8, rfs (fun _ => none)) := by rw [ez_5, zs_ne (by omega)]; exact k_3
  have k_7 : z_5 (0) = .inr (7, [.ref (B + 1), .null, .null, .null, .null, .null, .null, .null, .int 0, .int 0]) := by rw [ez_5, zs_eq]
  have T_8 : TI G B (2) z_5 := by rw [ez_5]; exact (T_4).set (by decide)
  refine lv_aload_n hx hb dX7_init_13 rfl (lv_at hl 0 rfl) ?_
  refine z_new (ci := 5) (fs := [.null, .int 0]) (C := RX5) (T := TX5) (N := 2) hx hb hts iX7_init_X5 tyX5 tyX5_ok hown (hts _ kX7_init_cl15) (hts _ kX7_init_in5) (hts _ kX7_init_ini5) hK hX hS rfl (by intro j hj; rcases (show j = 0 ∨ j = 1 by omega) with rfl | rfl <;> rfl) (Nat.le_of_ble_eq_true rfl) (Nat.le_of_ble_eq_true rfl) dX7_init_14 (fun H hX hS => ?_)
  refine W.widen (k := 2) (n := 10) (by omega) (by omega) ?_
  have hX : MZ G B (3) (zs z_5 (2) (.inr (5, [.null, .int 0]))) H := hX
  obtain ⟨z_9, ez_9⟩ : ∃ z9, z9 = zs z_5 (2) (.inr (5, [.null, .int 0])) := ⟨_, rfl⟩
  rw [← ez_9] at hX
  have k_10 : z_9 (1) = .inl (G.2 5, 8, rfs (fun _ => none)) := by rw [ez_9, zs_ne (by omega)]; exact k_6
  have k_11 : z_9 (0) = .inr (7, [.ref (B + 1), .null, .null, .null, .null, .null, .null, .null, .int 0, .int 0]) := by rw [ez_9, zs_ne (by omega)]; exact k_7
  have k_12 : z_9 (2) = .inr (5, [.null, .int 0]) := by rw [ez_9, zs_eq]
  refine lv_dup hx hb dX7_init_17 rfl ?_
  refine z_vf (n' := 4) (va_runIN (host := "WindTaken") (As := []) (rest := [.ref (B + 2), .ref (B + 0)]) ⟨hx, hb, hml, hown, hts⟩ (c_X5_init l G B (n := 3) (a := 2)  z_9 (by decide) k_12) ⟨va_cnB 0 hts gX7_init_X5_init_n17 rfl rfl rfl (hK.2 _ (List.mem_of_getElem? (i := 0) rfl)) (hts _ kX7_init_ini5) (by decide +kernel) ⟨Nat.le_of_ble_eq_true rfl, Nat.le_of_ble_eq_true rfl⟩, rfl, (hts _ kX7_init_im_X5_init)⟩ (z_pre hX ⟨hK, hO⟩ [.ref (B + 2)]) rfl rfl hl.1 rfl (lv_room (Nat.le_of_ble_eq_true rfl)) dX7_init_18 ⟨(Nat.le_of_ble_eq_true rfl), (Nat.le_of_ble_eq_true rfl)⟩) hS (fun y_13 H lo hp hX hS => ?_)
  try dsimp only at hp
  refine W.widen (k := 3) (n := 410) (by omega) (by omega) ?_
  have k_14 : y_13 (1) = .inl (G.2 5, 8, rfs (fun _ => none)) := ((hp.2.2 1 (by decide) (by decide))).trans k_10
  have k_15 : y_13 (0) = .inr (7, [.ref (B + 1), .null, .null, .null, .null, .null, .null, .null, .int 0, .int 0]) := ((hp.2.2 0 (by decide) (by decide))).trans k_11
  have T_16 : TI G B (4) y_13 := TI.tp (T_8) (fun b hb9 => (hp.2.2 b (by omega) (by omega)).trans (by rw [ez_9, zs_ne (by omega)])) hp.1 hp.2.1
  have k_17 : y_13 (2) = .inr (5, [.ref (B + 3), .int 0]) := hp.1
  refine z_putF (a := 0) (v := .ref (B + 2)) (ty := .object "WindTaken$Tape") hx hb hts iX7_init_X7 tyX7 tyX7_ok nmX7 hown hK hX hS (by omega) k_15 rfl 1 (by decide) (hts _ kX7_init_18) (fun _ h9 => h9) rfl hin rfl (by decide +kernel) rfl rfl (Nat.le_of_ble_eq_true rfl) dX7_init_21 (fun H lo hX hS => ?_)
  have hX : MZ G B (4) (zs y_13 (0) (.inr (7, [.ref (B + 1), .ref (B + 2), .null, .null, .null, .null, .null, .null, .int 0, .int 0]))) H := hX
  obtain ⟨z_18, ez_18⟩ : ∃ z9, z9 = zs y_13 (0) (.inr (7, [.ref (B + 1), .ref (B + 2), .null, .null, .null, .null, .null, .null, .int 0, .int 0])) := ⟨_, rfl⟩
  rw [← ez_18] at hX
  have k_19 : z_18 (1) = .inl (G.2 5, 8, rfs (fun _ => none)) := by rw [ez_18, zs_ne (by omega)]; exact k_14
  have k_20 : z_18 (2) = .inr (5, [.ref (B + 3), .int 0]) := by rw [ez_18, zs_ne (by omega)]; exact k_17
  have k_21 : z_18 (0) = .inr (7, [.ref (B + 1), .ref (B + 2), .null, .null, .null, .null, .null, .null, .int 0, .int 0]) := by rw [ez_18, zs_eq]
  have T_22 : TI G B (4) z_18 := by rw [ez_18]; exact (T_16).set (by decide)
  refine lv_aload_n hx hb dX7_init_24 rfl (lv_at hl 0 rfl) ?_
  refine z_new (ci := 2) (fs := [.null, .int 0, .int 0, .int 0, .int 0, .int 0, .int 0]) (C := RX2) (T := TX2) (N := 7) hx hb hts iX7_init_X2 tyX2 tyX2_ok hown (hts _ kX7_init_cl22) (hts _ kX7_init_in2) (hts _ kX7_init_ini2) hK hX hS rfl (by intro j hj; rcases (show j = 0 ∨ j = 1 ∨ j = 2 ∨ j = 3 ∨ j = 4 ∨ j = 5 ∨ j = 6 by omega) with rfl | rfl | rfl | rfl | rfl | rfl | rfl <;> rfl) (Nat.le_of_ble_eq_true rfl) (Nat.le_of_ble_eq_true rfl) dX7_init_25 (fun H hX hS => ?_)
  refine W.widen (k := 4) (n := 417) (by omega) (by omega) ?_
  have hX : MZ G B (5) (zs z_18 (4) (.inr (2, [.null, .int 0, .int 0, .int 0, .int 0, .int 0, .int 0]))) H := hX
  obtain ⟨z_23, ez_23⟩ : ∃ z9, z9 = zs z_18 (4) (.inr (2, [.null, .int 0, .int 0, .int 0, .int 0, .int 0, .int 0])) := ⟨_, rfl⟩
  rw [← ez_23] at hX
  have k_24 : z_23 (1) = .inl (G.2 5, 8, rfs (fun _ => none)) := by rw [ez_23, zs_ne (by omega)]; exact k_19
  have k_25 : z_23 (2) = .inr (5, [.ref (B + 3), .int 0]) := by rw [ez_23, zs_ne (by omega)]; exact k_20
  have k_26 : z_23 (0) = .inr (7, [.ref (B + 1), .ref (B + 2), .null, .null, .null, .null, .null, .null, .int 0, .int 0]) := by rw [ez_23, zs_ne (by omega)]; exact k_21
  have k_27 : z_23 (4) = .inr (2, [.null, .int 0, .int 0, .int 0, .int 0, .int 0, .int 0]) := by rw [ez_23, zs_eq]
  refine lv_dup hx hb dX7_init_28 rfl ?_
  refine lv_aload_n hx hb dX7_init_29 rfl (lv_at hl 0 rfl) ?_
  refine z_get (a := 0) (v := .ref (B + 2)) hx hb hts iX7_init_X7 hown hK hX (by omega) k_26 rfl 1 (by decide) (hts _ kX7_init_18) (fun _ h9 => h9) rfl dX7_init_30 ?_
  refine z_vf (n' := 5) (va_runI (As := [.ref (B + 2)]) (rest := [.ref (B + 4), .ref (B + 0)]) ⟨hx, hb, hml, hown, hts⟩ (c_X2_init l G B (n := 5) (a := 4) (t := 2) z_23 (by decide) k_27) (cwI 1 hts gX7_init_X2_init rfl rfl rfl (hts _ kX7_init_ini2) (hts _ kX7_init_ml24) (hts _ kX7_init_im_X2_init) rfl (by decide +kernel) ⟨Nat.le_of_ble_eq_true rfl, Nat.le_of_ble_eq_true rfl⟩) (z_pre hX ⟨hK, hO⟩ [.ref (B + 4), .ref (B + 2)]) rfl rfl hl.1 rfl (lv_room (Nat.le_of_ble_eq_true rfl)) dX7_init_33 ⟨(Nat.le_of_ble_eq_true rfl), (Nat.le_of_ble_eq_true rfl)⟩) hS (fun y_28 H lo hp hX hS => ?_)
  try dsimp only at hp
  refine W.widen (k := 4) (n := 417) (by omega) (by omega) ?_
  have k_29 : y_28 (1) = .inl (G.2 5, 8, rfs (fun _ => none)) := ((hp.2 1 (by decide))).trans k_24
  have k_30 : y_28 (2) = .inr (5, [.ref (B + 3), .int 0]) := ((hp.2 2 (by decide))).trans k_25
  have k_31 : y_28 (0) = .inr (7, [.ref (B + 1), .ref (B + 2), .null, .null, .null, .null, .null, .null, .int 0, .int 0]) := ((hp.2 0 (by decide))).trans k_26
  have T_32 : TI G B (5) y_28 := TI.rd (T_22) (fun b hb9 => (hp.2 b (by omega)).trans (by rw [ez_23, zs_ne (by omega)])) hp.1
  refine z_putF (a := 0) (v := .ref (B + 4)) (ty := .object "WindTaken$Reader") hx hb hts iX7_init_X7 tyX7 tyX7_ok nmX7 hown hK hX hS (by omega) k_31 rfl 2 (by decide) (hts _ kX7_init_27) (fun _ h9 => h9) rfl hin rfl (by decide +kernel) rfl rfl (Nat.le_of_ble_eq_true rfl) dX7_init_36 (fun H lo hX hS => ?_)
  have hX : MZ G B (5) (zs y_28 (0) (.inr (7, [.ref (B + 1), .ref (B + 2), .ref (B + 4), .null, .null, .null, .null, .null, .int 0, .int 0]))) H := hX
  obtain ⟨z_33, ez_33⟩ : ∃ z9, z9 = zs y_28 (0) (.inr (7, [.ref (B + 1), .ref (B + 2), .ref (B + 4), .null, .null, .null, .null, .null, .int 0, .int 0])) := ⟨_, rfl⟩
  rw [← ez_33] at hX
  have k_34 : z_33 (1) = .inl (G.2 5, 8, rfs (fun _ => none)) := by rw [ez_33, zs_ne (by omega)]; exact k_29
  have k_35 : z_33 (2) = .inr (5, [.ref (B + 3), .int 0]) := by rw [ez_33, zs_ne (by omega)]; exact k_30
  have k_36 : z_33 (0) = .inr (7, [.ref (B + 1), .ref (B + 2), .ref (B + 4), .null, .null, .null, .null, .null, .int 0, .int 0]) := by rw [ez_33, zs_eq]
  have T_37 : TI G B (5) z_33 := by rw [ez_33]; exact (T_32).set (by decide)
  refine lv_aload_n hx hb dX7_init_39 rfl (lv_at hl 0 rfl) ?_
  refine z_new (ci := 3) (fs := [.null, .int 0, .int 0, .int 0, .int 0, .int 0]) (C := RX3) (T := TX3) (N := 6) hx hb hts iX7_init_X3 tyX3 tyX3_ok hown (hts _ kX7_init_cl31) (hts _ kX7_init_in3) (hts _ kX7_init_ini3) hK hX hS rfl (by intro j hj; rcases (show j = 0 ∨ j = 1 ∨ j = 2 ∨ j = 3 ∨ j = 4 ∨ j = 5 by omega) with rfl | rfl | rfl | rfl | rfl | rfl <;> rfl) (Nat.le_of_ble_eq_true rfl) (Nat.le_of_ble_eq_true rfl) dX7_init_40 (fun H hX hS => ?_)
  refine W.widen (k := 5) (n := 423) (by omega) (by omega) ?_
  have hX : MZ G B (6) (zs z_33 (5) (.inr (3, [.null, .int 0, .int 0, .int 0, .int 0, .int 0]))) H := hX
  obtain ⟨z_38, ez_38⟩ : ∃ z9, z9 = zs z_33 (5) (.inr (3, [.null, .int 0, .int 0, .int 0, .int 0, .int 0])) := ⟨_, rfl⟩
  rw [← ez_38] at hX
  have k_39 : z_38 (1) = .inl (G.2 5, 8, rfs (fun _ => none)) := by rw [ez_38, zs_ne (by omega)]; exact k_34
  have k_40 : z_38 (0) = .inr (7, [.ref (B + 1), .ref (B + 2), .ref (B + 4), .null, .null, .null, .null, .null, .int 0, .int 0]) := by rw [ez_38, zs_ne (by omega)]; exact k_36
  have k_41 : z_38 (5) = .inr (3, [.null, .int 0, .int 0, .int 0, .int 0, .int 0]) := by rw [ez_38, zs_eq]
  refine lv_dup hx hb dX7_init_43 rfl ?_
  refine z_vf (n' := 15) (va_runI (As := []) (rest := [.ref (B + 5), .ref (B + 0)]) ⟨hx, hb, hml, hown, hts⟩ (c_X3_init l G B (n := 6) (a := 5)  z_38 (by decide) k_41) (cwI 0 hts gX7_init_X3_init rfl rfl rfl (hts _ kX7_init_ini3) (hts _ kX7_init_ml33) (hts _ kX7_init_im_X3_init) rfl (by decide +kernel) ⟨Nat.le_of_ble_eq_true rfl, Nat.le_of_ble_eq_true rfl⟩) (z_pre hX ⟨hK, hO⟩ [.ref (B + 5)]) rfl rfl hl.1 rfl (lv_room (Nat.le_of_ble_eq_true rfl)) dX7_init_44 ⟨(Nat.le_of_ble_eq_true rfl), (Nat.le_of_ble_eq_true rfl)⟩) hS (fun y_42 H lo hp hX hS => ?_)
  try dsimp only at hp
  refine W.widen (k := 14) (n := 527) (by omega) (by omega) ?_
  have k_43 : y_42 (1) = .inl (G.2 5, 8, rfs (fun _ => none)) := ((hp.2.2.2 1 (by decide) (by decide))).trans k_39
  have k_44 : y_42 (0) = .inr (7, [.ref (B + 1), .ref (B + 2), .ref (B + 4), .null, .null, .null, .null, .null, .int 0, .int 0]) := ((hp.2.2.2 0 (by decide) (by decide))).trans k_40
  have T_45 : TI G B (15) y_42 := TI.rg (ρ := 5) rg5 (T_37) (fun b hb9 => (hp.2.2.2 b (by omega) (by omega)).trans (by rw [ez_38, zs_ne (by omega)])) hp.1 hp.2.1 hp.2.2.1
  refine z_putF (a := 0) (v := .ref (B + 5)) (ty := .object "WindTaken$Ridge") hx hb hts iX7_init_X7 tyX7 tyX7_ok nmX7 hown hK hX hS (by omega) k_44 rfl 3 (by decide) (hts _ kX7_init_34) (fun _ h9 => h9) rfl hin rfl (by decide +kernel) rfl rfl (Nat.le_of_ble_eq_true rfl) dX7_init_47 (fun H lo hX hS => ?_)
  have hX : MZ G B (15) (zs y_42 (0) (.inr (7, [.ref (B + 1), .ref (B + 2), .ref (B + 4), .ref (B + 5), .null, .null, .null, .null, .int 0, .int 0]))) H := hX
  obtain ⟨z_46, ez_46⟩ : ∃ z9, z9 = zs y_42 (0) (.inr (7, [.ref (B + 1), .ref (B + 2), .ref (B + 4), .ref (B + 5), .null, .null, .null, .null, .int 0, .int 0])) := ⟨_, rfl⟩
  rw [← ez_46] at hX
  have k_47 : z_46 (1) = .inl (G.2 5, 8, rfs (fun _ => none)) := by rw [ez_46, zs_ne (by omega)]; exact k_43
  have k_48 : z_46 (0) = .inr (7, [.ref (B + 1), .ref (B + 2), .ref (B + 4), .ref (B + 5), .null, .null, .null, .null, .int 0, .int 0]) := by rw [ez_46, zs_eq]
  have T_49 : TI G B (15) z_46 := by rw [ez_46]; exact (T_45).set (by decide)
  refine lv_aload_n hx hb dX7_init_50 rfl (lv_at hl 0 rfl) ?_
  refine z_new (ci := 3) (fs := [.null, .int 0, .int 0, .int 0, .int 0, .int 0]) (C := RX3) (T := TX3) (N := 6) hx hb hts iX7_init_X3 tyX3 tyX3_ok hown (hts _ kX7_init_cl31) (hts _ kX7_init_in3) (hts _ kX7_init_ini3) hK hX hS rfl (by intro j hj; rcases (show j = 0 ∨ j = 1 ∨ j = 2 ∨ j = 3 ∨ j = 4 ∨ j = 5 by omega) with rfl | rfl | rfl | rfl | rfl | rfl <;> rfl) (Nat.le_of_ble_eq_true rfl) (Nat.le_of_ble_eq_true rfl) dX7_init_51 (fun H hX hS => ?_)
  refine W.widen (k := 15) (n := 533) (by omega) (by omega) ?_
  have hX : MZ G B (16) (zs z_46 (15) (.inr (3, [.null, .int 0, .int 0, .int 0, .int 0, .int 0]))) H := hX
  obtain ⟨z_50, ez_50⟩ : ∃ z9, z9 = zs z_46 (15) (.inr (3, [.null, .int 0, .int 0, .int 0, .int 0, .int 0])) := ⟨_, rfl⟩
  rw [← ez_50] at hX
  have k_51 : z_50 (1) = .inl (G.2 5, 8, rfs (fun _ => none)) := by rw [ez_50, zs_ne (by omega)]; exact k_47
  have k_52 : z_50 (0) = .inr (7, [.ref (B + 1), .ref (B + 2), .ref (B + 4), .ref (B + 5), .null, .null, .null, .null, .int 0, .int 0]) := by rw [ez_50, zs_ne (by omega)]; exact k_48
  have k_53 : z_50 (15) = .inr (3, [.null, .int 0, .int 0, .int 0, .int 0, .int 0]) := by rw [ez_50, zs_eq]
  refine lv_dup hx hb dX7_init_54 rfl ?_
  refine z_vf (n' := 25) (va_runI (As := []) (rest := [.ref (B + 15), .ref (B + 0)]) ⟨hx, hb, hml, hown, hts⟩ (c_X3_init l G B (n := 16) (a := 15)  z_50 (by decide) k_53) (cwI 0 hts gX7_init_X3_init rfl rfl rfl (hts _ kX7_init_ini3) (hts _ kX7_init_ml33) (hts _ kX7_init_im_X3_init) rfl (by decide +kernel) ⟨Nat.le_of_ble_eq_true rfl, Nat.le_of_ble_eq_true rfl⟩) (z_pre hX ⟨hK, hO⟩ [.ref (B + 15)]) rfl rfl hl.1 rfl (lv_room (Nat.le_of_ble_eq_true rfl)) dX7_init_55 ⟨(Nat.le_of_ble_eq_true rfl), (Nat.le_of_ble_eq_true rfl)⟩) hS (fun y_54 H lo hp hX hS => ?_)
  try dsimp only at hp
  refine W.widen (k := 24) (n := 637) (by omega) (by omega) ?_
  have k_55 : y_54 (1) = .inl (G.2 5, 8, rfs (fun _ => none)) := ((hp.2.2.2 1 (by decide) (by decide))).trans k_51
  have k_56 : y_54 (0) = .inr (7, [.ref (B + 1), .ref (B + 2), .ref (B + 4), .ref (B + 5), .null, .null, .null, .null, .int 0, .int 0]) := ((hp.2.2.2 0 (by decide) (by decide))).trans k_52
  have T_57 : TI G B (25) y_54 := TI.rg (ρ := 15) rg15 (T_49) (fun b hb9 => (hp.2.2.2 b (by omega) (by omega)).trans (by rw [ez_50, zs_ne (by omega)])) hp.1 hp.2.1 hp.2.2.1
  refine z_putF (a := 0) (v := .ref (B + 15)) (ty := .object "WindTaken$Ridge") hx hb hts iX7_init_X7 tyX7 tyX7_ok nmX7 hown hK hX hS (by omega) k_56 rfl 4 (by decide) (hts _ kX7_init_38) (fun _ h9 => h9) rfl hin rfl (by decide +kernel) rfl rfl (Nat.le_of_ble_eq_true rfl) dX7_init_58 (fun H lo hX hS => ?_)
  have hX : MZ G B (25) (zs y_54 (0) (.inr (7, [.ref (B + 1), .ref (B + 2), .ref (B + 4), .ref (B + 5), .ref (B + 15), .null, .null, .null, .int 0, .int 0]))) H := hX
  obtain ⟨z_58, ez_58⟩ : ∃ z9, z9 = zs y_54 (0) (.inr (7, [.ref (B + 1), .ref (B + 2), .ref (B + 4), .ref (B + 5), .ref (B + 15), .null, .null, .null, .int 0, .int 0])) := ⟨_, rfl⟩
  rw [← ez_58] at hX
  have k_59 : z_58 (1) = .inl (G.2 5, 8, rfs (fun _ => none)) := by rw [ez_58, zs_ne (by omega)]; exact k_55
  have k_60 : z_58 (0) = .inr (7, [.ref (B + 1), .ref (B + 2), .ref (B + 4), .ref (B + 5), .ref (B + 15), .null, .null, .null, .int 0, .int 0]) := by rw [ez_58, zs_eq]
  have T_61 : TI G B (25) z_58 := by rw [ez_58]; exact (T_57).set (by decide)
  refine lv_aload_n hx hb dX7_init_61 rfl (lv_at hl 0 rfl) ?_
  refine lv_iconst (v := 2) hx hb dX7_init_62 (by decide) ?_
  refine z_newq (C := "WindTaken$Ridge") (t0 := 4) (cA := G.2 4) (N := 2) hx hb hown (hts _ kX7_init_cl31) hO.2.2.1 rfl hK hX hS (by decide) (by decide) (by decide) (Nat.le_of_ble_eq_true rfl) (Nat.le_of_ble_eq_true rfl) dX7_init_63 (fun H hX hS => ?_)
  refine W.widen (k := 25) (n := 639) (by omega) (by omega) ?_
  have hX : MZ G B (26) (zs z_58 (25) (.inl (G.2 4, 2, rfs (fun _ => none)))) H := hX
  obtain ⟨z_62, ez_62⟩ : ∃ z9, z9 = zs z_58 (25) (.inl (G.2 4, 2, rfs (fun _ => none))) := ⟨_, rfl⟩
  rw [← ez_62] at hX
  have k_63 : z_62 (1) = .inl (G.2 5, 8, rfs (fun _ => none)) := by rw [ez_62, zs_ne (by omega)]; exact k_59
  have k_64 : z_62 (0) = .inr (7, [.ref (B + 1), .ref (B + 2), .ref (B + 4), .ref (B + 5), .ref (B + 15), .null, .null, .null, .int 0, .int 0]) := by rw [ez_62, zs_ne (by omega)]; exact k_60
  have k_65 : z_62 (25) = .inl (G.2 4, 2, rfs (fun _ => none)) := by rw [ez_62, zs_eq]
  have T_66 : TI G B (26) z_62 := by rw [ez_62]; exact (T_61.up (by decide)).set (by decide)
  refine z_putF (a := 0) (v := .ref (B + 25)) (ty := .array (.object "WindTaken$Ridge")) hx hb hts iX7_init_X7 tyX7 tyX7_ok nmX7 hown hK hX hS (by omega) k_64 rfl 5 (by decide) (hts _ kX7_init_41) (fun _ h9 => h9) rfl hin rfl (by decide +kernel) rfl rfl (Nat.le_of_ble_eq_true rfl) dX7_init_66 (fun H lo hX hS => ?_)
  have hX : MZ G B (26) (zs z_62 (0) (.inr (7, [.ref (B + 1), .ref (B + 2), .ref (B + 4), .ref (B + 5), .ref (B + 15), .ref (B + 25), .null, .null, .int 0, .int 0]))) H := hX
  obtain ⟨z_67, ez_67⟩ : ∃ z9, z9 = zs z_62 (0) (.inr (7, [.ref (B + 1), .ref (B + 2), .ref (B + 4), .ref (B + 5), .ref (B + 15), .ref (B + 25), .null, .null, .int 0, .int 0])) := ⟨_, rfl⟩
  rw [← ez_67] at hX
  have k_68 : z_67 (1) = .inl (G.2 5, 8, rfs (fun _ => none)) := by rw [ez_67, zs_ne (by omega)]; exact k_63
  have k_69 : z_67 (25) = .inl (G.2 4, 2, rfs (fun _ => none)) := by rw [ez_67, zs_ne (by omega)]; exact k_65
  have k_70 : z_67 (0) = .inr (7, [.ref (B + 1), .ref (B + 2), .ref (B + 4), .ref (B + 5), .ref (B + 15), .ref (B + 25), .null, .null, .int 0, .int 0]) := by rw [ez_67, zs_eq]
  have T_71 : TI G B (26) z_67 := by rw [ez_67]; exact (T_66).set (by decide)
  refine lv_aload_n hx hb dX7_init_69 rfl (lv_at hl 0 rfl) ?_
  refine lv_iconst (v := 4) hx hb dX7_init_70 (by decide) ?_
  refine z_newq (C := "WindTaken$Quarter") (t0 := 3) (cA := G.2 3) (N := 4) hx hb hown (hts _ kX7_init_cl45) hO.2.1 rfl hK hX hS (by decide) (by decide) (by decide) (Nat.le_of_ble_eq_true rfl) (Nat.le_of_ble_eq_true rfl) dX7_init_71 (fun H hX hS => ?_)
  refine W.widen (k := 26) (n := 643) (by omega) (by omega) ?_
  have hX : MZ G B (27) (zs z_67 (26) (.inl (G.2 3, 4, rfs (fun _ => none)))) H := hX
  obtain ⟨z_72, ez_72⟩ : ∃ z9, z9 = zs z_67 (26) (.inl (G.2 3, 4, rfs (fun _ => none))) := ⟨_, rfl⟩
  rw [← ez_72] at hX
  have k_73 : z_72 (1) = .inl (G.2 5, 8, rfs (fun _ => none)) := by rw [ez_72, zs_ne (by omega)]; exact k_68
  have k_74 : z_72 (25) = .inl (G.2 4, 2, rfs (fun _ => none)) := by rw [ez_72, zs_ne (by omega)]; exact k_69
  have k_75 : z_72 (0) = .inr (7, [.ref (B + 1), .ref (B + 2), .ref (B + 4), .ref (B + 5), .ref (B + 15), .ref (B + 25), .null, .null, .int 0, .int 0]) := by rw [ez_72, zs_ne (by omega)]; exact k_70
  have k_76 : z_72 (26) = .inl (G.2 3, 4, rfs (fun _ => none)) := by rw [ez_72, zs_eq]
  have T_77 : TI G B (27) z_72 := by rw [ez_72]; exact (T_71.up (by decide)).set (by decide)
  refine z_putF (a := 0) (v := .ref (B + 26)) (ty := .array (.object "WindTaken$Quarter")) hx hb hts iX7_init_X7 tyX7 tyX7_ok nmX7 hown hK hX hS (by omega) k_75 rfl 6 (by decide) (hts _ kX7_init_47) (fun _ h9 => h9) rfl hin rfl (by decide +kernel) rfl rfl (Nat.le_of_ble_eq_true rfl) dX7_init_74 (fun H lo hX hS => ?_)
  have hX : MZ G B (27) (zs z_72 (0) (.inr (7, [.ref (B + 1), .ref (B + 2), .ref (B + 4), .ref (B + 5), .ref (B + 15), .ref (B + 25), .ref (B + 26), .null, .int 0, .int 0]))) H := hX
  obtain ⟨z_78, ez_78⟩ : ∃ z9, z9 = zs z_72 (0) (.inr (7, [.ref (B + 1), .ref (B + 2), .ref (B + 4), .ref (B + 5), .ref (B + 15), .ref (B + 25), .ref (B + 26), .null, .int 0, .int 0])) := ⟨_, rfl⟩
  rw [← ez_78] at hX
  have k_79 : z_78 (1) = .inl (G.2 5, 8, rfs (fun _ => none)) := by rw [ez_78, zs_ne (by omega)]; exact k_73
  have k_80 : z_78 (25) = .inl (G.2 4, 2, rfs (fun _ => none)) := by rw [ez_78, zs_ne (by omega)]; exact k_74
  have k_81 : z_78 (26) = .inl (G.2 3, 4, rfs (fun _ => none)) := by rw [ez_78, zs_ne (by omega)]; exact k_76
  have k_82 : z_78 (0) = .inr (7, [.ref (B + 1), .ref (B + 2), .ref (B + 4), .ref (B + 5), .ref (B + 15), .ref (B + 25), .ref (B + 26), .null, .int 0, .int 0]) := by rw [ez_78, zs_eq]
  have T_83 : TI G B (27) z_78 := by rw [ez_78]; exact (T_77).set (by decide)
  refine lv_aload_n hx hb dX7_init_77 rfl (lv_at hl 0 rfl) ?_
  refine z_new (ci := 6) (fs := [.null, .int 0]) (C := RX6) (T := TX6) (N := 2) hx hb hts iX7_init_X6 tyX6 tyX6_ok hown (hts _ kX7_init_cl51) (hts _ kX7_init_in6) (hts _ kX7_init_ini6) hK hX hS rfl (by intro j hj; rcases (show j = 0 ∨ j = 1 by omega) with rfl | rfl <;> rfl) (Nat.le_of_ble_eq_true rfl) (Nat.le_of_ble_eq_true rfl) dX7_init_78 (fun H hX hS => ?_)
  refine W.widen (k := 27) (n := 645) (by omega) (by omega) ?_
  have hX : MZ G B (28) (zs z_78 (27) (.inr (6, [.null, .int 0]))) H := hX
  obtain ⟨z_84, ez_84⟩ : ∃ z9, z9 = zs z_78 (27) (.inr (6, [.null, .int 0])) := ⟨_, rfl⟩
  rw [← ez_84] at hX
  have k_85 : z_84 (1) = .inl (G.2 5, 8, rfs (fun _ => none)) := by rw [ez_84, zs_ne (by omega)]; exact k_79
  have k_86 : z_84 (25) = .inl (G.2 4, 2, rfs (fun _ => none)) := by rw [ez_84, zs_ne (by omega)]; exact k_80
  have k_87 : z_84 (26) = .inl (G.2 3, 4, rfs (fun _ => none)) := by rw [ez_84, zs_ne (by omega)]; exact k_81
  have k_88 : z_84 (0) = .inr (7, [.ref (B + 1), .ref (B + 2), .ref (B + 4), .ref (B + 5), .ref (B + 15), .ref (B + 25), .ref (B + 26), .null, .int 0, .int 0]) := by rw [ez_84, zs_ne (by omega)]; exact k_82
  have k_89 : z_84 (27) = .inr (6, [.null, .int 0]) := by rw [ez_84, zs_eq]
  refine lv_dup hx hb dX7_init_81 rfl ?_
  refine z_vf (n' := 29) (va_runIN (host := "WindTaken") (As := []) (rest := [.ref (B + 27), .ref (B + 0)]) ⟨hx, hb, hml, hown, hts⟩ (c_X6_init l G B (n := 28) (a := 27)  z_84 (by decide) k_89) ⟨va_cnB 0 hts gX7_init_X6_init_n53 rfl rfl rfl (hK.2 _ (List.mem_of_getElem? (i := 1) rfl)) (hts _ kX7_init_ini6) (by decide +kernel) ⟨Nat.le_of_ble_eq_true rfl, Nat.le_of_ble_eq_true rfl⟩, rfl, (hts _ kX7_init_im_X6_init)⟩ (z_pre hX ⟨hK, hO⟩ [.ref (B + 27)]) rfl rfl hl.1 rfl (lv_room (Nat.le_of_ble_eq_true rfl)) dX7_init_82 ⟨(Nat.le_of_ble_eq_true rfl), (Nat.le_of_ble_eq_true rfl)⟩) hS (fun y_90 H lo hp hX hS => ?_)
  try dsimp only at hp
  refine W.widen (k := 28) (n := 661) (by omega) (by omega) ?_
  have k_91 : y_90 (1) = .inl (G.2 5, 8, rfs (fun _ => none)) := ((hp.2.2 1 (by decide) (by decide))).trans k_85
  have k_92 : y_90 (25) = .inl (G.2 4, 2, rfs (fun _ => none)) := ((hp.2.2 25 (by decide) (by decide))).trans k_86
  have k_93 : y_90 (26) = .inl (G.2 3, 4, rfs (fun _ => none)) := ((hp.2.2 26 (by decide) (by decide))).trans k_87
  have k_94 : y_90 (0) = .inr (7, [.ref (B + 1), .ref (B + 2), .ref (B + 4), .ref (B + 5), .ref (B + 15), .ref (B + 25), .ref (B + 26), .null, .int 0, .int 0]) := ((hp.2.2 0 (by decide) (by decide))).trans k_88
  have T_95 : TI G B (29) y_90 := TI.tr (T_83) (fun b hb9 => (hp.2.2 b (by omega) (by omega)).trans (by rw [ez_84, zs_ne (by omega)])) hp.1 hp.2.1
  refine z_putF (a := 0) (v := .ref (B + 27)) (ty := .object "WindTaken$Trace") hx hb hts iX7_init_X7 tyX7 tyX7_ok nmX7 hown hK hX hS (by omega) k_94 rfl 7 (by decide) (hts _ kX7_init_54) (fun _ h9 => h9) rfl hin rfl (by decide +kernel) rfl rfl (Nat.le_of_ble_eq_true rfl) dX7_init_85 (fun H lo hX hS => ?_)
  have hX : MZ G B (29) (zs y_90 (0) (.inr (7, [.ref (B + 1), .ref (B + 2), .ref (B + 4), .ref (B + 5), .ref (B + 15), .ref (B + 25), .ref (B + 26), .ref (B + 27), .int 0, .int 0]))) H := hX
  obtain ⟨z_96, ez_96⟩ : ∃ z9, z9 = zs y_90 (0) (.inr (7, [.ref (B + 1), .ref (B + 2), .ref (B + 4), .ref (B + 5), .ref (B + 15), .ref (B + 25), .ref (B + 26), .ref (B + 27), .int 0, .int 0])) := ⟨_, rfl⟩
  rw [← ez_96] at hX
  have k_97 : z_96 (1) = .inl (G.2 5, 8, rfs (fun _ => none)) := by rw [ez_96, zs_ne (by omega)]; exact k_91
  have k_98 : z_96 (25) = .inl (G.2 4, 2, rfs (fun _ => none)) := by rw [ez_96, zs_ne (by omega)]; exact k_92
  have k_99 : z_96 (26) = .inl (G.2 3, 4, rfs (fun _ => none)) := by rw [ez_96, zs_ne (by omega)]; exact k_93
  have k_100 : z_96 (0) = .inr (7, [.ref (B + 1), .ref (B + 2), .ref (B + 4), .ref (B + 5), .ref (B + 15), .ref (B + 25), .ref (B + 26), .ref (B + 27), .int 0, .int 0]) := by rw [ez_96, zs_eq]
  have T_101 : TI G B (29) z_96 := by rw [ez_96]; exact (T_95).set (by decide)
  refine lv_iconst (v := 0) hx hb dX7_init_88 (by decide) ?_
  refine lv_istore_n (lv' := [(1, .int 0), (0, .ref (B + 0))]) hx hb dX7_init_89 rfl hl (by decide) rfl (fun ls hl => ?_)
  have La : ∀ (n9 i : Nat) (z1 : Nat → va_E) (f : Nat → Option Nat) (_ : n9 = 8 - i) (_ : i ≤ 8 ∧ z1 0 = .inr (7, [.ref (B + 1), .ref (B + 2), .ref (B + 4), .ref (B + 5), .ref (B + 15), .ref (B + 25), .ref (B + 26), .ref (B + 27), .int 0, .int 0]) ∧ z1 1 = .inl (G.2 5, 8, rfs (f)) ∧ z1 25 = .inl (G.2 4, 2, rfs (fun _ => none)) ∧ z1 26 = .inl (G.2 3, 4, rfs (fun _ => none)) ∧ (∀ j, j < i → f j = some (B + (29 + 2 * j))) ∧ TI G B (29 + 2 * i) z1) (H : Heap) (lo : List Loc) (_ : MZ G B (29 + 2 * i) z1 H) (_ : va_S (blkF B) ss.heap H lo) (ls : Array Slot) (_ : lv_has ls 2 [(1, .int (nI i)), (0, .ref (B + 0))]), W pp l ee rmX7_init ss mm aa bb mt cd H lo (28 + 2 * i) (661 + 43 * i) Q (F0 mm 90 ls []) := by
    intro n9
    induction n9 using Nat.strongRecOn with
    | _ n9 ih =>
      intro i z1 f hn9 hI H lo hX hS ls hl
      obtain ⟨hi, g0, ga, gb, gc, gf, gT⟩ := hI
      refine lv_iload_n hx hb dX7_init_90 rfl (lv_at hl 0 rfl) ?_
      refine lv_bipush (v := 8) hx hb dX7_init_91 (by decide) ?_
      refine lv_icmp_ge (tgt := 115) hx hb dX7_init_93 (by decide) (fun c9 => ?_) (fun c9 => ?_)
      · have n9c := (n_le (a := 8) (b := i) rfl rfl (by decide) (by omega)).mp c9
        have e8 : i = 8 := by omega
        subst e8
        have hX2 := hX.rf (a := 1) (by omega) ga (g := fun j => some (B + (29 + 2 * j))) gf
        obtain ⟨z_102, ez_102⟩ : ∃ z9, z9 = zs z1 1 (.inl (G.2 5, 8, rfs (fun j => some (B + (29 + 2 * j))))) := ⟨_, rfl⟩
        rw [← ez_102] at hX2
        have k_103 : z_102 (0) = .inr (7, [.ref (B + 1), .ref (B + 2), .ref (B + 4), .ref (B + 5), .ref (B + 15), .ref (B + 25), .ref (B + 26), .ref (B + 27), .int 0, .int 0]) := by rw [ez_102, zs_ne (by decide)]; exact g0
        have k_104 : z_102 (25) = .inl (G.2 4, 2, rfs (fun _ => none)) := by rw [ez_102, zs_ne (by decide)]; exact gb
        have k_105 : z_102 (26) = .inl (G.2 3, 4, rfs (fun _ => none)) := by rw [ez_102, zs_ne (by decide)]; exact gc
        have k_106 : z_102 (1) = .inl (G.2 5, 8, rfs (fun j => some (B + (29 + 2 * j)))) := by rw [ez_102, zs_eq]
        have T_107 : TI G B (29 + 2 * 8) z_102 := by rw [ez_102]; exact gT.set (by decide)
        have hX := hX2
        have hl : lv_has ls 2 [(0, .ref (B + 0))] := lv_sub hl [1] rfl
        refine W.widen (k := 44) (n := 1005) (by omega) (by omega) ?_
        refine lv_iconst (v := 0) hx hb dX7_init_115 (by decide) ?_
        refine lv_istore_n (lv' := [(1, .int 0), (0, .ref (B + 0))]) hx hb dX7_init_116 rfl hl (by decide) rfl (fun ls hl => ?_)
        have Lb : ∀ (n9 i : Nat) (z1 : Nat → va_E) (f : Nat → Option Nat) (_ : n9 = 2 - i) (_ : i ≤ 2 ∧ z1 0 = .inr (7, [.ref (B + 1), .ref (B + 2), .ref (B + 4), .ref (B + 5), .ref (B + 15), .ref (B + 25), .ref (B + 26), .ref (B + 27), .int 0, .int 0]) ∧ z1 25 = .inl (G.2 4, 2, rfs (f)) ∧ z1 1 = .inl (G.2 5, 8, rfs (fun j => some (B + (29 + 2 * j)))) ∧ z1 26 = .inl (G.2 3, 4, rfs (fun _ => none)) ∧ (∀ j, j < i → f j = some (B + (45 + 10 * j))) ∧ TI G B (45 + 10 * i) z1) (H : Heap) (lo : List Loc) (_ : MZ G B (45 + 10 * i) z1 H) (_ : va_S (blkF B) ss.heap H lo) (ls : Array Slot) (_ : lv_has ls 2 [(1, .int (nI i)), (0, .ref (B + 0))]), W pp l ee rmX7_init ss mm aa bb mt cd H lo (44 + 10 * i) (1005 + 110 * i) Q (F0 mm 117 ls []) := by
          intro n9
          induction n9 using Nat.strongRecOn with
          | _ n9 ih =>
            intro i z1 f hn9 hI H lo hX hS ls hl
            obtain ⟨hi, g0, ga, gb, gc, gf, gT⟩ := hI
            refine lv_iload_n hx hb dX7_init_117 rfl (lv_at hl 0 rfl) ?_
            refine lv_iconst (v := 2) hx hb dX7_init_118 (by decide) ?_
            refine lv_icmp_ge (tgt := 141) hx hb dX7_init_119 (by decide) (fun c9 => ?_) (fun c9 => ?_)
            · have n9c := (n_le (a := 2) (b := i) rfl rfl (by decide) (by omega)).mp c9
              have e8 : i = 2 := by omega
              subst e8
              have hX2 := hX.rf (a := 25) (by omega) ga (g := fun j => some (B + (45 + 10 * j))) gf
              obtain ⟨z_108, ez_108⟩ : ∃ z9, z9 = zs z1 25 (.inl (G.2 4, 2, rfs (fun j => some (B + (45 + 10 * j))))) := ⟨_, rfl⟩
              rw [← ez_108] at hX2
              have k_109 : z_108 (0) = .inr (7, [.ref (B + 1), .ref (B + 2), .ref (B + 4), .ref (B + 5), .ref (B + 15), .ref (B + 25), .ref (B + 26), .ref (B + 27), .int 0, .int 0]) := by rw [ez_108, zs_ne (by decide)]; exact g0
              have k_110 : z_108 (1) = .inl (G.2 5, 8, rfs (fun j => some (B + (29 + 2 * j)))) := by rw [ez_108, zs_ne (by decide)]; exact gb
              have k_111 : z_108 (26) = .inl (G.2 3, 4, rfs (fun _ => none)) := by rw [ez_108, zs_ne (by decide)]; exact gc
              have k_112 : z_108 (25) = .inl (G.2 4, 2, rfs (fun j => some (B + (45 + 10 * j)))) := by rw [ez_108, zs_eq]
              have T_113 : TI G B (45 + 10 * 2) z_108 := by rw [ez_108]; exact gT.set (by decide)
              have hX := hX2
              have hl : lv_has ls 2 [(0, .ref (B + 0))] := lv_sub hl [1] rfl
              refine W.widen (k := 64) (n := 1225) (by omega) (by omega) ?_
              refine lv_iconst (v := 0) hx hb dX7_init_141 (by decide) ?_
              refine lv_istore_n (lv' := [(1, .int 0), (0, .ref (B + 0))]) hx hb dX7_init_142 rfl hl (by decide) rfl (fun ls hl => ?_)
              have Lc : ∀ (n9 i : Nat) (z1 : Nat → va_E) (f : Nat → Option Nat) (_ : n9 = 4 - i) (_ : i ≤ 4 ∧ z1 0 = .inr (7, [.ref (B + 1), .ref (B + 2), .ref (B + 4), .ref (B + 5), .ref (B + 15), .ref (B + 25), .ref (B + 26), .ref (B + 27), .int 0, .int 0]) ∧ z1 26 = .inl (G.2 3, 4, rfs (f)) ∧ z1 1 = .inl (G.2 5, 8, rfs (fun j => some (B + (29 + 2 * j)))) ∧ z1 25 = .inl (G.2 4, 2, rfs (fun j => some (B + (45 + 10 * j)))) ∧ (∀ j, j < i → f j = some (B + (65 + 3 * j))) ∧ TI G B (65 + 3 * i) z1) (H : Heap) (lo : List Loc) (_ : MZ G B (65 + 3 * i) z1 H) (_ : va_S (blkF B) ss.heap H lo) (ls : Array Slot) (_ : lv_has ls 2 [(1, .int (nI i)), (0, .ref (B + 0))]), W pp l ee rmX7_init ss mm aa bb mt cd H lo (64 + 3 * i) (1225 + 23 * i) Q (F0 mm 143 ls []) := by
                intro n9
                induction n9 using Nat.strongRecOn with
                | _ n9 ih =>
                  intro i z1 f hn9 hI H lo hX hS ls hl
                  obtain ⟨hi, g0, ga, gb, gc, gf, gT⟩ := hI
                  refine lv_iload_n hx hb dX7_init_143 rfl (lv_at hl 0 rfl) ?_
                  refine lv_iconst (v := 4) hx hb dX7_init_144 (by decide) ?_
                  refine lv_icmp_ge (tgt := 172) hx hb dX7_init_145 (by decide) (fun c9 => ?_) (fun c9 => ?_)
                  · have n9c := (n_le (a := 4) (b := i) rfl rfl (by decide) (by omega)).mp c9
                    have e8 : i = 4 := by omega
                    subst e8
                    have hX2 := hX.rf (a := 26) (by omega) ga (g := fun j => some (B + (65 + 3 * j))) gf
                    obtain ⟨z_114, ez_114⟩ : ∃ z9, z9 = zs z1 26 (.inl (G.2 3, 4, rfs (fun j => some (B + (65 + 3 * j))))) := ⟨_, rfl⟩
                    rw [← ez_114] at hX2
                    have k_115 : z_114 (0) = .inr (7, [.ref (B + 1), .ref (B + 2), .ref (B + 4), .ref (B + 5), .ref (B + 15), .ref (B + 25), .ref (B + 26), .ref (B + 27), .int 0, .int 0]) := by rw [ez_114, zs_ne (by decide)]; exact g0
                    have k_116 : z_114 (1) = .inl (G.2 5, 8, rfs (fun j => some (B + (29 + 2 * j)))) := by rw [ez_114, zs_ne (by decide)]; exact gb
                    have k_117 : z_114 (25) = .inl (G.2 4, 2, rfs (fun j => some (B + (45 + 10 * j)))) := by rw [ez_114, zs_ne (by decide)]; exact gc
                    have k_118 : z_114 (26) = .inl (G.2 3, 4, rfs (fun j => some (B + (65 + 3 * j)))) := by rw [ez_114, zs_eq]
                    have T_119 : TI G B (65 + 3 * 4) z_114 := by rw [ez_114]; exact gT.set (by decide)
                    have hX := hX2
                    refine W.widen (k := 76) (n := 1317) (by omega) (by omega) ?_
                    rw [← hQ]
                    exact z_vret hx hb hr hX hS hlocks dX7_init_172 (TI.fin T_119 k_115 k_116 k_117 k_118)
                  · have n9c : i < 4 := Nat.lt_of_not_le (fun q => c9 ((n_le (a := 4) (b := i) rfl rfl (by decide) (by omega)).mpr q))
                    refine lv_aload_n hx hb dX7_init_148 rfl (lv_at hl 1 rfl) ?_
                    refine z_get (a := 0) (v := .ref (B + 26)) hx hb hts iX7_init_X7 hown hK hX (by omega) g0 rfl 6 (by decide) (hts _ kX7_init_47) (fun _ h9 => h9) rfl dX7_init_149 ?_
                    refine lv_iload_n hx hb dX7_init_152 rfl (lv_at hl 0 rfl) ?_
                    refine z_new (ci := 1) (fs := [.null, .null, .null, .int 0, .int 0, .int 0]) (C := RX1) (T := TX1) (N := 6) hx hb hts iX7_init_X1 tyX1 tyX1_ok hown (hts _ kX7_init_cl45) (hts _ kX7_init_in1) (hts _ kX7_init_ini1) hK hX hS rfl (by intro j hj; rcases (show j = 0 ∨ j = 1 ∨ j = 2 ∨ j = 3 ∨ j = 4 ∨ j = 5 by omega) with rfl | rfl | rfl | rfl | rfl | rfl <;> rfl) (by show 64 + 3 * i + 1 ≤ 76; omega) (by show 1225 + 23 * i + 6 ≤ 1317; omega) dX7_init_153 (fun H hX hS => ?_)
                    refine W.widen (k := 65 + 3 * i) (n := 1231 + 23 * i) (by omega) (by omega) ?_
                    have hX : MZ G B (65 + 3 * i + 1) (zs z1 (65 + 3 * i) (.inr (1, [.null, .null, .null, .int 0, .int 0, .int 0]))) H := hX
                    obtain ⟨z_120, ez_120⟩ : ∃ z9, z9 = zs z1 (65 + 3 * i) (.inr (1, [.null, .null, .null, .int 0, .int 0, .int 0])) := ⟨_, rfl⟩
                    rw [← ez_120] at hX
                    have k_121 : z_120 (0) = .inr (7, [.ref (B + 1), .ref (B + 2), .ref (B + 4), .ref (B + 5), .ref (B + 15), .ref (B + 25), .ref (B + 26), .ref (B + 27), .int 0, .int 0]) := by rw [ez_120, zs_ne (by omega)]; exact g0
                    have k_122 : z_120 (26) = .inl (G.2 3, 4, rfs (f)) := by rw [ez_120, zs_ne (by omega)]; exact ga
                    have k_123 : z_120 (1) = .inl (G.2 5, 8, rfs (fun j => some (B + (29 + 2 * j)))) := by rw [ez_120, zs_ne (by omega)]; exact gb
                    have k_124 : z_120 (25) = .inl (G.2 4, 2, rfs (fun j => some (B + (45 + 10 * j)))) := by rw [ez_120, zs_ne (by omega)]; exact gc
                    have k_125 : z_120 (65 + 3 * i) = .inr (1, [.null, .null, .null, .int 0, .int 0, .int 0]) := by rw [ez_120, zs_eq]
                    refine lv_dup hx hb dX7_init_156 rfl ?_
                    refine lv_aload_n hx hb dX7_init_157 rfl (lv_at hl 1 rfl) ?_
                    refine z_get (a := 0) (v := .ref (B + 5)) hx hb hts iX7_init_X7 hown hK hX (by omega) k_121 rfl 3 (by decide) (hts _ kX7_init_34) (fun _ h9 => h9) rfl dX7_init_158 ?_
                    refine lv_iload_n hx hb dX7_init_161 rfl (lv_at hl 0 rfl) ?_
                    refine z_vf (n' := 65 + 3 * i + 1 + 1 + 1) (va_runI (As := [.ref (B + 5), .int (nI i)]) (rest := [.ref (B + (65 + 3 * i)), .int (nI i), .ref (B + 26)]) ⟨hx, hb, hml, hown, hts⟩ (c_X1_init l G B (n := 65 + 3 * i + 1) (a := 65 + 3 * i) (t := 5) (q := i) z_120 (by omega) k_125) (cwI 2 hts gX7_init_X1_init rfl rfl rfl (hts _ kX7_init_ini1) (hts _ kX7_init_ml59) (hts _ kX7_init_im_X1_init) rfl (by decide +kernel) ⟨Nat.le_of_ble_eq_true rfl, Nat.le_of_ble_eq_true rfl⟩) (z_pre hX ⟨hK, hO⟩ [.ref (B + (65 + 3 * i)), .ref (B + 5), .int (nI i)]) rfl rfl hl.1 rfl (lv_room (Nat.le_of_ble_eq_true rfl)) dX7_init_162 ⟨(by show 65 + 3 * i + 2 ≤ 76; omega), (by show 1231 + 23 * i + 17 ≤ 1317; omega)⟩) hS (fun y_126 H lo hp hX hS => ?_)
                    try dsimp only at hp
                    refine W.widen (k := 67 + 3 * i) (n := 1248 + 23 * i) (by omega) (by omega) ?_
                    have k_127 : y_126 (0) = .inr (7, [.ref (B + 1), .ref (B + 2), .ref (B + 4), .ref (B + 5), .ref (B + 15), .ref (B + 25), .ref (B + 26), .ref (B + 27), .int 0, .int 0]) := (hp.2.2.2 0 (by omega) (by omega) (by omega)).trans k_121
                    have k_128 : y_126 (26) = .inl (G.2 3, 4, rfs (f)) := (hp.2.2.2 26 (by omega) (by omega) (by omega)).trans k_122
                    have k_129 : y_126 (1) = .inl (G.2 5, 8, rfs (fun j => some (B + (29 + 2 * j)))) := (hp.2.2.2 1 (by omega) (by omega) (by omega)).trans k_123
                    have k_130 : y_126 (25) = .inl (G.2 4, 2, rfs (fun j => some (B + (45 + 10 * j)))) := (hp.2.2.2 25 (by omega) (by omega) (by omega)).trans k_124
                    have k_131 : y_126 (65 + 3 * i) = .inr (1, [.ref (B + (65 + 3 * i + 1)), .ref (B + (65 + 3 * i + 1 + 1)), .ref (B + 5), .int (nI i), .int 0, .int 0]) := hp.1
                    have T_132 : TI G B (65 + 3 * i + 1 + 1 + 1) y_126 := TI.qu (q := i) (by omega) gT (fun b hb9 => (hp.2.2.2 b (by omega) (by omega) (by omega)).trans (by rw [ez_120, zs_ne (by omega)])) hp.1 hp.2.1 hp.2.2.1
                    refine z_astq (a := 26) (d := 65 + 3 * i) (t0 := 3) (ci := 1) (cA := G.2 3) (r := (RX1, TX1, 6)) (N := 4) (j := i) hx hb hK hX hS (by omega) (by omega) k_128 rfl k_131 rfl rfl (by omega) (by decide) dX7_init_165 (fun H lo hX hS => ?_)
                    have hX : MZ G B (65 + 3 * i + 1 + 1 + 1) (zs y_126 (26) (.inl (G.2 3, 4, rfs (fun k => if k = i then some (B + (65 + 3 * i)) else f k)))) H := hX
                    obtain ⟨z_133, ez_133⟩ : ∃ z9, z9 = zs y_126 (26) (.inl (G.2 3, 4, rfs (fun k => if k = i then some (B + (65 + 3 * i)) else f k))) := ⟨_, rfl⟩
                    rw [← ez_133] at hX
                    have k_134 : z_133 (0) = .inr (7, [.ref (B + 1), .ref (B + 2), .ref (B + 4), .ref (B + 5), .ref (B + 15), .ref (B + 25), .ref (B + 26), .ref (B + 27), .int 0, .int 0]) := by rw [ez_133, zs_ne (by omega)]; exact k_127
                    have k_135 : z_133 (1) = .inl (G.2 5, 8, rfs (fun j => some (B + (29 + 2 * j)))) := by rw [ez_133, zs_ne (by omega)]; exact k_129
                    have k_136 : z_133 (25) = .inl (G.2 4, 2, rfs (fun j => some (B + (45 + 10 * j)))) := by rw [ez_133, zs_ne (by omega)]; exact k_130
                    have k_137 : z_133 (65 + 3 * i) = .inr (1, [.ref (B + (65 + 3 * i + 1)), .ref (B + (65 + 3 * i + 1 + 1)), .ref (B + 5), .int (nI i), .int 0, .int 0]) := by rw [ez_133, zs_ne (by omega)]; exact k_131
                    have k_138 : z_133 (26) = .inl (G.2 3, 4, rfs (fun k => if k = i then some (B + (65 + 3 * i)) else f k)) := by rw [ez_133, zs_eq]
                    have T_139 : TI G B (65 + 3 * i + 1 + 1 + 1) z_133 := by rw [ez_133]; exact (T_132).set (by decide)
                    have hX : MZ G B (65 + 3 * (i + 1)) z_133 H := by rw [show 65 + 3 * (i + 1) = 65 + 3 * i + 1 + 1 + 1 by omega]; exact hX
                    have hT9 : TI G B (65 + 3 * (i + 1)) z_133 := by rw [show 65 + 3 * (i + 1) = 65 + 3 * i + 1 + 1 + 1 by omega]; exact T_139
                    refine lv_iinc (v := nI (i + 1)) (lv' := [(1, .int (nI (i + 1))), (0, .ref (B + 0))]) hx hb dX7_init_166 hl (k := 0) rfl (inc_nI _) (by decide) rfl (fun ls hl => ?_)
                    refine lv_goto (tgt := 143) hx hb dX7_init_169 (by decide) ?_
                    refine W.widen (k := 64 + 3 * (i + 1)) (n := 1225 + 23 * (i + 1)) (by omega) (by omega) ?_
                    exact ih (4 - (i + 1)) (by omega) (i + 1) z_133 _ rfl ⟨by omega, k_134, k_138, k_135, k_136, fun j hj => by
                        by_cases e : j = i
                        · rw [e]; exact if_pos rfl
                        · exact (if_neg e).trans (gf j (by omega))
                    , hT9⟩ _ _ hX hS ls (lv_sub hl [0, 1] rfl)
              exact Lc 4 0 z_108 _ rfl ⟨by decide, k_109, k_111, k_110, k_112, fun j hj => absurd hj (Nat.not_lt_zero j), T_113⟩ _ _ hX hS ls (lv_sub hl [0, 1] rfl)
            · have n9c : i < 2 := Nat.lt_of_not_le (fun q => c9 ((n_le (a := 2) (b := i) rfl rfl (by decide) (by omega)).mpr q))
              refine lv_aload_n hx hb dX7_init_122 rfl (lv_at hl 1 rfl) ?_
              refine z_get (a := 0) (v := .ref (B + 25)) hx hb hts iX7_init_X7 hown hK hX (by omega) g0 rfl 5 (by decide) (hts _ kX7_init_41) (fun _ h9 => h9) rfl dX7_init_123 ?_
              refine lv_iload_n hx hb dX7_init_126 rfl (lv_at hl 0 rfl) ?_
              refine z_new (ci := 3) (fs := [.null, .int 0, .int 0, .int 0, .int 0, .int 0]) (C := RX3) (T := TX3) (N := 6) hx hb hts iX7_init_X3 tyX3 tyX3_ok hown (hts _ kX7_init_cl31) (hts _ kX7_init_in3) (hts _ kX7_init_ini3) hK hX hS rfl (by intro j hj; rcases (show j = 0 ∨ j = 1 ∨ j = 2 ∨ j = 3 ∨ j = 4 ∨ j = 5 by omega) with rfl | rfl | rfl | rfl | rfl | rfl <;> rfl) (by show 44 + 10 * i + 1 ≤ 76; omega) (by show 1005 + 110 * i + 6 ≤ 1317; omega) dX7_init_127 (fun H hX hS => ?_)
              refine W.widen (k := 45 + 10 * i) (n := 1011 + 110 * i) (by omega) (by omega) ?_
              have hX : MZ G B (45 + 10 * i + 1) (zs z1 (45 + 10 * i) (.inr (3, [.null, .int 0, .int 0, .int 0, .int 0, .int 0]))) H := hX
              obtain ⟨z_140, ez_140⟩ : ∃ z9, z9 = zs z1 (45 + 10 * i) (.inr (3, [.null, .int 0, .int 0, .int 0, .int 0, .int 0])) := ⟨_, rfl⟩
              rw [← ez_140] at hX
              have k_141 : z_140 (0) = .inr (7, [.ref (B + 1), .ref (B + 2), .ref (B + 4), .ref (B + 5), .ref (B + 15), .ref (B + 25), .ref (B + 26), .ref (B + 27), .int 0, .int 0]) := by rw [ez_140, zs_ne (by omega)]; exact g0
              have k_142 : z_140 (25) = .inl (G.2 4, 2, rfs (f)) := by rw [ez_140, zs_ne (by omega)]; exact ga
              have k_143 : z_140 (1) = .inl (G.2 5, 8, rfs (fun j => some (B + (29 + 2 * j)))) := by rw [ez_140, zs_ne (by omega)]; exact gb
              have k_144 : z_140 (26) = .inl (G.2 3, 4, rfs (fun _ => none)) := by rw [ez_140, zs_ne (by omega)]; exact gc
              have k_145 : z_140 (45 + 10 * i) = .inr (3, [.null, .int 0, .int 0, .int 0, .int 0, .int 0]) := by rw [ez_140, zs_eq]
              refine lv_dup hx hb dX7_init_130 rfl ?_
              refine z_vf (n' := 45 + 10 * i + 1 + 9) (va_runI (As := []) (rest := [.ref (B + (45 + 10 * i)), .int (nI i), .ref (B + 25)]) ⟨hx, hb, hml, hown, hts⟩ (c_X3_init l G B (n := 45 + 10 * i + 1) (a := 45 + 10 * i)  z_140 (by omega) k_145) (cwI 0 hts gX7_init_X3_init rfl rfl rfl (hts _ kX7_init_ini3) (hts _ kX7_init_ml33) (hts _ kX7_init_im_X3_init) rfl (by decide +kernel) ⟨Nat.le_of_ble_eq_true rfl, Nat.le_of_ble_eq_true rfl⟩) (z_pre hX ⟨hK, hO⟩ [.ref (B + (45 + 10 * i))]) rfl rfl hl.1 rfl (lv_room (Nat.le_of_ble_eq_true rfl)) dX7_init_131 ⟨(by show 45 + 10 * i + 9 ≤ 76; omega), (by show 1011 + 110 * i + 104 ≤ 1317; omega)⟩) hS (fun y_146 H lo hp hX hS => ?_)
              try dsimp only at hp
              refine W.widen (k := 54 + 10 * i) (n := 1115 + 110 * i) (by omega) (by omega) ?_
              have k_147 : y_146 (0) = .inr (7, [.ref (B + 1), .ref (B + 2), .ref (B + 4), .ref (B + 5), .ref (B + 15), .ref (B + 25), .ref (B + 26), .ref (B + 27), .int 0, .int 0]) := (hp.2.2.2 0 (by omega) (by omega)).trans k_141
              have k_148 : y_146 (25) = .inl (G.2 4, 2, rfs (f)) := (hp.2.2.2 25 (by omega) (by omega)).trans k_142
              have k_149 : y_146 (1) = .inl (G.2 5, 8, rfs (fun j => some (B + (29 + 2 * j)))) := (hp.2.2.2 1 (by omega) (by omega)).trans k_143
              have k_150 : y_146 (26) = .inl (G.2 3, 4, rfs (fun _ => none)) := (hp.2.2.2 26 (by omega) (by omega)).trans k_144
              have k_151 : y_146 (45 + 10 * i) = .inr (3, [.ref (B + (45 + 10 * i + 1)), .int 0, .int 0, .int 0, .int 0, .int 0]) := hp.1
              have T_152 : TI G B (45 + 10 * i + 1 + 9) y_146 := TI.rg (ρ := 45 + 10 * i) (rgI (by omega)) gT (fun b hb9 => (hp.2.2.2 b (by omega) (by omega)).trans (by rw [ez_140, zs_ne (by omega)])) hp.1 hp.2.1 hp.2.2.1
              refine z_astq (a := 25) (d := 45 + 10 * i) (t0 := 4) (ci := 3) (cA := G.2 4) (r := (RX3, TX3, 6)) (N := 2) (j := i) hx hb hK hX hS (by omega) (by omega) k_148 rfl k_151 rfl rfl (by omega) (by decide) dX7_init_134 (fun H lo hX hS => ?_)
              have hX : MZ G B (45 + 10 * i + 1 + 9) (zs y_146 (25) (.inl (G.2 4, 2, rfs (fun k => if k = i then some (B + (45 + 10 * i)) else f k)))) H := hX
              obtain ⟨z_153, ez_153⟩ : ∃ z9, z9 = zs y_146 (25) (.inl (G.2 4, 2, rfs (fun k => if k = i then some (B + (45 + 10 * i)) else f k))) := ⟨_, rfl⟩
              rw [← ez_153] at hX
              have k_154 : z_153 (0) = .inr (7, [.ref (B + 1), .ref (B + 2), .ref (B + 4), .ref (B + 5), .ref (B + 15), .ref (B + 25), .ref (B + 26), .ref (B + 27), .int 0, .int 0]) := by rw [ez_153, zs_ne (by omega)]; exact k_147
              have k_155 : z_153 (1) = .inl (G.2 5, 8, rfs (fun j => some (B + (29 + 2 * j)))) := by rw [ez_153, zs_ne (by omega)]; exact k_149
              have k_156 : z_153 (26) = .inl (G.2 3, 4, rfs (fun _ => none)) := by rw [ez_153, zs_ne (by omega)]; exact k_150
              have k_157 : z_153 (45 + 10 * i) = .inr (3, [.ref (B + (45 + 10 * i + 1)), .int 0, .int 0, .int 0, .int 0, .int 0]) := by rw [ez_153, zs_ne (by omega)]; exact k_151
              have k_158 : z_153 (25) = .inl (G.2 4, 2, rfs (fun k => if k = i then some (B + (45 + 10 * i)) else f k)) := by rw [ez_153, zs_eq]
              have T_159 : TI G B (45 + 10 * i + 1 + 9) z_153 := by rw [ez_153]; exact (T_152).set (by decide)
              have hX : MZ G B (45 + 10 * (i + 1)) z_153 H := by rw [show 45 + 10 * (i + 1) = 45 + 10 * i + 1 + 9 by omega]; exact hX
              have hT9 : TI G B (45 + 10 * (i + 1)) z_153 := by rw [show 45 + 10 * (i + 1) = 45 + 10 * i + 1 + 9 by omega]; exact T_159
              refine lv_iinc (v := nI (i + 1)) (lv' := [(1, .int (nI (i + 1))), (0, .ref (B + 0))]) hx hb dX7_init_135 hl (k := 0) rfl (inc_nI _) (by decide) rfl (fun ls hl => ?_)
              refine lv_goto (tgt := 117) hx hb dX7_init_138 (by decide) ?_
              refine W.widen (k := 44 + 10 * (i + 1)) (n := 1005 + 110 * (i + 1)) (by omega) (by omega) ?_
              exact ih (2 - (i + 1)) (by omega) (i + 1) z_153 _ rfl ⟨by omega, k_154, k_158, k_155, k_156, fun j hj => by
                  by_cases e : j = i
                  · rw [e]; exact if_pos rfl
                  · exact (if_neg e).trans (gf j (by omega))
              , hT9⟩ _ _ hX hS ls (lv_sub hl [0, 1] rfl)
        exact Lb 2 0 z_102 _ rfl ⟨by decide, k_103, k_104, k_106, k_105, fun j hj => absurd hj (Nat.not_lt_zero j), T_107⟩ _ _ hX hS ls (lv_sub hl [0, 1] rfl)
      · have n9c : i < 8 := Nat.lt_of_not_le (fun q => c9 ((n_le (a := 8) (b := i) rfl rfl (by decide) (by omega)).mpr q))
        refine lv_aload_n hx hb dX7_init_96 rfl (lv_at hl 1 rfl) ?_
        refine z_get (a := 0) (v := .ref (B + 1)) hx hb hts iX7_init_X7 hown hK hX (by omega) g0 rfl 0 (by decide) (hts _ kX7_init_11) (fun _ h9 => h9) rfl dX7_init_97 ?_
        refine lv_iload_n hx hb dX7_init_100 rfl (lv_at hl 0 rfl) ?_
        refine z_new (ci := 4) (fs := [.null, .int 0, .int 0]) (C := RX4) (T := TX4) (N := 3) hx hb hts iX7_init_X4 tyX4 tyX4_ok hown (hts _ kX7_init_cl9) (hts _ kX7_init_in4) (hts _ kX7_init_ini4) hK hX hS rfl (by intro j hj; rcases (show j = 0 ∨ j = 1 ∨ j = 2 by omega) with rfl | rfl | rfl <;> rfl) (by show 28 + 2 * i + 1 ≤ 76; omega) (by show 661 + 43 * i + 3 ≤ 1317; omega) dX7_init_101 (fun H hX hS => ?_)
        refine W.widen (k := 29 + 2 * i) (n := 664 + 43 * i) (by omega) (by omega) ?_
        have hX : MZ G B (29 + 2 * i + 1) (zs z1 (29 + 2 * i) (.inr (4, [.null, .int 0, .int 0]))) H := hX
        obtain ⟨z_160, ez_160⟩ : ∃ z9, z9 = zs z1 (29 + 2 * i) (.inr (4, [.null, .int 0, .int 0])) := ⟨_, rfl⟩
        rw [← ez_160] at hX
        have k_161 : z_160 (0) = .inr (7, [.ref (B + 1), .ref (B + 2), .ref (B + 4), .ref (B + 5), .ref (B + 15), .ref (B + 25), .ref (B + 26), .ref (B + 27), .int 0, .int 0]) := by rw [ez_160, zs_ne (by omega)]; exact g0
        have k_162 : z_160 (1) = .inl (G.2 5, 8, rfs (f)) := by rw [ez_160, zs_ne (by omega)]; exact ga
        have k_163 : z_160 (25) = .inl (G.2 4, 2, rfs (fun _ => none)) := by rw [ez_160, zs_ne (by omega)]; exact gb
        have k_164 : z_160 (26) = .inl (G.2 3, 4, rfs (fun _ => none)) := by rw [ez_160, zs_ne (by omega)]; exact gc
        have k_165 : z_160 (29 + 2 * i) = .inr (4, [.null, .int 0, .int 0]) := by rw [ez_160, zs_eq]
        refine lv_dup hx hb dX7_init_104 rfl ?_
        refine z_vf (n' := 29 + 2 * i + 1 + 1) (va_runIN (host := "WindTaken") (As := []) (rest := [.ref (B + (29 + 2 * i)), .int (nI i), .ref (B + 1)]) ⟨hx, hb, hml, hown, hts⟩ (c_X4_init l G B (n := 29 + 2 * i + 1) (a := 29 + 2 * i)  z_160 (by omega) k_165) ⟨va_cnB 0 hts gX7_init_X4_init_n58 rfl rfl rfl (hK.2 _ (List.mem_of_getElem? (i := 2) rfl)) (hts _ kX7_init_ini4) (by decide +kernel) ⟨Nat.le_of_ble_eq_true rfl, Nat.le_of_ble_eq_true rfl⟩, rfl, (hts _ kX7_init_im_X4_init)⟩ (z_pre hX ⟨hK, hO⟩ [.ref (B + (29 + 2 * i))]) rfl rfl hl.1 rfl (lv_room (Nat.le_of_ble_eq_true rfl)) dX7_init_105 ⟨(by show 29 + 2 * i + 1 ≤ 76; omega), (by show 664 + 43 * i + 40 ≤ 1317; omega)⟩) hS (fun y_166 H lo hp hX hS => ?_)
        try dsimp only at hp
        refine W.widen (k := 30 + 2 * i) (n := 704 + 43 * i) (by omega) (by omega) ?_
        have k_167 : y_166 (0) = .inr (7, [.ref (B + 1), .ref (B + 2), .ref (B + 4), .ref (B + 5), .ref (B + 15), .ref (B + 25), .ref (B + 26), .ref (B + 27), .int 0, .int 0]) := (hp.2.2 0 (by omega) (by omega)).trans k_161
        have k_168 : y_166 (1) = .inl (G.2 5, 8, rfs (f)) := (hp.2.2 1 (by omega) (by omega)).trans k_162
        have k_169 : y_166 (25) = .inl (G.2 4, 2, rfs (fun _ => none)) := (hp.2.2 25 (by omega) (by omega)).trans k_163
        have k_170 : y_166 (26) = .inl (G.2 3, 4, rfs (fun _ => none)) := (hp.2.2 26 (by omega) (by omega)).trans k_164
        have k_171 : y_166 (29 + 2 * i) = .inr (4, [.ref (B + (29 + 2 * i + 1)), .int 0, .int (-1)]) := hp.1
        have T_172 : TI G B (29 + 2 * i + 1 + 1) y_166 := TI.rw (r := i) (by omega) gT (fun b hb9 => (hp.2.2 b (by omega) (by omega)).trans (by rw [ez_160, zs_ne (by omega)])) hp.1 hp.2.1
        refine z_astq (a := 1) (d := 29 + 2 * i) (t0 := 5) (ci := 4) (cA := G.2 5) (r := (RX4, TX4, 3)) (N := 8) (j := i) hx hb hK hX hS (by omega) (by omega) k_168 rfl k_171 rfl rfl (by omega) (by decide) dX7_init_108 (fun H lo hX hS => ?_)
        have hX : MZ G B (29 + 2 * i + 1 + 1) (zs y_166 (1) (.inl (G.2 5, 8, rfs (fun k => if k = i then some (B + (29 + 2 * i)) else f k)))) H := hX
        obtain ⟨z_173, ez_173⟩ : ∃ z9, z9 = zs y_166 (1) (.inl (G.2 5, 8, rfs (fun k => if k = i then some (B + (29 + 2 * i)) else f k))) := ⟨_, rfl⟩
        rw [← ez_173] at hX
        have k_174 : z_173 (0) = .inr (7, [.ref (B + 1), .ref (B + 2), .ref (B + 4), .ref (B + 5), .ref (B + 15), .ref (B + 25), .ref (B + 26), .ref (B + 27), .int 0, .int 0]) := by rw [ez_173, zs_ne (by omega)]; exact k_167
        have k_175 : z_173 (25) = .inl (G.2 4, 2, rfs (fun _ => none)) := by rw [ez_173, zs_ne (by omega)]; exact k_169
        have k_176 : z_173 (26) = .inl (G.2 3, 4, rfs (fun _ => none)) := by rw [ez_173, zs_ne (by omega)]; exact k_170
        have k_177 : z_173 (29 + 2 * i) = .inr (4, [.ref (B + (29 + 2 * i + 1)), .int 0, .int (-1)]) := by rw [ez_173, zs_ne (by omega)]; exact k_171
        have k_178 : z_173 (1) = .inl (G.2 5, 8, rfs (fun k => if k = i then some (B + (29 + 2 * i)) else f k)) := by rw [ez_173, zs_eq]
        have T_179 : TI G B (29 + 2 * i + 1 + 1) z_173 := by rw [ez_173]; exact (T_172).set (by decide)
        have hX : MZ G B (29 + 2 * (i + 1)) z_173 H := by rw [show 29 + 2 * (i + 1) = 29 + 2 * i + 1 + 1 by omega]; exact hX
        have hT9 : TI G B (29 + 2 * (i + 1)) z_173 := by rw [show 29 + 2 * (i + 1) = 29 + 2 * i + 1 + 1 by omega]; exact T_179
        refine lv_iinc (v := nI (i + 1)) (lv' := [(1, .int (nI (i + 1))), (0, .ref (B + 0))]) hx hb dX7_init_109 hl (k := 0) rfl (inc_nI _) (by decide) rfl (fun ls hl => ?_)
        refine lv_goto (tgt := 90) hx hb dX7_init_112 (by decide) ?_
        refine W.widen (k := 28 + 2 * (i + 1)) (n := 661 + 43 * (i + 1)) (by omega) (by omega) ?_
        exact ih (8 - (i + 1)) (by omega) (i + 1) z_173 _ rfl ⟨by omega, k_174, k_178, k_175, k_176, fun j hj => by
            by_cases e : j = i
            · rw [e]; exact if_pos rfl
            · exact (if_neg e).trans (gf j (by omega))
        , hT9⟩ _ _ hX hS ls (lv_sub hl [0, 1] rfl)
  exact La 8 0 z_96 _ rfl ⟨by decide, k_100, k_97, k_98, k_99, fun j hj => absurd hj (Nat.not_lt_zero j), T_101⟩ _ _ hX hS ls (lv_sub hl [0, 1] rfl)
