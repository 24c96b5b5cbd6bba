theorem kX7_init_oi : (.methodLink RX7 1 objectInit : Cond) ∈ wsX7_init := by decide +kernel
theorem kX7_init_om : (.instanceMethod objectInit : Cond) ∈ wsX7_init := by decide +kernel
theorem kX7_init_oc : (.code objectInit ⟨#[0xb1]⟩ 1 none : Cond) ∈ wsX7_init := by decide +kernel
theorem kX7_init_cl9 : (.classLink RX7 9 RX4 : Cond) ∈ wsX7_init := by decide +kernel
theorem kX7_init_11 : (.fieldLink RX7 11 "WindTaken" "rows" "[LWindTaken$Row;" : Cond) ∈ wsX7_init := by decide +kernel
theorem iX7_init_X7 : ∀ w ∈ wsX70, w ∈ wsX7_init := by decide +kernel
theorem iX7_init_X2 : ∀ w ∈ wsX20, w ∈ wsX7_init := by decide +kernel
theorem kX7_init_cl15 : (.classLink RX7 15 RX2 : Cond) ∈ wsX7_init := by decide +kernel
theorem kX7_init_in2 : (.instantiable RX2 7 : Cond) ∈ wsX7_init := by decide +kernel
theorem kX7_init_ini2 : (.initialized RX2 : Cond) ∈ wsX7_init := by decide +kernel
theorem kX7_init_im_X2_init : (.instanceMethod yX2_init : Cond) ∈ wsX7_init := by decide +kernel
theorem kX7_init_18 : (.fieldLink RX7 18 "WindTaken" "reader" "LWindTaken$Reader;" : Cond) ∈ wsX7_init := by decide +kernel
theorem iX7_init_X3 : ∀ w ∈ wsX30, w ∈ wsX7_init := by decide +kernel
theorem kX7_init_cl22 : (.classLink RX7 22 RX3 : Cond) ∈ wsX7_init := by decide +kernel
theorem kX7_init_in3 : (.instantiable RX3 6 : Cond) ∈ wsX7_init := by decide +kernel
theorem kX7_init_ini3 : (.initialized RX3 : Cond) ∈ wsX7_init := by decide +kernel
theorem kX7_init_im_X3_init : (.instanceMethod yX3_init : Cond) ∈ wsX7_init := by decide +kernel
theorem kX7_init_ml24 : (.methodLink RX7 24 yX3_init : Cond) ∈ wsX7_init := by decide +kernel
theorem kX7_init_25 : (.fieldLink RX7 25 "WindTaken" "ridge" "LWindTaken$Ridge;" : Cond) ∈ wsX7_init := by decide +kernel
theorem kX7_init_29 : (.fieldLink RX7 29 "WindTaken" "draft" "LWindTaken$Ridge;" : Cond) ∈ wsX7_init := by decide +kernel
theorem kX7_init_32 : (.fieldLink RX7 32 "WindTaken" "images" "[LWindTaken$Ridge;" : Cond) ∈ wsX7_init := by decide +kernel
theorem kX7_init_cl36 : (.classLink RX7 36 RX1 : Cond) ∈ wsX7_init := by decide +kernel
theorem kX7_init_38 : (.fieldLink RX7 38 "WindTaken" "quarters" "[LWindTaken$Quarter;" : Cond) ∈ wsX7_init := by decide +kernel
theorem iX7_init_X6 : ∀ w ∈ wsX60, w ∈ wsX7_init := by decide +kernel
theorem kX7_init_cl42 : (.classLink RX7 42 RX6 : Cond) ∈ wsX7_init := by decide +kernel
theorem kX7_init_in6 : (.instantiable RX6 2 : Cond) ∈ wsX7_init := by decide +kernel
theorem kX7_init_ini6 : (.initialized RX6 : Cond) ∈ wsX7_init := by decide +kernel
theorem kX7_init_im_X6_init : (.instanceMethod yX6_init : Cond) ∈ wsX7_init := by decide +kernel
theorem kX7_init_45 : (.fieldLink RX7 45 "WindTaken" "trace" "LWindTaken$Trace;" : Cond) ∈ wsX7_init := by decide +kernel
theorem iX7_init_X1 : ∀ w ∈ wsX10, w ∈ wsX7_init := by decide +kernel
theorem kX7_init_in1 : (.instantiable RX1 6 : Cond) ∈ wsX7_init := by decide +kernel
theorem kX7_init_ini1 : (.initialized RX1 : Cond) ∈ wsX7_init := by decide +kernel
theorem kX7_init_im_X1_init : (.instanceMethod yX1_init : Cond) ∈ wsX7_init := by decide +kernel
theorem iX7_init_X4 : ∀ w ∈ wsX40, w ∈ wsX7_init := by decide +kernel
theorem kX7_init_in4 : (.instantiable RX4 3 : Cond) ∈ wsX7_init := by decide +kernel
theorem kX7_init_ini4 : (.initialized RX4 : Cond) ∈ wsX7_init := by decide +kernel
theorem kX7_init_im_X4_init : (.instanceMethod yX4_init : Cond) ∈ wsX7_init := by decide +kernel
abbrev rmX7_init : Room := { frames := 4, cells := 116, slots := 1757, locals := 200 }
set_option maxHeartbeats 4000000 in
set_option maxRecDepth 100000 in
theorem c_X7_init (l : Launch) (G : GG) (B : Nat)  (z : Nat → va_E) (hz : z 0 = .inr (7, [.null, .null, .null, .null, .null, .null, .null, .int 0, .int 0])) : Met l yX7_init wsX7_init rmX7_init (ZP G B (1) z [.ref (B + 0)]) (va_Qv (fun y => ∀ b, b < 117 → y b = TX G B b) (ZB G B (117)) (blkF B)) 116 1757 (blkF B) := by
  refine Met.ofW (cc := cX7_init) (maxL := 2) (ret := none) (by decide) rfl ?_
  intro pp ee ss mm aa bb mt cd s1 Bd hml hv
  obtain ⟨hae, hX, hK, hO⟩ := hv
  have hx := Bd.exec
  have hb := Bd.bytes
  have hr := Bd.returns
  have hts := atoms_spec (ws := wsX7_init) Bd.pre
  have hown : ss.vm.findClass RX7 = some mm.cls := findClass_of_methodNamed Bd.named
  have hlocks := Bd.notSynchronized
  have hin : mt.name = "<init>" := (name_of_methodNamed Bd.named Bd.method).1
  have hS : va_S (blkF B) ss.heap ss.heap [] := va_S.rf
  have hl := lv_entry ([.ref (B + 0)]) (n := 2) (Nat.le_of_ble_eq_true rfl)
  subst hae
  rw [lg_entry_eq]
  generalize (lg_sl ([.ref (B + 0)]) ++ List.replicate (2 - (lg_sl ([.ref (B + 0)])).length) Slot.unset).toArray = ls at hl ⊢
  have hl : lv_has ls 2 [(0, .ref (B + 0))] := hl
  generalize ([.ref (B + 0)] : List Value).toArray = aa at hts ⊢
  show W pp l ee rmX7_init ss mm aa bb mt cd ss.heap [] 0 0 _ (F0 mm 0 ls [])
  generalize hQ : MQ bb (va_Qv (fun y => ∀ b, b < 117 → y b = TX G B b) (ZB G B (117)) (blkF B)) aa ss 116 1757 (blkF B) = Q
  have T0 : TI G B 1 z := fun b b0 b1 _ _ _ => absurd (show b = 0 by omega) b1
  refine lv_aload_n hx hb dX7_init_0 rfl (lv_at hl 0 rfl) ?_
  refine W.objInit hx hb hown (hts _ kX7_init_oi) (hts _ kX7_init_om) (hts _ kX7_init_oc) rfl (by rw [hml]; exact hl.1) rfl dX7_init_1 (Nat.le_of_ble_eq_true rfl) (Nat.le_of_ble_eq_true rfl) ?_
  refine W.eq (g2 := F0 mm 4 ls []) rfl ?_
  refine lv_aload_n hx hb dX7_init_4 rfl (lv_at hl 0 rfl) ?_
  refine lv_bipush (v := 8) hx hb dX7_init_5 (by decide) ?_
  refine z_newq (C := "WindTaken$Row") (t0 := 5) (cA := G.2 5) (N := 8) hx hb hown (hts _ kX7_init_cl9) hO.2.2.2 rfl hK hX hS (by decide) (by decide) (by decide) (Nat.le_of_ble_eq_true rfl) (Nat.le_of_ble_eq_true rfl) dX7_init_7 (fun H hX hS => ?_)
  refine W.widen (k := 1) (n := 8) (by omega) (by omega) ?_
  have hX : MZ G B (2) (zs z (1) (.inl (G.2 5, 8, rfs (fun _ => none)))) H := hX
  obtain ⟨z_1, ez_1⟩ : ∃ z9, z9 = zs z (1) (.inl (G.2 5, 8, rfs (fun _ => none))) := ⟨_, rfl⟩
  rw [← ez_1] at hX
  have k_2 : z_1 (0) = .inr (7, [.null, .null, .null, .null, .null, .null, .null, .int 0, .int 0]) := by rw [ez_1, zs_ne (by omega)]; exact hz
  have k_3 : z_1 (1) = .inl (G.2 5, 8, rfs (fun _ => none)) := by rw [ez_1, zs_eq]
  have T_4 : TI G B (2) z_1 := by rw [ez_1]; exact (T0.up (by decide)).set (by decide)
  refine z_putF (a := 0) (v := .ref (B + 1)) (ty := .array (.object "WindTaken$Row")) hx hb hts iX7_init_X7 tyX7 tyX7_ok nmX7 hown hK hX hS (by omega) k_2 rfl 0 (by decide) (hts _ kX7_init_11) (fun _ h9 => h9) rfl hin rfl (by decide +kernel) rfl rfl (Nat.le_of_ble_eq_true rfl) dX7_init_10 (fun H lo hX hS => ?_)
  have hX : MZ G B (2) (zs z_1 (0) (.inr (7, [.ref (B + 1), .null, .null, .null, .null, .null, .null, .int 0, .int 0]))) H := hX
  obtain ⟨z_5, ez_5⟩ : ∃ z9, z9 = zs z_1 (0) (.inr (7, [.ref (B + 1), .null, .null, .null, .null, .null, .null, .int 0, .int 0])) := ⟨_, rfl⟩
  rw [← ez_5] at hX
  have k_6 : z_5 (1) = .inl (G.2 5, 8, rfs (fun _ => none)) := by rw [ez_5, zs_ne (by omega)]; exact k_3
  have k_7 : z_5 (0) = .inr (7, [.ref (B + 1), .null, .null, .null, .null, .null, .null, .int 0, .int 0]) := by rw [ez_5, zs_eq]
  have T_8 : TI G B (2) z_5 := by rw [ez_5]; exact (T_4).set (by decide)
  refine lv_aload_n hx hb dX7_init_13 rfl (lv_at hl 0 rfl) ?_
  refine z_new (ci := 2) (fs := [.null, .int 0, .int 0, .int 0, .int 0, .int 0, .int 0]) (C := RX2) (T := TX2) (N := 7) hx hb hts iX7_init_X2 tyX2 tyX2_ok hown (hts _ kX7_init_cl15) (hts _ kX7_init_in2) (hts _ kX7_init_ini2) hK hX hS rfl (by intro j hj; rcases (show j = 0 ∨ j = 1 ∨ j = 2 ∨ j = 3 ∨ j = 4 ∨ j = 5 ∨ j = 6 by omega) with rfl | rfl | rfl | rfl | rfl | rfl | rfl <;> rfl) (Nat.le_of_ble_eq_true rfl) (Nat.le_of_ble_eq_true rfl) dX7_init_14 (fun H hX hS => ?_)
  refine W.widen (k := 2) (n := 15) (by omega) (by omega) ?_
  have hX : MZ G B (3) (zs z_5 (2) (.inr (2, [.null, .int 0, .int 0, .int 0, .int 0, .int 0, .int 0]))) H := hX
  obtain ⟨z_9, ez_9⟩ : ∃ z9, z9 = zs z_5 (2) (.inr (2, [.null, .int 0, .int 0, .int 0, .int 0, .int 0, .int 0])) := ⟨_, rfl⟩
  rw [← ez_9] at hX
  have k_10 : z_9 (1) = .inl (G.2 5, 8, rfs (fun _ => none)) := by rw [ez_9, zs_ne (by omega)]; exact k_6
  have k_11 : z_9 (0) = .inr (7, [.ref (B + 1), .null, .null, .null, .null, .null, .null, .int 0, .int 0]) := by rw [ez_9, zs_ne (by omega)]; exact k_7
  have k_12 : z_9 (2) = .inr (2, [.null, .int 0, .int 0, .int 0, .int 0, .int 0, .int 0]) := by rw [ez_9, zs_eq]
  refine lv_dup hx hb dX7_init_17 rfl ?_
  refine z_vf (n' := 5) (va_runIN (host := "WindTaken") (As := []) (rest := [.ref (B + 2), .ref (B + 0)]) ⟨hx, hb, hml, hown, hts⟩ (c_X2_init l G B (n := 3) (a := 2)  z_9 (by decide) k_12) ⟨va_cnB 0 hts gX7_init_X2_init_n17 rfl rfl rfl (hK.2 _ (List.mem_of_getElem? (i := 6) rfl)) (hts _ kX7_init_ini2) (by decide +kernel) ⟨Nat.le_of_ble_eq_true rfl, Nat.le_of_ble_eq_true rfl⟩, rfl, (hts _ kX7_init_im_X2_init)⟩ (z_pre hX ⟨hK, hO⟩ [.ref (B + 2)]) rfl rfl hl.1 rfl (lv_room (Nat.le_of_ble_eq_true rfl)) dX7_init_18 ⟨(Nat.le_of_ble_eq_true rfl), (Nat.le_of_ble_eq_true rfl)⟩) hS (fun y_13 H lo hp hX hS => ?_)
  try dsimp only at hp
  refine W.widen (k := 4) (n := 417) (by omega) (by omega) ?_
  have k_14 : y_13 (1) = .inl (G.2 5, 8, rfs (fun _ => none)) := ((hp.2.2.2 1 (by decide) (by decide) (by decide))).trans k_10
  have k_15 : y_13 (0) = .inr (7, [.ref (B + 1), .null, .null, .null, .null, .null, .null, .int 0, .int 0]) := ((hp.2.2.2 0 (by decide) (by decide) (by decide))).trans k_11
  have T_16 : TI G B (5) y_13 := TI.rd (T_8) (fun b hb9 => (hp.2.2.2 b (by omega) (by omega) (by omega)).trans (by rw [ez_9, zs_ne (by omega)])) hp.1 hp.2.1 hp.2.2.1
  refine z_putF (a := 0) (v := .ref (B + 2)) (ty := .object "WindTaken$Reader") hx hb hts iX7_init_X7 tyX7 tyX7_ok nmX7 hown hK hX hS (by omega) k_15 rfl 1 (by decide) (hts _ kX7_init_18) (fun _ h9 => h9) rfl hin rfl (by decide +kernel) rfl rfl (Nat.le_of_ble_eq_true rfl) dX7_init_21 (fun H lo hX hS => ?_)
  have hX : MZ G B (5) (zs y_13 (0) (.inr (7, [.ref (B + 1), .ref (B + 2), .null, .null, .null, .null, .null, .int 0, .int 0]))) H := hX
  obtain ⟨z_17, ez_17⟩ : ∃ z9, z9 = zs y_13 (0) (.inr (7, [.ref (B + 1), .ref (B + 2), .null, .null, .null, .null, .null, .int 0, .int 0])) := ⟨_, rfl⟩
  rw [← ez_17] at hX
  have k_18 : z_17 (1) = .inl (G.2 5, 8, rfs (fun _ => none)) := by rw [ez_17, zs_ne (by omega)]; exact k_14
  have k_19 : z_17 (0) = .inr (7, [.ref (B + 1), .ref (B + 2), .null, .null, .null, .null, .null, .int 0, .int 0]) := by rw [ez_17, zs_eq]
  have T_20 : TI G B (5) z_17 := by rw [ez_17]; exact (T_16).set (by decide)
  refine lv_aload_n hx hb dX7_init_24 rfl (lv_at hl 0 rfl) ?_
  refine z_new (ci := 3) (fs := [.null, .int 0, .int 0, .int 0, .int 0, .int 0]) (C := RX3) (T := TX3) (N := 6) hx hb hts iX7_init_X3 tyX3 tyX3_ok hown (hts _ kX7_init_cl22) (hts _ kX7_init_in3) (hts _ kX7_init_ini3) hK hX hS rfl (by intro j hj; rcases (show j = 0 ∨ j = 1 ∨ j = 2 ∨ j = 3 ∨ j = 4 ∨ j = 5 by omega) with rfl | rfl | rfl | rfl | rfl | rfl <;> rfl) (Nat.le_of_ble_eq_true rfl) (Nat.le_of_ble_eq_true rfl) dX7_init_25 (fun H hX hS => ?_)
  refine W.widen (k := 5) (n := 423) (by omega) (by omega) ?_
  have hX : MZ G B (6) (zs z_17 (5) (.inr (3, [.null, .int 0, .int 0, .int 0, .int 0, .int 0]))) H := hX
  obtain ⟨z_21, ez_21⟩ : ∃ z9, z9 = zs z_17 (5) (.inr (3, [.null, .int 0, .int 0, .int 0, .int 0, .int 0])) := ⟨_, rfl⟩
  rw [← ez_21] at hX
  have k_22 : z_21 (1) = .inl (G.2 5, 8, rfs (fun _ => none)) := by rw [ez_21, zs_ne (by omega)]; exact k_18
  have k_23 : z_21 (0) = .inr (7, [.ref (B + 1), .ref (B + 2), .null, .null, .null, .null, .null, .int 0, .int 0]) := by rw [ez_21, zs_ne (by omega)]; exact k_19
  have k_24 : z_21 (5) = .inr (3, [.null, .int 0, .int 0, .int 0, .int 0, .int 0]) := by rw [ez_21, zs_eq]
  refine lv_dup hx hb dX7_init_28 rfl ?_
  refine z_vf (n' := 15) (va_runI (As := []) (rest := [.ref (B + 5), .ref (B + 0)]) ⟨hx, hb, hml, hown, hts⟩ (c_X3_init l G B (n := 6) (a := 5)  z_21 (by decide) k_24) (cwI 0 hts gX7_init_X3_init rfl rfl rfl (hts _ kX7_init_ini3) (hts _ kX7_init_ml24) (hts _ kX7_init_im_X3_init) rfl (by decide +kernel) ⟨Nat.le_of_ble_eq_true rfl, Nat.le_of_ble_eq_true rfl⟩) (z_pre hX ⟨hK, hO⟩ [.ref (B + 5)]) rfl rfl hl.1 rfl (lv_room (Nat.le_of_ble_eq_true rfl)) dX7_init_29 ⟨(Nat.le_of_ble_eq_true rfl), (Nat.le_of_ble_eq_true rfl)⟩) hS (fun y_25 H lo hp hX hS => ?_)
  try dsimp only at hp
  refine W.widen (k := 14) (n := 527) (by omega) (by omega) ?_
  have k_26 : y_25 (1) = .inl (G.2 5, 8, rfs (fun _ => none)) := ((hp.2.2.2 1 (by decide) (by decide))).trans k_22
  have k_27 : y_25 (0) = .inr (7, [.ref (B + 1), .ref (B + 2), .null, .null, .null, .null, .null, .int 0, .int 0]) := ((hp.2.2.2 0 (by decide) (by decide))).trans k_23
  have T_28 : TI G B (15) y_25 := TI.rg (ρ := 5) rg5 (T_20) (fun b hb9 => (hp.2.2.2 b (by omega) (by omega)).trans (by rw [ez_21, zs_ne (by omega)])) hp.1 hp.2.1 hp.2.2.1
  refine z_putF (a := 0) (v := .ref (B + 5)) (ty := .object "WindTaken$Ridge") hx hb hts iX7_init_X7 tyX7 tyX7_ok nmX7 hown hK hX hS (by omega) k_27 rfl 2 (by decide) (hts _ kX7_init_25) (fun _ h9 => h9) rfl hin rfl (by decide +kernel) rfl rfl (Nat.le_of_ble_eq_true rfl) dX7_init_32 (fun H lo hX hS => ?_)
  have hX : MZ G B (15) (zs y_25 (0) (.inr (7, [.ref (B + 1), .ref (B + 2), .ref (B + 5), .null, .null, .null, .null, .int 0, .int 0]))) H := hX
  obtain ⟨z_29, ez_29⟩ : ∃ z9, z9 = zs y_25 (0) (.inr (7, [.ref (B + 1), .ref (B + 2), .ref (B + 5), .null, .null, .null, .null, .int 0, .int 0])) := ⟨_, rfl⟩
  rw [← ez_29] at hX
  have k_30 : z_29 (1) = .inl (G.2 5, 8, rfs (fun _ => none)) := by rw [ez_29, zs_ne (by omega)]; exact k_26
  have k_31 : z_29 (0) = .inr (7, [.ref (B + 1), .ref (B + 2), .ref (B + 5), .null, .null, .null, .null, .int 0, .int 0]) := by rw [ez_29, zs_eq]
  have T_32 : TI G B (15) z_29 := by rw [ez_29]; exact (T_28).set (by decide)
  refine lv_aload_n hx hb dX7_init_35 rfl (lv_at hl 0 rfl) ?_
  refine z_new (ci := 3) (fs := [.null, .int 0, .int 0, .int 0, .int 0, .int 0]) (C := RX3) (T := TX3) (N := 6) hx hb hts iX7_init_X3 tyX3 tyX3_ok hown (hts _ kX7_init_cl22) (hts _ kX7_init_in3) (hts _ kX7_init_ini3) hK hX hS rfl (by intro j hj; rcases (show j = 0 ∨ j = 1 ∨ j = 2 ∨ j = 3 ∨ j = 4 ∨ j = 5 by omega) with rfl | rfl | rfl | rfl | rfl | rfl <;> rfl) (Nat.le_of_ble_eq_true rfl) (Nat.le_of_ble_eq_true rfl) dX7_init_36 (fun H hX hS => ?_)
  refine W.widen (k := 15) (n := 533) (by omega) (by omega) ?_
  have hX : MZ G B (16) (zs z_29 (15) (.inr (3, [.null, .int 0, .int 0, .int 0, .int 0, .int 0]))) H := hX
  obtain ⟨z_33, ez_33⟩ : ∃ z9, z9 = zs z_29 (15) (.inr (3, [.null, .int 0, .int 0, .int 0, .int 0, .int 0])) := ⟨_, rfl⟩
  rw [← ez_33] at hX
  have k_34 : z_33 (1) = .inl (G.2 5, 8, rfs (fun _ => none)) := by rw [ez_33, zs_ne (by omega)]; exact k_30
  have k_35 : z_33 (0) = .inr (7, [.ref (B + 1), .ref (B + 2), .ref (B + 5), .null, .null, .null, .null, .int 0, .int 0]) := by rw [ez_33, zs_ne (by omega)]; exact k_31
  have k_36 : z_33 (15) = .inr (3, [.null, .int 0, .int 0, .int 0, .int 0, .int 0]) := by rw [ez_33, zs_eq]
  refine lv_dup hx hb dX7_init_39 rfl ?_
  refine z_vf (n' := 25) (va_runI (As := []) (rest := [.ref (B + 15), .ref (B + 0)]) ⟨hx, hb, hml, hown, hts⟩ (c_X3_init l G B (n := 16) (a := 15)  z_33 (by decide) k_36) (cwI 0 hts gX7_init_X3_init rfl rfl rfl (hts _ kX7_init_ini3) (hts _ kX7_init_ml24) (hts _ kX7_init_im_X3_init) rfl (by decide +kernel) ⟨Nat.le_of_ble_eq_true rfl, Nat.le_of_ble_eq_true rfl⟩) (z_pre hX ⟨hK, hO⟩ [.ref (B + 15)]) rfl rfl hl.1 rfl (lv_room (Nat.le_of_ble_eq_true rfl)) dX7_init_40 ⟨(Nat.le_of_ble_eq_true rfl), (Nat.le_of_ble_eq_true rfl)⟩) hS (fun y_37 H lo hp hX hS => ?_)
  try dsimp only at hp
  refine W.widen (k := 24) (n := 637) (by omega) (by omega) ?_
  have k_38 : y_37 (1) = .inl (G.2 5, 8, rfs (fun _ => none)) := ((hp.2.2.2 1 (by decide) (by decide))).trans k_34
  have k_39 : y_37 (0) = .inr (7, [.ref (B + 1), .ref (B + 2), .ref (B + 5), .null, .null, .null, .null, .int 0, .int 0]) := ((hp.2.2.2 0 (by decide) (by decide))).trans k_35
  have T_40 : TI G B (25) y_37 := TI.rg (ρ := 15) rg15 (T_32) (fun b hb9 => (hp.2.2.2 b (by omega) (by omega)).trans (by rw [ez_33, zs_ne (by omega)])) hp.1 hp.2.1 hp.2.2.1
  refine z_putF (a := 0) (v := .ref (B + 15)) (ty := .object "WindTaken$Ridge") hx hb hts iX7_init_X7 tyX7 tyX7_ok nmX7 hown hK hX hS (by omega) k_39 rfl 3 (by decide) (hts _ kX7_init_29) (fun _ h9 => h9) rfl hin rfl (by decide +kernel) rfl rfl (Nat.le_of_ble_eq_true rfl) dX7_init_43 (fun H lo hX hS => ?_)
  have hX : MZ G B (25) (zs y_37 (0) (.inr (7, [.ref (B + 1), .ref (B + 2), .ref (B + 5), .ref (B + 15), .null, .null, .null, .int 0, .int 0]))) H := hX
  obtain ⟨z_41, ez_41⟩ : ∃ z9, z9 = zs y_37 (0) (.inr (7, [.ref (B + 1), .ref (B + 2), .ref (B + 5), .ref (B + 15), .null, .null, .null, .int 0, .int 0])) := ⟨_, rfl⟩
  rw [← ez_41] at hX
  have k_42 : z_41 (1) = .inl (G.2 5, 8, rfs (fun _ => none)) := by rw [ez_41, zs_ne (by omega)]; exact k_38
  have k_43 : z_41 (0) = .inr (7, [.ref (B + 1), .ref (B + 2), .ref (B + 5), .ref (B + 15), .null, .null, .null, .int 0, .int 0]) := by rw [ez_41, zs_eq]
  have T_44 : TI G B (25) z_41 := by rw [ez_41]; exact (T_40).set (by decide)
  refine lv_aload_n hx hb dX7_init_46 rfl (lv_at hl 0 rfl) ?_
  refine lv_iconst (v := 2) hx hb dX7_init_47 (by decide) ?_
  refine z_newq (C := "WindTaken$Ridge") (t0 := 4) (cA := G.2 4) (N := 2) hx hb hown (hts _ kX7_init_cl22) hO.2.2.1 rfl hK hX hS (by decide) (by decide) (by decide) (Nat.le_of_ble_eq_true rfl) (Nat.le_of_ble_eq_true rfl) dX7_init_48 (fun H hX hS => ?_)
  refine W.widen (k := 25) (n := 639) (by omega) (by omega) ?_
  have hX : MZ G B (26) (zs z_41 (25) (.inl (G.2 4, 2, rfs (fun _ => none)))) H := hX
  obtain ⟨z_45, ez_45⟩ : ∃ z9, z9 = zs z_41 (25) (.inl (G.2 4, 2, rfs (fun _ => none))) := ⟨_, rfl⟩
  rw [← ez_45] at hX
  have k_46 : z_45 (1) = .inl (G.2 5, 8, rfs (fun _ => none)) := by rw [ez_45, zs_ne (by omega)]; exact k_42
  have k_47 : z_45 (0) = .inr (7, [.ref (B + 1), .ref (B + 2), .ref (B + 5), .ref (B + 15), .null, .null, .null, .int 0, .int 0]) := by rw [ez_45, zs_ne (by omega)]; exact k_43
  have k_48 : z_45 (25) = .inl (G.2 4, 2, rfs (fun _ => none)) := by rw [ez_45, zs_eq]
  have T_49 : TI G B (26) z_45 := by rw [ez_45]; exact (T_44.up (by decide)).set (by decide)
  refine z_putF (a := 0) (v := .ref (B + 25)) (ty := .array (.object "WindTaken$Ridge")) hx hb hts iX7_init_X7 tyX7 tyX7_ok nmX7 hown hK hX hS (by omega) k_47 rfl 4 (by decide) (hts _ kX7_init_32) (fun _ h9 => h9) rfl hin rfl (by decide +kernel) rfl rfl (Nat.le_of_ble_eq_true rfl) dX7_init_51 (fun H lo hX hS => ?_)
  have hX : MZ G B (26) (zs z_45 (0) (.inr (7, [.ref (B + 1), .ref (B + 2), .ref (B + 5), .ref (B + 15), .ref (B + 25), .null, .null, .int 0, .int 0]))) H := hX
  obtain ⟨z_50, ez_50⟩ : ∃ z9, z9 = zs z_45 (0) (.inr (7, [.ref (B + 1), .ref (B + 2), .ref (B + 5), .ref (B + 15), .ref (B + 25), .null, .null, .int 0, .int 0])) := ⟨_, rfl⟩
  rw [← ez_50] at hX
  have k_51 : z_50 (1) = .inl (G.2 5, 8, rfs (fun _ => none)) := by rw [ez_50, zs_ne (by omega)]; exact k_46
  have k_52 : z_50 (25) = .inl (G.2 4, 2, rfs (fun _ => none)) := by rw [ez_50, zs_ne (by omega)]; exact k_48
  have k_53 : z_50 (0) = .inr (7, [.ref (B + 1), .ref (B + 2), .ref (B + 5), .ref (B + 15), .ref (B + 25), .null, .null, .int 0, .int 0]) := by rw [ez_50, zs_eq]
  have T_54 : TI G B (26) z_50 := by rw [ez_50]; exact (T_49).set (by decide)
  refine lv_aload_n hx hb dX7_init_54 rfl (lv_at hl 0 rfl) ?_
  refine lv_iconst (v := 4) hx hb dX7_init_55 (by decide) ?_
  refine z_newq (C := "WindTaken$Quarter") (t0 := 3) (cA := G.2 3) (N := 4) hx hb hown (hts _ kX7_init_cl36) hO.2.1 rfl hK hX hS (by decide) (by decide) (by decide) (Nat.le_of_ble_eq_true rfl) (Nat.le_of_ble_eq_true rfl) dX7_init_56 (fun H hX hS => ?_)
  refine W.widen (k := 26) (n := 643) (by omega) (by omega) ?_
  have hX : MZ G B (27) (zs z_50 (26) (.inl (G.2 3, 4, rfs (fun _ => none)))) H := hX
  obtain ⟨z_55, ez_55⟩ : ∃ z9, z9 = zs z_50 (26) (.inl (G.2 3, 4, rfs (fun _ => none))) := ⟨_, rfl⟩
  rw [← ez_55] at hX
  have k_56 : z_55 (1) = .inl (G.2 5, 8, rfs (fun _ => none)) := by rw [ez_55, zs_ne (by omega)]; exact k_51
  have k_57 : z_55 (25) = .inl (G.2 4, 2, rfs (fun _ => none)) := by rw [ez_55, zs_ne (by omega)]; exact k_52
  have k_58 : z_55 (0) = .inr (7, [.ref (B + 1), .ref (B + 2), .ref (B + 5), .ref (B + 15), .ref (B + 25), .null, .null, .int 0, .int 0]) := by rw [ez_55, zs_ne (by omega)]; exact k_53
  have k_59 : z_55 (26) = .inl (G.2 3, 4, rfs (fun _ => none)) := by rw [ez_55, zs_eq]
  have T_60 : TI G B (27) z_55 := by rw [ez_55]; exact (T_54.up (by decide)).set (by decide)
  refine z_putF (a := 0) (v := .ref (B + 26)) (ty := .array (.object "WindTaken$Quarter")) hx hb hts iX7_init_X7 tyX7 tyX7_ok nmX7 hown hK hX hS (by omega) k_58 rfl 5 (by decide) (hts _ kX7_init_38) (fun _ h9 => h9) rfl hin rfl (by decide +kernel) rfl rfl (Nat.le_of_ble_eq_true rfl) dX7_init_59 (fun H lo hX hS => ?_)
  have hX : MZ G B (27) (zs z_55 (0) (.inr (7, [.ref (B + 1), .ref (B + 2), .ref (B + 5), .ref (B + 15), .ref (B + 25), .ref (B + 26), .null, .int 0, .int 0]))) H := hX
  obtain ⟨z_61, ez_61⟩ : ∃ z9, z9 = zs z_55 (0) (.inr (7, [.ref (B + 1), .ref (B + 2), .ref (B + 5), .ref (B + 15), .ref (B + 25), .ref (B + 26), .null, .int 0, .int 0])) := ⟨_, rfl⟩
  rw [← ez_61] at hX
  have k_62 : z_61 (1) = .inl (G.2 5, 8, rfs (fun _ => none)) := by rw [ez_61, zs_ne (by omega)]; exact k_56
  have k_63 : z_61 (25) = .inl (G.2 4, 2, rfs (fun _ => none)) := by rw [ez_61, zs_ne (by omega)]; exact k_57
  have k_64 : z_61 (26) = .inl (G.2 3, 4, rfs (fun _ => none)) := by rw [ez_61, zs_ne (by omega)]; exact k_59
  have k_65 : z_61 (0) = .inr (7, [.ref (B + 1), .ref (B + 2), .ref (B + 5), .ref (B + 15), .ref (B + 25), .ref (B + 26), .null, .int 0, .int 0]) := by rw [ez_61, zs_eq]
  have T_66 : TI G B (27) z_61 := by rw [ez_61]; exact (T_60).set (by decide)
  refine lv_aload_n hx hb dX7_init_62 rfl (lv_at hl 0 rfl) ?_
  refine z_new (ci := 6) (fs := [.null, .int 0]) (C := RX6) (T := TX6) (N := 2) hx hb hts iX7_init_X6 tyX6 tyX6_ok hown (hts _ kX7_init_cl42) (hts _ kX7_init_in6) (hts _ kX7_init_ini6) hK hX hS rfl (by intro j hj; rcases (show j = 0 ∨ j = 1 by omega) with rfl | rfl <;> rfl) (Nat.le_of_ble_eq_true rfl) (Nat.le_of_ble_eq_true rfl) dX7_init_63 (fun H hX hS => ?_)
  refine W.widen (k := 27) (n := 645) (by omega) (by omega) ?_
  have hX : MZ G B (28) (zs z_61 (27) (.inr (6, [.null, .int 0]))) H := hX
  obtain ⟨z_67, ez_67⟩ : ∃ z9, z9 = zs z_61 (27) (.inr (6, [.null, .int 0])) := ⟨_, rfl⟩
  rw [← ez_67] at hX
  have k_68 : z_67 (1) = .inl (G.2 5, 8, rfs (fun _ => none)) := by rw [ez_67, zs_ne (by omega)]; exact k_62
  have k_69 : z_67 (25) = .inl (G.2 4, 2, rfs (fun _ => none)) := by rw [ez_67, zs_ne (by omega)]; exact k_63
  have k_70 : z_67 (26) = .inl (G.2 3, 4, rfs (fun _ => none)) := by rw [ez_67, zs_ne (by omega)]; exact k_64
  have k_71 : z_67 (0) = .inr (7, [.ref (B + 1), .ref (B + 2), .ref (B + 5), .ref (B + 15), .ref (B + 25), .ref (B + 26), .null, .int 0, .int 0]) := by rw [ez_67, zs_ne (by omega)]; exact k_65
  have k_72 : z_67 (27) = .inr (6, [.null, .int 0]) := by rw [ez_67, zs_eq]
  refine lv_dup hx hb dX7_init_66 rfl ?_
  refine z_vf (n' := 29) (va_runIN (host := "WindTaken") (As := []) (rest := [.ref (B + 27), .ref (B + 0)]) ⟨hx, hb, hml, hown, hts⟩ (c_X6_init l G B (n := 28) (a := 27)  z_67 (by decide) k_72) ⟨va_cnB 0 hts gX7_init_X6_init_n44 rfl rfl rfl (hK.2 _ (List.mem_of_getElem? (i := 7) rfl)) (hts _ kX7_init_ini6) (by decide +kernel) ⟨Nat.le_of_ble_eq_true rfl, Nat.le_of_ble_eq_true rfl⟩, rfl, (hts _ kX7_init_im_X6_init)⟩ (z_pre hX ⟨hK, hO⟩ [.ref (B + 27)]) rfl rfl hl.1 rfl (lv_room (Nat.le_of_ble_eq_true rfl)) dX7_init_67 ⟨(Nat.le_of_ble_eq_true rfl), (Nat.le_of_ble_eq_true rfl)⟩) hS (fun y_73 H lo hp hX hS => ?_)
  try dsimp only at hp
  refine W.widen (k := 28) (n := 661) (by omega) (by omega) ?_
  have k_74 : y_73 (1) = .inl (G.2 5, 8, rfs (fun _ => none)) := ((hp.2.2 1 (by decide) (by decide))).trans k_68
  have k_75 : y_73 (25) = .inl (G.2 4, 2, rfs (fun _ => none)) := ((hp.2.2 25 (by decide) (by decide))).trans k_69
  have k_76 : y_73 (26) = .inl (G.2 3, 4, rfs (fun _ => none)) := ((hp.2.2 26 (by decide) (by decide))).trans k_70
  have k_77 : y_73 (0) = .inr (7, [.ref (B + 1), .ref (B + 2), .ref (B + 5), .ref (B + 15), .ref (B + 25), .ref (B + 26), .null, .int 0, .int 0]) := ((hp.2.2 0 (by decide) (by decide))).trans k_71
  have T_78 : TI G B (29) y_73 := TI.tr (T_66) (fun b hb9 => (hp.2.2 b (by omega) (by omega)).trans (by rw [ez_67, zs_ne (by omega)])) hp.1 hp.2.1
  refine z_putF (a := 0) (v := .ref (B + 27)) (ty := .object "WindTaken$Trace") hx hb hts iX7_init_X7 tyX7 tyX7_ok nmX7 hown hK hX hS (by omega) k_77 rfl 6 (by decide) (hts _ kX7_init_45) (fun _ h9 => h9) rfl hin rfl (by decide +kernel) rfl rfl (Nat.le_of_ble_eq_true rfl) dX7_init_70 (fun H lo hX hS => ?_)
  have hX : MZ G B (29) (zs y_73 (0) (.inr (7, [.ref (B + 1), .ref (B + 2), .ref (B + 5), .ref (B + 15), .ref (B + 25), .ref (B + 26), .ref (B + 27), .int 0, .int 0]))) H := hX
  obtain ⟨z_79, ez_79⟩ : ∃ z9, z9 = zs y_73 (0) (.inr (7, [.ref (B + 1), .ref (B + 2), .ref (B + 5), .ref (B + 15), .ref (B + 25), .ref (B + 26), .ref (B + 27), .int 0, .int 0])) := ⟨_, rfl⟩
  rw [← ez_79] at hX
  have k_80 : z_79 (1) = .inl (G.2 5, 8, rfs (fun _ => none)) := by rw [ez_79, zs_ne (by omega)]; exact k_74
  have k_81 : z_79 (25) = .inl (G.2 4, 2, rfs (fun _ => none)) := by rw [ez_79, zs_ne (by omega)]; exact k_75
  have k_82 : z_79 (26) = .inl (G.2 3, 4, rfs (fun _ => none)) := by rw [ez_79, zs_ne (by omega)]; exact k_76
  have k_83 : z_79 (0) = .inr (7, [.ref (B + 1), .ref (B + 2), .ref (B + 5), .ref (B + 15), .ref (B + 25), .ref (B + 26), .ref (B + 27), .int 0, .int 0]) := by rw [ez_79, zs_eq]
  have T_84 : TI G B (29) z_79 := by rw [ez_79]; exact (T_78).set (by decide)
  refine lv_iconst (v := 0) hx hb dX7_init_73 (by decide) ?_
  refine lv_istore_n (lv' := [(1, .int 0), (0, .ref (B + 0))]) hx hb dX7_init_74 rfl hl (by decide) rfl (fun ls hl => ?_)
  have La : ∀ (n9 i : Nat) (z1 : Nat → va_E) (f : Nat → Option Nat) (_ : n9 = 8 - i) (_ : i ≤ 8 ∧ z1 0 = .inr (7, [.ref (B + 1), .ref (B + 2), .ref (B + 5), .ref (B + 15), .ref (B + 25), .ref (B + 26), .ref (B + 27), .int 0, .int 0]) ∧ z1 1 = .inl (G.2 5, 8, rfs (f)) ∧ z1 25 = .inl (G.2 4, 2, rfs (fun _ => none)) ∧ z1 26 = .inl (G.2 3, 4, rfs (fun _ => none)) ∧ (∀ j, j < i → f j = some (B + (29 + 2 * j))) ∧ TI G B (29 + 2 * i) z1) (H : Heap) (lo : List Loc) (_ : MZ G B (29 + 2 * i) z1 H) (_ : va_S (blkF B) ss.heap H lo) (ls : Array Slot) (_ : lv_has ls 2 [(1, .int (nI i)), (0, .ref (B + 0))]), W pp l ee rmX7_init ss mm aa bb mt cd H lo (28 + 2 * i) (661 + 43 * i) Q (F0 mm 75 ls []) := by
    intro n9
    induction n9 using Nat.strongRecOn with
    | _ n9 ih =>
      intro i z1 f hn9 hI H lo hX hS ls hl
      obtain ⟨hi, g0, ga, gb, gc, gf, gT⟩ := hI
      refine lv_iload_n hx hb dX7_init_75 rfl (lv_at hl 0 rfl) ?_
      refine lv_bipush (v := 8) hx hb dX7_init_76 (by decide) ?_
      refine lv_icmp_ge (tgt := 100) hx hb dX7_init_78 (by decide) (fun c9 => ?_) (fun c9 => ?_)
      · have n9c := (n_le (a := 8) (b := i) rfl rfl (by decide) (by omega)).mp c9
        have e8 : i = 8 := by omega
        subst e8
        have hX2 := hX.rf (a := 1) (by omega) ga (g := fun j => some (B + (29 + 2 * j))) gf
        obtain ⟨z_85, ez_85⟩ : ∃ z9, z9 = zs z1 1 (.inl (G.2 5, 8, rfs (fun j => some (B + (29 + 2 * j))))) := ⟨_, rfl⟩
        rw [← ez_85] at hX2
        have k_86 : z_85 (0) = .inr (7, [.ref (B + 1), .ref (B + 2), .ref (B + 5), .ref (B + 15), .ref (B + 25), .ref (B + 26), .ref (B + 27), .int 0, .int 0]) := by rw [ez_85, zs_ne (by decide)]; exact g0
        have k_87 : z_85 (25) = .inl (G.2 4, 2, rfs (fun _ => none)) := by rw [ez_85, zs_ne (by decide)]; exact gb
        have k_88 : z_85 (26) = .inl (G.2 3, 4, rfs (fun _ => none)) := by rw [ez_85, zs_ne (by decide)]; exact gc
        have k_89 : z_85 (1) = .inl (G.2 5, 8, rfs (fun j => some (B + (29 + 2 * j)))) := by rw [ez_85, zs_eq]
        have T_90 : TI G B (29 + 2 * 8) z_85 := by rw [ez_85]; exact gT.set (by decide)
        have hX := hX2
        have hl : lv_has ls 2 [(0, .ref (B + 0))] := lv_sub hl [1] rfl
        refine W.widen (k := 44) (n := 1005) (by omega) (by omega) ?_
        refine lv_iconst (v := 0) hx hb dX7_init_100 (by decide) ?_
        refine lv_istore_n (lv' := [(1, .int 0), (0, .ref (B + 0))]) hx hb dX7_init_101 rfl hl (by decide) rfl (fun ls hl => ?_)
        have Lb : ∀ (n9 i : Nat) (z1 : Nat → va_E) (f : Nat → Option Nat) (_ : n9 = 2 - i) (_ : i ≤ 2 ∧ z1 0 = .inr (7, [.ref (B + 1), .ref (B + 2), .ref (B + 5), .ref (B + 15), .ref (B + 25), .ref (B + 26), .ref (B + 27), .int 0, .int 0]) ∧ z1 25 = .inl (G.2 4, 2, rfs (f)) ∧ z1 1 = .inl (G.2 5, 8, rfs (fun j => some (B + (29 + 2 * j)))) ∧ z1 26 = .inl (G.2 3, 4, rfs (fun _ => none)) ∧ (∀ j, j < i → f j = some (B + (45 + 10 * j))) ∧ TI G B (45 + 10 * i) z1) (H : Heap) (lo : List Loc) (_ : MZ G B (45 + 10 * i) z1 H) (_ : va_S (blkF B) ss.heap H lo) (ls : Array Slot) (_ : lv_has ls 2 [(1, .int (nI i)), (0, .ref (B + 0))]), W pp l ee rmX7_init ss mm aa bb mt cd H lo (44 + 10 * i) (1005 + 110 * i) Q (F0 mm 102 ls []) := by
          intro n9
          induction n9 using Nat.strongRecOn with
          | _ n9 ih =>
            intro i z1 f hn9 hI H lo hX hS ls hl
            obtain ⟨hi, g0, ga, gb, gc, gf, gT⟩ := hI
            refine lv_iload_n hx hb dX7_init_102 rfl (lv_at hl 0 rfl) ?_
            refine lv_iconst (v := 2) hx hb dX7_init_103 (by decide) ?_
            refine lv_icmp_ge (tgt := 126) hx hb dX7_init_104 (by decide) (fun c9 => ?_) (fun c9 => ?_)
            · have n9c := (n_le (a := 2) (b := i) rfl rfl (by decide) (by omega)).mp c9
              have e8 : i = 2 := by omega
              subst e8
              have hX2 := hX.rf (a := 25) (by omega) ga (g := fun j => some (B + (45 + 10 * j))) gf
              obtain ⟨z_91, ez_91⟩ : ∃ z9, z9 = zs z1 25 (.inl (G.2 4, 2, rfs (fun j => some (B + (45 + 10 * j))))) := ⟨_, rfl⟩
              rw [← ez_91] at hX2
              have k_92 : z_91 (0) = .inr (7, [.ref (B + 1), .ref (B + 2), .ref (B + 5), .ref (B + 15), .ref (B + 25), .ref (B + 26), .ref (B + 27), .int 0, .int 0]) := by rw [ez_91, zs_ne (by decide)]; exact g0
              have k_93 : z_91 (1) = .inl (G.2 5, 8, rfs (fun j => some (B + (29 + 2 * j)))) := by rw [ez_91, zs_ne (by decide)]; exact gb
              have k_94 : z_91 (26) = .inl (G.2 3, 4, rfs (fun _ => none)) := by rw [ez_91, zs_ne (by decide)]; exact gc
              have k_95 : z_91 (25) = .inl (G.2 4, 2, rfs (fun j => some (B + (45 + 10 * j)))) := by rw [ez_91, zs_eq]
              have T_96 : TI G B (45 + 10 * 2) z_91 := by rw [ez_91]; exact gT.set (by decide)
              have hX := hX2
              have hl : lv_has ls 2 [(0, .ref (B + 0))] := lv_sub hl [1] rfl
              refine W.widen (k := 64) (n := 1225) (by omega) (by omega) ?_
              refine lv_iconst (v := 0) hx hb dX7_init_126 (by decide) ?_
              refine lv_istore_n (lv' := [(1, .int 0), (0, .ref (B + 0))]) hx hb dX7_init_127 rfl hl (by decide) rfl (fun ls hl => ?_)
              have Lc : ∀ (n9 i : Nat) (z1 : Nat → va_E) (f : Nat → Option Nat) (_ : n9 = 4 - i) (_ : i ≤ 4 ∧ z1 0 = .inr (7, [.ref (B + 1), .ref (B + 2), .ref (B + 5), .ref (B + 15), .ref (B + 25), .ref (B + 26), .ref (B + 27), .int 0, .int 0]) ∧ z1 26 = .inl (G.2 3, 4, rfs (f)) ∧ z1 1 = .inl (G.2 5, 8, rfs (fun j => some (B + (29 + 2 * j)))) ∧ z1 25 = .inl (G.2 4, 2, rfs (fun j => some (B + (45 + 10 * j)))) ∧ (∀ j, j < i → f j = some (B + (65 + 13 * j))) ∧ TI G B (65 + 13 * i) z1) (H : Heap) (lo : List Loc) (_ : MZ G B (65 + 13 * i) z1 H) (_ : va_S (blkF B) ss.heap H lo) (ls : Array Slot) (_ : lv_has ls 2 [(1, .int (nI i)), (0, .ref (B + 0))]), W pp l ee rmX7_init ss mm aa bb mt cd H lo (64 + 13 * i) (1225 + 133 * i) Q (F0 mm 128 ls []) := by
                intro n9
                induction n9 using Nat.strongRecOn with
                | _ n9 ih =>
                  intro i z1 f hn9 hI H lo hX hS ls hl
                  obtain ⟨hi, g0, ga, gb, gc, gf, gT⟩ := hI
                  refine lv_iload_n hx hb dX7_init_128 rfl (lv_at hl 0 rfl) ?_
                  refine lv_iconst (v := 4) hx hb dX7_init_129 (by decide) ?_
                  refine lv_icmp_ge (tgt := 152) hx hb dX7_init_130 (by decide) (fun c9 => ?_) (fun c9 => ?_)
                  · have n9c := (n_le (a := 4) (b := i) rfl rfl (by decide) (by omega)).mp c9
                    have e8 : i = 4 := by omega
                    subst e8
                    have hX2 := hX.rf (a := 26) (by omega) ga (g := fun j => some (B + (65 + 13 * j))) gf
                    obtain ⟨z_97, ez_97⟩ : ∃ z9, z9 = zs z1 26 (.inl (G.2 3, 4, rfs (fun j => some (B + (65 + 13 * j))))) := ⟨_, rfl⟩
                    rw [← ez_97] at hX2
                    have k_98 : z_97 (0) = .inr (7, [.ref (B + 1), .ref (B + 2), .ref (B + 5), .ref (B + 15), .ref (B + 25), .ref (B + 26), .ref (B + 27), .int 0, .int 0]) := by rw [ez_97, zs_ne (by decide)]; exact g0
                    have k_99 : z_97 (1) = .inl (G.2 5, 8, rfs (fun j => some (B + (29 + 2 * j)))) := by rw [ez_97, zs_ne (by decide)]; exact gb
                    have k_100 : z_97 (25) = .inl (G.2 4, 2, rfs (fun j => some (B + (45 + 10 * j)))) := by rw [ez_97, zs_ne (by decide)]; exact gc
                    have k_101 : z_97 (26) = .inl (G.2 3, 4, rfs (fun j => some (B + (65 + 13 * j)))) := by rw [ez_97, zs_eq]
                    have T_102 : TI G B (65 + 13 * 4) z_97 := by rw [ez_97]; exact gT.set (by decide)
                    have hX := hX2
                    refine W.widen (k := 116) (n := 1757) (by omega) (by omega) ?_
                    rw [← hQ]
                    exact z_vret hx hb hr hX hS hlocks dX7_init_152 (TI.fin T_102 k_98 k_99 k_100 k_101)
                  · have n9c : i < 4 := Nat.lt_of_not_le (fun q => c9 ((n_le (a := 4) (b := i) rfl rfl (by decide) (by omega)).mpr q))
                    refine lv_aload_n hx hb dX7_init_133 rfl (lv_at hl 1 rfl) ?_
                    refine z_get (a := 0) (v := .ref (B + 26)) hx hb hts iX7_init_X7 hown hK hX (by omega) g0 rfl 5 (by decide) (hts _ kX7_init_38) (fun _ h9 => h9) rfl dX7_init_134 ?_
                    refine lv_iload_n hx hb dX7_init_137 rfl (lv_at hl 0 rfl) ?_
                    refine z_new (ci := 1) (fs := [.null, .null, .null, .int 0, .int 0, .int 0]) (C := RX1) (T := TX1) (N := 6) hx hb hts iX7_init_X1 tyX1 tyX1_ok hown (hts _ kX7_init_cl36) (hts _ kX7_init_in1) (hts _ kX7_init_ini1) hK hX hS rfl (by intro j hj; rcases (show j = 0 ∨ j = 1 ∨ j = 2 ∨ j = 3 ∨ j = 4 ∨ j = 5 by omega) with rfl | rfl | rfl | rfl | rfl | rfl <;> rfl) (by show 64 + 13 * i + 1 ≤ 116; omega) (by show 1225 + 133 * i + 6 ≤ 1757; omega) dX7_init_138 (fun H hX hS => ?_)
                    refine W.widen (k := 65 + 13 * i) (n := 1231 + 133 * i) (by omega) (by omega) ?_
                    have hX : MZ G B (65 + 13 * i + 1) (zs z1 (65 + 13 * i) (.inr (1, [.null, .null, .null, .int 0, .int 0, .int 0]))) H := hX
                    obtain ⟨z_103, ez_103⟩ : ∃ z9, z9 = zs z1 (65 + 13 * i) (.inr (1, [.null, .null, .null, .int 0, .int 0, .int 0])) := ⟨_, rfl⟩
                    rw [← ez_103] at hX
                    have k_104 : z_103 (0) = .inr (7, [.ref (B + 1), .ref (B + 2), .ref (B + 5), .ref (B + 15), .ref (B + 25), .ref (B + 26), .ref (B + 27), .int 0, .int 0]) := by rw [ez_103, zs_ne (by omega)]; exact g0
                    have k_105 : z_103 (26) = .inl (G.2 3, 4, rfs (f)) := by rw [ez_103, zs_ne (by omega)]; exact ga
                    have k_106 : z_103 (1) = .inl (G.2 5, 8, rfs (fun j => some (B + (29 + 2 * j)))) := by rw [ez_103, zs_ne (by omega)]; exact gb
                    have k_107 : z_103 (25) = .inl (G.2 4, 2, rfs (fun j => some (B + (45 + 10 * j)))) := by rw [ez_103, zs_ne (by omega)]; exact gc
                    have k_108 : z_103 (65 + 13 * i) = .inr (1, [.null, .null, .null, .int 0, .int 0, .int 0]) := by rw [ez_103, zs_eq]
                    refine lv_dup hx hb dX7_init_141 rfl ?_
                    refine z_vf (n' := 65 + 13 * i + 1 + 1 + 1 + 1 + 9) (va_runIN (host := "WindTaken") (As := []) (rest := [.ref (B + (65 + 13 * i)), .int (nI i), .ref (B + 26)]) ⟨hx, hb, hml, hown, hts⟩ (c_X1_init l G B (n := 65 + 13 * i + 1) (a := 65 + 13 * i)  z_103 (by omega) k_108) ⟨va_cnB 0 hts gX7_init_X1_init_n50 rfl rfl rfl (hK.2 _ (List.mem_of_getElem? (i := 9) rfl)) (hts _ kX7_init_ini1) (by decide +kernel) ⟨Nat.le_of_ble_eq_true rfl, Nat.le_of_ble_eq_true rfl⟩, rfl, (hts _ kX7_init_im_X1_init)⟩ (z_pre hX ⟨hK, hO⟩ [.ref (B + (65 + 13 * i))]) rfl rfl hl.1 rfl (lv_room (Nat.le_of_ble_eq_true rfl)) dX7_init_142 ⟨(by show 65 + 13 * i + 12 ≤ 116; omega), (by show 1231 + 133 * i + 127 ≤ 1757; omega)⟩) hS (fun y_109 H lo hp hX hS => ?_)
                    try dsimp only at hp
                    refine W.widen (k := 77 + 13 * i) (n := 1358 + 133 * i) (by omega) (by omega) ?_
                    have k_110 : y_109 (0) = .inr (7, [.ref (B + 1), .ref (B + 2), .ref (B + 5), .ref (B + 15), .ref (B + 25), .ref (B + 26), .ref (B + 27), .int 0, .int 0]) := (hp.2.2.2.2.2.2 0 (by omega) (by omega)).trans k_104
                    have k_111 : y_109 (26) = .inl (G.2 3, 4, rfs (f)) := (hp.2.2.2.2.2.2 26 (by omega) (by omega)).trans k_105
                    have k_112 : y_109 (1) = .inl (G.2 5, 8, rfs (fun j => some (B + (29 + 2 * j)))) := (hp.2.2.2.2.2.2 1 (by omega) (by omega)).trans k_106
                    have k_113 : y_109 (25) = .inl (G.2 4, 2, rfs (fun j => some (B + (45 + 10 * j)))) := (hp.2.2.2.2.2.2 25 (by omega) (by omega)).trans k_107
                    have k_114 : y_109 (65 + 13 * i) = .inr (1, [.ref (B + (65 + 13 * i + 1)), .ref (B + (65 + 13 * i + 1 + 1)), .ref (B + (65 + 13 * i + 1 + 1 + 1)), .int 0, .int 0, .int 0]) := hp.1
                    have T_115 : TI G B (65 + 13 * i + 1 + 1 + 1 + 1 + 9) y_109 := TI.qu (q := i) (by omega) gT (fun b hb9 => (hp.2.2.2.2.2.2 b (by omega) (by omega)).trans (by rw [ez_103, zs_ne (by omega)])) hp.1 hp.2.1 hp.2.2.1 hp.2.2.2.1 hp.2.2.2.2.1 hp.2.2.2.2.2.1
                    refine z_astq (a := 26) (d := 65 + 13 * i) (t0 := 3) (ci := 1) (cA := G.2 3) (r := (RX1, TX1, 6)) (N := 4) (j := i) hx hb hK hX hS (by omega) (by omega) k_111 rfl k_114 rfl rfl (by omega) (by decide) dX7_init_145 (fun H lo hX hS => ?_)
                    have hX : MZ G B (65 + 13 * i + 1 + 1 + 1 + 1 + 9) (zs y_109 (26) (.inl (G.2 3, 4, rfs (fun k => if k = i then some (B + (65 + 13 * i)) else f k)))) H := hX
                    obtain ⟨z_116, ez_116⟩ : ∃ z9, z9 = zs y_109 (26) (.inl (G.2 3, 4, rfs (fun k => if k = i then some (B + (65 + 13 * i)) else f k))) := ⟨_, rfl⟩
                    rw [← ez_116] at hX
                    have k_117 : z_116 (0) = .inr (7, [.ref (B + 1), .ref (B + 2), .ref (B + 5), .ref (B + 15), .ref (B + 25), .ref (B + 26), .ref (B + 27), .int 0, .int 0]) := by rw [ez_116, zs_ne (by omega)]; exact k_110
                    have k_118 : z_116 (1) = .inl (G.2 5, 8, rfs (fun j => some (B + (29 + 2 * j)))) := by rw [ez_116, zs_ne (by omega)]; exact k_112
                    have k_119 : z_116 (25) = .inl (G.2 4, 2, rfs (fun j => some (B + (45 + 10 * j)))) := by rw [ez_116, zs_ne (by omega)]; exact k_113
                    have k_120 : z_116 (65 + 13 * i) = .inr (1, [.ref (B + (65 + 13 * i + 1)), .ref (B + (65 + 13 * i + 1 + 1)), .ref (B + (65 + 13 * i + 1 + 1 + 1)), .int 0, .int 0, .int 0]) := by rw [ez_116, zs_ne (by omega)]; exact k_114
                    have k_121 : z_116 (26) = .inl (G.2 3, 4, rfs (fun k => if k = i then some (B + (65 + 13 * i)) else f k)) := by rw [ez_116, zs_eq]
                    have T_122 : TI G B (65 + 13 * i + 1 + 1 + 1 + 1 + 9) z_116 := by rw [ez_116]; exact (T_115).set (by decide)
                    have hX : MZ G B (65 + 13 * (i + 1)) z_116 H := by rw [show 65 + 13 * (i + 1) = 65 + 13 * i + 1 + 1 + 1 + 1 + 9 by omega]; exact hX
                    have hT9 : TI G B (65 + 13 * (i + 1)) z_116 := by rw [show 65 + 13 * (i + 1) = 65 + 13 * i + 1 + 1 + 1 + 1 + 9 by omega]; exact T_122
                    refine lv_iinc (v := nI (i + 1)) (lv' := [(1, .int (nI (i + 1))), (0, .ref (B + 0))]) hx hb dX7_init_146 hl (k := 0) rfl (inc_nI _) (by decide) rfl (fun ls hl => ?_)
                    refine lv_goto (tgt := 128) hx hb dX7_init_149 (by decide) ?_
                    refine W.widen (k := 64 + 13 * (i + 1)) (n := 1225 + 133 * (i + 1)) (by omega) (by omega) ?_
                    exact ih (4 - (i + 1)) (by omega) (i + 1) z_116 _ rfl ⟨by omega, k_117, k_121, k_118, k_119, fun j hj => by
                        by_cases e : j = i
                        · rw [e]; exact if_pos rfl
                        · exact (if_neg e).trans (gf j (by omega))
                    , hT9⟩ _ _ hX hS ls (lv_sub hl [0, 1] rfl)
              exact Lc 4 0 z_91 _ rfl ⟨by decide, k_92, k_94, k_93, k_95, fun j hj => absurd hj (Nat.not_lt_zero j), T_96⟩ _ _ hX hS ls (lv_sub hl [0, 1] rfl)
            · have n9c : i < 2 := Nat.lt_of_not_le (fun q => c9 ((n_le (a := 2) (b := i) rfl rfl (by decide) (by omega)).mpr q))
              refine lv_aload_n hx hb dX7_init_107 rfl (lv_at hl 1 rfl) ?_
              refine z_get (a := 0) (v := .ref (B + 25)) hx hb hts iX7_init_X7 hown hK hX (by omega) g0 rfl 4 (by decide) (hts _ kX7_init_32) (fun _ h9 => h9) rfl dX7_init_108 ?_
              refine lv_iload_n hx hb dX7_init_111 rfl (lv_at hl 0 rfl) ?_
              refine z_new (ci := 3) (fs := [.null, .int 0, .int 0, .int 0, .int 0, .int 0]) (C := RX3) (T := TX3) (N := 6) hx hb hts iX7_init_X3 tyX3 tyX3_ok hown (hts _ kX7_init_cl22) (hts _ kX7_init_in3) (hts _ kX7_init_ini3) hK hX hS rfl (by intro j hj; rcases (show j = 0 ∨ j = 1 ∨ j = 2 ∨ j = 3 ∨ j = 4 ∨ j = 5 by omega) with rfl | rfl | rfl | rfl | rfl | rfl <;> rfl) (by show 44 + 10 * i + 1 ≤ 116; omega) (by show 1005 + 110 * i + 6 ≤ 1757; omega) dX7_init_112 (fun H hX hS => ?_)
              refine W.widen (k := 45 + 10 * i) (n := 1011 + 110 * i) (by omega) (by omega) ?_
              have hX : MZ G B (45 + 10 * i + 1) (zs z1 (45 + 10 * i) (.inr (3, [.null, .int 0, .int 0, .int 0, .int 0, .int 0]))) H := hX
              obtain ⟨z_123, ez_123⟩ : ∃ z9, z9 = zs z1 (45 + 10 * i) (.inr (3, [.null, .int 0, .int 0, .int 0, .int 0, .int 0])) := ⟨_, rfl⟩
              rw [← ez_123] at hX
              have k_124 : z_123 (0) = .inr (7, [.ref (B + 1), .ref (B + 2), .ref (B + 5), .ref (B + 15), .ref (B + 25), .ref (B + 26), .ref (B + 27), .int 0, .int 0]) := by rw [ez_123, zs_ne (by omega)]; exact g0
              have k_125 : z_123 (25) = .inl (G.2 4, 2, rfs (f)) := by rw [ez_123, zs_ne (by omega)]; exact ga
              have k_126 : z_123 (1) = .inl (G.2 5, 8, rfs (fun j => some (B + (29 + 2 * j)))) := by rw [ez_123, zs_ne (by omega)]; exact gb
              have k_127 : z_123 (26) = .inl (G.2 3, 4, rfs (fun _ => none)) := by rw [ez_123, zs_ne (by omega)]; exact gc
              have k_128 : z_123 (45 + 10 * i) = .inr (3, [.null, .int 0, .int 0, .int 0, .int 0, .int 0]) := by rw [ez_123, zs_eq]
              refine lv_dup hx hb dX7_init_115 rfl ?_
              refine z_vf (n' := 45 + 10 * i + 1 + 9) (va_runI (As := []) (rest := [.ref (B + (45 + 10 * i)), .int (nI i), .ref (B + 25)]) ⟨hx, hb, hml, hown, hts⟩ (c_X3_init l G B (n := 45 + 10 * i + 1) (a := 45 + 10 * i)  z_123 (by omega) k_128) (cwI 0 hts gX7_init_X3_init rfl rfl rfl (hts _ kX7_init_ini3) (hts _ kX7_init_ml24) (hts _ kX7_init_im_X3_init) rfl (by decide +kernel) ⟨Nat.le_of_ble_eq_true rfl, Nat.le_of_ble_eq_true rfl⟩) (z_pre hX ⟨hK, hO⟩ [.ref (B + (45 + 10 * i))]) rfl rfl hl.1 rfl (lv_room (Nat.le_of_ble_eq_true rfl)) dX7_init_116 ⟨(by show 45 + 10 * i + 9 ≤ 116; omega), (by show 1011 + 110 * i + 104 ≤ 1757; omega)⟩) hS (fun y_129 H lo hp hX hS => ?_)
              try dsimp only at hp
              refine W.widen (k := 54 + 10 * i) (n := 1115 + 110 * i) (by omega) (by omega) ?_
              have k_130 : y_129 (0) = .inr (7, [.ref (B + 1), .ref (B + 2), .ref (B + 5), .ref (B + 15), .ref (B + 25), .ref (B + 26), .ref (B + 27), .int 0, .int 0]) := (hp.2.2.2 0 (by omega) (by omega)).trans k_124
              have k_131 : y_129 (25) = .inl (G.2 4, 2, rfs (f)) := (hp.2.2.2 25 (by omega) (by omega)).trans k_125
              have k_132 : y_129 (1) = .inl (G.2 5, 8, rfs (fun j => some (B + (29 + 2 * j)))) := (hp.2.2.2 1 (by omega) (by omega)).trans k_126
              have k_133 : y_129 (26) = .inl (G.2 3, 4, rfs (fun _ => none)) := (hp.2.2.2 26 (by omega) (by omega)).trans k_127
              have k_134 : y_129 (45 + 10 * i) = .inr (3, [.ref (B + (45 + 10 * i + 1)), .int 0, .int 0, .int 0, .int 0, .int 0]) := hp.1
              have T_135 : TI G B (45 + 10 * i + 1 + 9) y_129 := TI.rg (ρ := 45 + 10 * i) (rgI (by omega)) gT (fun b hb9 => (hp.2.2.2 b (by omega) (by omega)).trans (by rw [ez_123, zs_ne (by omega)])) hp.1 hp.2.1 hp.2.2.1
              refine z_astq (a := 25) (d := 45 + 10 * i) (t0 := 4) (ci := 3) (cA := G.2 4) (r := (RX3, TX3, 6)) (N := 2) (j := i) hx hb hK hX hS (by omega) (by omega) k_131 rfl k_134 rfl rfl (by omega) (by decide) dX7_init_119 (fun H lo hX hS => ?_)
              have hX : MZ G B (45 + 10 * i + 1 + 9) (zs y_129 (25) (.inl (G.2 4, 2, rfs (fun k => if k = i then some (B + (45 + 10 * i)) else f k)))) H := hX
              obtain ⟨z_136, ez_136⟩ : ∃ z9, z9 = zs y_129 (25) (.inl (G.2 4, 2, rfs (fun k => if k = i then some (B + (45 + 10 * i)) else f k))) := ⟨_, rfl⟩
              rw [← ez_136] at hX
              have k_137 : z_136 (0) = .inr (7, [.ref (B + 1), .ref (B + 2), .ref (B + 5), .ref (B + 15), .ref (B + 25), .ref (B + 26), .ref (B + 27), .int 0, .int 0]) := by rw [ez_136, zs_ne (by omega)]; exact k_130
              have k_138 : z_136 (1) = .inl (G.2 5, 8, rfs (fun j => some (B + (29 + 2 * j)))) := by rw [ez_136, zs_ne (by omega)]; exact k_132
              have k_139 : z_136 (26) = .inl (G.2 3, 4, rfs (fun _ => none)) := by rw [ez_136, zs_ne (by omega)]; exact k_133
              have k_140 : z_136 (45 + 10 * i) = .inr (3, [.ref (B + (45 + 10 * i + 1)), .int 0, .int 0, .int 0, .int 0, .int 0]) := by rw [ez_136, zs_ne (by omega)]; exact k_134
              have k_141 : z_136 (25) = .inl (G.2 4, 2, rfs (fun k => if k = i then some (B + (45 + 10 * i)) else f k)) := by rw [ez_136, zs_eq]
              have T_142 : TI G B (45 + 10 * i + 1 + 9) z_136 := by rw [ez_136]; exact (T_135).set (by decide)
              have hX : MZ G B (45 + 10 * (i + 1)) z_136 H := by rw [show 45 + 10 * (i + 1) = 45 + 10 * i + 1 + 9 by omega]; exact hX
              have hT9 : TI G B (45 + 10 * (i + 1)) z_136 := by rw [show 45 + 10 * (i + 1) = 45 + 10 * i + 1 + 9 by omega]; exact T_142
              refine lv_iinc (v := nI (i + 1)) (lv' := [(1, .int (nI (i + 1))), (0, .ref (B + 0))]) hx hb dX7_init_120 hl (k := 0) rfl (inc_nI _) (by decide) rfl (fun ls hl => ?_)
              refine lv_goto (tgt := 102) hx hb dX7_init_123 (by decide) ?_
              refine W.widen (k := 44 + 10 * (i + 1)) (n := 1005 + 110 * (i + 1)) (by omega) (by omega) ?_
              exact ih (2 - (i + 1)) (by omega) (i + 1) z_136 _ rfl ⟨by omega, k_137, k_141, k_138, k_139, fun j hj => by
                  by_cases e : j = i
                  · rw [e]; exact if_pos rfl
                  · exact (if_neg e).trans (gf j (by omega))
              , hT9⟩ _ _ hX hS ls (lv_sub hl [0, 1] rfl)
        exact Lb 2 0 z_85 _ rfl ⟨by decide, k_86, k_87, k_89, k_88, fun j hj => absurd hj (Nat.not_lt_zero j), T_90⟩ _ _ hX hS ls (lv_sub hl [0, 1] rfl)
      · have n9c : i < 8 := Nat.lt_of_not_le (fun q => c9 ((n_le (a := 8) (b := i) rfl rfl (by decide) (by omega)).mpr q))
        refine lv_aload_n hx hb dX7_init_81 rfl (lv_at hl 1 rfl) ?_
        refine z_get (a := 0) (v := .ref (B + 1)) hx hb hts iX7_init_X7 hown hK hX (by omega) g0 rfl 0 (by decide) (hts _ kX7_init_11) (fun _ h9 => h9) rfl dX7_init_82 ?_
        refine lv_iload_n hx hb dX7_init_85 rfl (lv_at hl 0 rfl) ?_
        refine z_new (ci := 4) (fs := [.null, .int 0, .int 0]) (C := RX4) (T := TX4) (N := 3) hx hb hts iX7_init_X4 tyX4 tyX4_ok hown (hts _ kX7_init_cl9) (hts _ kX7_init_in4) (hts _ kX7_init_ini4) hK hX hS rfl (by intro j hj; rcases (show j = 0 ∨ j = 1 ∨ j = 2 by omega) with rfl | rfl | rfl <;> rfl) (by show 28 + 2 * i + 1 ≤ 116; omega) (by show 661 + 43 * i + 3 ≤ 1757; omega) dX7_init_86 (fun H hX hS => ?_)
        refine W.widen (k := 29 + 2 * i) (n := 664 + 43 * i) (by omega) (by omega) ?_
        have hX : MZ G B (29 + 2 * i + 1) (zs z1 (29 + 2 * i) (.inr (4, [.null, .int 0, .int 0]))) H := hX
        obtain ⟨z_143, ez_143⟩ : ∃ z9, z9 = zs z1 (29 + 2 * i) (.inr (4, [.null, .int 0, .int 0])) := ⟨_, rfl⟩
        rw [← ez_143] at hX
        have k_144 : z_143 (0) = .inr (7, [.ref (B + 1), .ref (B + 2), .ref (B + 5), .ref (B + 15), .ref (B + 25), .ref (B + 26), .ref (B + 27), .int 0, .int 0]) := by rw [ez_143, zs_ne (by omega)]; exact g0
        have k_145 : z_143 (1) = .inl (G.2 5, 8, rfs (f)) := by rw [ez_143, zs_ne (by omega)]; exact ga
        have k_146 : z_143 (25) = .inl (G.2 4, 2, rfs (fun _ => none)) := by rw [ez_143, zs_ne (by omega)]; exact gb
        have k_147 : z_143 (26) = .inl (G.2 3, 4, rfs (fun _ => none)) := by rw [ez_143, zs_ne (by omega)]; exact gc
        have k_148 : z_143 (29 + 2 * i) = .inr (4, [.null, .int 0, .int 0]) := by rw [ez_143, zs_eq]
        refine lv_dup hx hb dX7_init_89 rfl ?_
        refine z_vf (n' := 29 + 2 * i + 1 + 1) (va_runIN (host := "WindTaken") (As := []) (rest := [.ref (B + (29 + 2 * i)), .int (nI i), .ref (B + 1)]) ⟨hx, hb, hml, hown, hts⟩ (c_X4_init l G B (n := 29 + 2 * i + 1) (a := 29 + 2 * i)  z_143 (by omega) k_148) ⟨va_cnB 0 hts gX7_init_X4_init_n49 rfl rfl rfl (hK.2 _ (List.mem_of_getElem? (i := 8) rfl)) (hts _ kX7_init_ini4) (by decide +kernel) ⟨Nat.le_of_ble_eq_true rfl, Nat.le_of_ble_eq_true rfl⟩, rfl, (hts _ kX7_init_im_X4_init)⟩ (z_pre hX ⟨hK, hO⟩ [.ref (B + (29 + 2 * i))]) rfl rfl hl.1 rfl (lv_room (Nat.le_of_ble_eq_true rfl)) dX7_init_90 ⟨(by show 29 + 2 * i + 1 ≤ 116; omega), (by show 664 + 43 * i + 40 ≤ 1757; omega)⟩) hS (fun y_149 H lo hp hX hS => ?_)
        try dsimp only at hp
        refine W.widen (k := 30 + 2 * i) (n := 704 + 43 * i) (by omega) (by omega) ?_
        have k_150 : y_149 (0) = .inr (7, [.ref (B + 1), .ref (B + 2), .ref (B + 5), .ref (B + 15), .ref (B + 25), .ref (B + 26), .ref (B + 27), .int 0, .int 0]) := (hp.2.2 0 (by omega) (by omega)).trans k_144
        have k_151 : y_149 (1) = .inl (G.2 5, 8, rfs (f)) := (hp.2.2 1 (by omega) (by omega)).trans k_145
        have k_152 : y_149 (25) = .inl (G.2 4, 2, rfs (fun _ => none)) := (hp.2.2 25 (by omega) (by omega)).trans k_146
        have k_153 : y_149 (26) = .inl (G.2 3, 4, rfs (fun _ => none)) := (hp.2.2 26 (by omega) (by omega)).trans k_147
        have k_154 : y_149 (29 + 2 * i) = .inr (4, [.ref (B + (29 + 2 * i + 1)), .int 0, .int (-1)]) := hp.1
        have T_155 : TI G B (29 + 2 * i + 1 + 1) y_149 := TI.rw (r := i) (by omega) gT (fun b hb9 => (hp.2.2 b (by omega) (by omega)).trans (by rw [ez_143, zs_ne (by omega)])) hp.1 hp.2.1
        refine z_astq (a := 1) (d := 29 + 2 * i) (t0 := 5) (ci := 4) (cA := G.2 5) (r := (RX4, TX4, 3)) (N := 8) (j := i) hx hb hK hX hS (by omega) (by omega) k_151 rfl k_154 rfl rfl (by omega) (by decide) dX7_init_93 (fun H lo hX hS => ?_)
        have hX : MZ G B (29 + 2 * i + 1 + 1) (zs y_149 (1) (.inl (G.2 5, 8, rfs (fun k => if k = i then some (B + (29 + 2 * i)) else f k)))) H := hX
        obtain ⟨z_156, ez_156⟩ : ∃ z9, z9 = zs y_149 (1) (.inl (G.2 5, 8, rfs (fun k => if k = i then some (B + (29 + 2 * i)) else f k))) := ⟨_, rfl⟩
        rw [← ez_156] at hX
        have k_157 : z_156 (0) = .inr (7, [.ref (B + 1), .ref (B + 2), .ref (B + 5), .ref (B + 15), .ref (B + 25), .ref (B + 26), .ref (B + 27), .int 0, .int 0]) := by rw [ez_156, zs_ne (by omega)]; exact k_150
        have k_158 : z_156 (25) = .inl (G.2 4, 2, rfs (fun _ => none)) := by rw [ez_156, zs_ne (by omega)]; exact k_152
        have k_159 : z_156 (26) = .inl (G.2 3, 4, rfs (fun _ => none)) := by rw [ez_156, zs_ne (by omega)]; exact k_153
        have k_160 : z_156 (29 + 2 * i) = .inr (4, [.ref (B + (29 + 2 * i + 1)), .int 0, .int (-1)]) := by rw [ez_156, zs_ne (by omega)]; exact k_154
        have k_161 : z_156 (1) = .inl (G.2 5, 8, rfs (fun k => if k = i then some (B + (29 + 2 * i)) else f k)) := by rw [ez_156, zs_eq]
        have T_162 : TI G B (29 + 2 * i + 1 + 1) z_156 := by rw [ez_156]; exact (T_155).set (by decide)
        have hX : MZ G B (29 + 2 * (i + 1)) z_156 H := by rw [show 29 + 2 * (i + 1) = 29 + 2 * i + 1 + 1 by omega]; exact hX
        have hT9 : TI G B (29 + 2 * (i + 1)) z_156 := by rw [show 29 + 2 * (i + 1) = 29 + 2 * i + 1 + 1 by omega]; exact T_162
        refine lv_iinc (v := nI (i + 1)) (lv' := [(1, .int (nI (i + 1))), (0, .ref (B + 0))]) hx hb dX7_init_94 hl (k := 0) rfl (inc_nI _) (by decide) rfl (fun ls hl => ?_)
        refine lv_goto (tgt := 75) hx hb dX7_init_97 (by decide) ?_
        refine W.widen (k := 28 + 2 * (i + 1)) (n := 661 + 43 * (i + 1)) (by omega) (by omega) ?_
        exact ih (8 - (i + 1)) (by omega) (i + 1) z_156 _ rfl ⟨by omega, k_157, k_161, k_158, k_159, fun j hj => by
            by_cases e : j = i
            · rw [e]; exact if_pos rfl
            · exact (if_neg e).trans (gf j (by omega))
        , hT9⟩ _ _ hX hS ls (lv_sub hl [0, 1] rfl)
  exact La 8 0 z_79 _ rfl ⟨by decide, k_83, k_80, k_81, k_82, fun j hj => absurd hj (Nat.not_lt_zero j), T_84⟩ _ _ hX hS ls (lv_sub hl [0, 1] rfl)
