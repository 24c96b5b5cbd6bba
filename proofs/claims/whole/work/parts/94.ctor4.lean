theorem kX8_init_oi : (.methodLink RX8 1 objectInit : Cond) ∈ wsX8_init := by decide +kernel
theorem kX8_init_om : (.instanceMethod objectInit : Cond) ∈ wsX8_init := by decide +kernel
theorem kX8_init_oc : (.code objectInit ⟨#[0xb1]⟩ 1 none : Cond) ∈ wsX8_init := by decide +kernel
theorem kX8_init_ac0 : (.arrayClass .int : Cond) ∈ wsX8_init := by decide +kernel
theorem kX8_init_7 : (.fieldLink RX8 7 "WindTakenModel" "lanes" "[I" : Cond) ∈ wsX8_init := by decide +kernel
theorem iX8_init_X8 : ∀ w ∈ wsX80, w ∈ wsX8_init := by decide +kernel
theorem kX8_init_13 : (.fieldLink RX8 13 "WindTakenModel" "sizes" "[I" : Cond) ∈ wsX8_init := by decide +kernel
theorem kX8_init_16 : (.fieldLink RX8 16 "WindTakenModel" "items" "[I" : Cond) ∈ wsX8_init := by decide +kernel
theorem kX8_init_19 : (.fieldLink RX8 19 "WindTakenModel" "tape" "[I" : Cond) ∈ wsX8_init := by decide +kernel
theorem kX8_init_22 : (.fieldLink RX8 22 "WindTakenModel" "now" "[I" : Cond) ∈ wsX8_init := by decide +kernel
theorem kX8_init_25 : (.fieldLink RX8 25 "WindTakenModel" "image0" "[I" : Cond) ∈ wsX8_init := by decide +kernel
theorem kX8_init_28 : (.fieldLink RX8 28 "WindTakenModel" "image1" "[I" : Cond) ∈ wsX8_init := by decide +kernel
theorem kX8_init_31 : (.fieldLink RX8 31 "WindTakenModel" "read" "[I" : Cond) ∈ wsX8_init := by decide +kernel
theorem kX8_init_34 : (.fieldLink RX8 34 "WindTakenModel" "trace" "[I" : Cond) ∈ wsX8_init := by decide +kernel
theorem kX8_init_37 : (.fieldLink RX8 37 "WindTakenModel" "lent" "[I" : Cond) ∈ wsX8_init := by decide +kernel
theorem kX8_init_40 : (.fieldLink RX8 40 "WindTakenModel" "ground" "[I" : Cond) ∈ wsX8_init := by decide +kernel
theorem kX8_init_43 : (.fieldLink RX8 43 "WindTakenModel" "worn" "[I" : Cond) ∈ wsX8_init := by decide +kernel
abbrev rmX8_init : Room := { frames := 1, cells := 12, slots := 1180, locals := 40 }
set_option maxHeartbeats 4000000 in
set_option maxRecDepth 100000 in
theorem c_X8_init (l : Launch) (G : GG) (B : Nat)  (z : Nat → va_E) (hz : z 0 = .inr (8, [.null, .null, .null, .int 0, .int 0, .null, .int 0, .null, .null, .null, .null, .null, .int 0, .null, .int 0, .int 0, .int 0, .long 0, .int 0, .null, .null])) : Met l yX8_init wsX8_init rmX8_init (ZP G B (1) z [.ref (B + 0)]) (va_Qv (fun y => ∀ b, b < 13 → y b = shM G B b (y0 b)) (ZB G B (13)) (blkF B)) 12 1180 (blkF B) := by
  refine Met.ofW (cc := cX8_init) (maxL := 2) (ret := none) (by decide) rfl ?_
  intro pp ee ss mm aa bb mt cd s1 Bd hml hv
  obtain ⟨hae, hX, hK, hO⟩ := hv
  have hx := Bd.exec
  have hb := Bd.bytes
  have hr := Bd.returns
  have hts := atoms_spec (ws := wsX8_init) Bd.pre
  have hown : ss.vm.findClass RX8 = some mm.cls := findClass_of_methodNamed Bd.named
  have hlocks := Bd.notSynchronized
  have hin : mt.name = "<init>" := (name_of_methodNamed Bd.named Bd.method).1
  have hS : va_S (blkF B) ss.heap ss.heap [] := va_S.rf
  have hl := lv_entry ([.ref (B + 0)]) (n := 2) (Nat.le_of_ble_eq_true rfl)
  subst hae
  rw [lg_entry_eq]
  generalize (lg_sl ([.ref (B + 0)]) ++ List.replicate (2 - (lg_sl ([.ref (B + 0)])).length) Slot.unset).toArray = ls at hl ⊢
  have hl : lv_has ls 2 [(0, .ref (B + 0))] := hl
  generalize ([.ref (B + 0)] : List Value).toArray = aa at hts ⊢
  show W pp l ee rmX8_init ss mm aa bb mt cd ss.heap [] 0 0 _ (F0 mm 0 ls [])
  generalize hQ : MQ bb (va_Qv (fun y => ∀ b, b < 13 → y b = shM G B b (y0 b)) (ZB G B (13)) (blkF B)) aa ss 12 1180 (blkF B) = Q
  refine lv_aload_n hx hb dX8_init_0 rfl (lv_at hl 0 rfl) ?_
  refine W.objInit hx hb hown (hts _ kX8_init_oi) (hts _ kX8_init_om) (hts _ kX8_init_oc) rfl (by rw [hml]; exact hl.1) rfl dX8_init_1 (Nat.le_of_ble_eq_true rfl) (Nat.le_of_ble_eq_true rfl) ?_
  refine W.eq (g2 := F0 mm 4 ls []) rfl ?_
  refine lv_aload_n hx hb dX8_init_4 rfl (lv_at hl 0 rfl) ?_
  refine lv_bipush (v := 8) hx hb dX8_init_5 (by decide) ?_
  refine z_newa (atype := .int) (t0 := 0) (cA := G.2 0) (N := 8) (a0 := (8, .inl fun _ => 0)) hx hb (hts _ kX8_init_ac0) rfl hK hX hS (fun _ => rfl) (by decide) (by decide) (by decide) (Nat.le_of_ble_eq_true rfl) (Nat.le_of_ble_eq_true rfl) dX8_init_7 (fun H hX hS => ?_)
  refine W.widen (k := 1) (n := 8) (by omega) (by omega) ?_
  have hX : MZ G B (2) (zs z (1) (.inl (G.2 0, 8, .inl fun _ => 0))) H := hX
  obtain ⟨z_1, ez_1⟩ : ∃ z9, z9 = zs z (1) (.inl (G.2 0, 8, .inl fun _ => 0)) := ⟨_, rfl⟩
  rw [← ez_1] at hX
  have k_2 : z_1 (0) = .inr (8, [.null, .null, .null, .int 0, .int 0, .null, .int 0, .null, .null, .null, .null, .null, .int 0, .null, .int 0, .int 0, .int 0, .long 0, .int 0, .null, .null]) := by rw [ez_1, zs_ne (by omega)]; exact hz
  have k_3 : z_1 (1) = .inl (G.2 0, 8, .inl fun _ => 0) := by rw [ez_1, zs_eq]
  refine z_putF (a := 0) (v := .ref (B + 1)) (ty := .array .int) hx hb hts iX8_init_X8 tyX8 tyX8_ok nmX8 hown hK hX hS (by omega) k_2 rfl 0 (by decide) (hts _ kX8_init_7) (fun _ h9 => h9) rfl hin rfl (by decide +kernel) rfl rfl (Nat.le_of_ble_eq_true rfl) dX8_init_9 (fun H lo hX hS => ?_)
  have hX : MZ G B (2) (zs z_1 (0) (.inr (8, [.ref (B + 1), .null, .null, .int 0, .int 0, .null, .int 0, .null, .null, .null, .null, .null, .int 0, .null, .int 0, .int 0, .int 0, .long 0, .int 0, .null, .null]))) H := hX
  obtain ⟨z_4, ez_4⟩ : ∃ z9, z9 = zs z_1 (0) (.inr (8, [.ref (B + 1), .null, .null, .int 0, .int 0, .null, .int 0, .null, .null, .null, .null, .null, .int 0, .null, .int 0, .int 0, .int 0, .long 0, .int 0, .null, .null])) := ⟨_, rfl⟩
  rw [← ez_4] at hX
  have k_5 : z_4 (1) = .inl (G.2 0, 8, .inl fun _ => 0) := by rw [ez_4, zs_ne (by omega)]; exact k_3
  have k_6 : z_4 (0) = .inr (8, [.ref (B + 1), .null, .null, .int 0, .int 0, .null, .int 0, .null, .null, .null, .null, .null, .int 0, .null, .int 0, .int 0, .int 0, .long 0, .int 0, .null, .null]) := by rw [ez_4, zs_eq]
  refine lv_aload_n hx hb dX8_init_12 rfl (lv_at hl 0 rfl) ?_
  refine lv_bipush (v := 8) hx hb dX8_init_13 (by decide) ?_
  refine z_newa (atype := .int) (t0 := 0) (cA := G.2 0) (N := 8) (a0 := (8, .inl fun _ => 0)) hx hb (hts _ kX8_init_ac0) rfl hK hX hS (fun _ => rfl) (by decide) (by decide) (by decide) (Nat.le_of_ble_eq_true rfl) (Nat.le_of_ble_eq_true rfl) dX8_init_15 (fun H hX hS => ?_)
  refine W.widen (k := 2) (n := 16) (by omega) (by omega) ?_
  have hX : MZ G B (3) (zs z_4 (2) (.inl (G.2 0, 8, .inl fun _ => 0))) H := hX
  obtain ⟨z_7, ez_7⟩ : ∃ z9, z9 = zs z_4 (2) (.inl (G.2 0, 8, .inl fun _ => 0)) := ⟨_, rfl⟩
  rw [← ez_7] at hX
  have k_8 : z_7 (1) = .inl (G.2 0, 8, .inl fun _ => 0) := by rw [ez_7, zs_ne (by omega)]; exact k_5
  have k_9 : z_7 (0) = .inr (8, [.ref (B + 1), .null, .null, .int 0, .int 0, .null, .int 0, .null, .null, .null, .null, .null, .int 0, .null, .int 0, .int 0, .int 0, .long 0, .int 0, .null, .null]) := by rw [ez_7, zs_ne (by omega)]; exact k_6
  have k_10 : z_7 (2) = .inl (G.2 0, 8, .inl fun _ => 0) := by rw [ez_7, zs_eq]
  refine z_putF (a := 0) (v := .ref (B + 2)) (ty := .array .int) hx hb hts iX8_init_X8 tyX8 tyX8_ok nmX8 hown hK hX hS (by omega) k_9 rfl 1 (by decide) (hts _ kX8_init_13) (fun _ h9 => h9) rfl hin rfl (by decide +kernel) rfl rfl (Nat.le_of_ble_eq_true rfl) dX8_init_17 (fun H lo hX hS => ?_)
  have hX : MZ G B (3) (zs z_7 (0) (.inr (8, [.ref (B + 1), .ref (B + 2), .null, .int 0, .int 0, .null, .int 0, .null, .null, .null, .null, .null, .int 0, .null, .int 0, .int 0, .int 0, .long 0, .int 0, .null, .null]))) H := hX
  obtain ⟨z_11, ez_11⟩ : ∃ z9, z9 = zs z_7 (0) (.inr (8, [.ref (B + 1), .ref (B + 2), .null, .int 0, .int 0, .null, .int 0, .null, .null, .null, .null, .null, .int 0, .null, .int 0, .int 0, .int 0, .long 0, .int 0, .null, .null])) := ⟨_, rfl⟩
  rw [← ez_11] at hX
  have k_12 : z_11 (1) = .inl (G.2 0, 8, .inl fun _ => 0) := by rw [ez_11, zs_ne (by omega)]; exact k_8
  have k_13 : z_11 (2) = .inl (G.2 0, 8, .inl fun _ => 0) := by rw [ez_11, zs_ne (by omega)]; exact k_10
  have k_14 : z_11 (0) = .inr (8, [.ref (B + 1), .ref (B + 2), .null, .int 0, .int 0, .null, .int 0, .null, .null, .null, .null, .null, .int 0, .null, .int 0, .int 0, .int 0, .long 0, .int 0, .null, .null]) := by rw [ez_11, zs_eq]
  refine lv_aload_n hx hb dX8_init_20 rfl (lv_at hl 0 rfl) ?_
  refine lv_sipush (v := 320) hx hb dX8_init_21 (by decide) ?_
  refine z_newa (atype := .int) (t0 := 0) (cA := G.2 0) (N := 320) (a0 := (320, .inl fun _ => 0)) hx hb (hts _ kX8_init_ac0) rfl hK hX hS (fun _ => rfl) (by decide) (by decide) (by decide) (Nat.le_of_ble_eq_true rfl) (Nat.le_of_ble_eq_true rfl) dX8_init_24 (fun H hX hS => ?_)
  refine W.widen (k := 3) (n := 336) (by omega) (by omega) ?_
  have hX : MZ G B (4) (zs z_11 (3) (.inl (G.2 0, 320, .inl fun _ => 0))) H := hX
  obtain ⟨z_15, ez_15⟩ : ∃ z9, z9 = zs z_11 (3) (.inl (G.2 0, 320, .inl fun _ => 0)) := ⟨_, rfl⟩
  rw [← ez_15] at hX
  have k_16 : z_15 (1) = .inl (G.2 0, 8, .inl fun _ => 0) := by rw [ez_15, zs_ne (by omega)]; exact k_12
  have k_17 : z_15 (2) = .inl (G.2 0, 8, .inl fun _ => 0) := by rw [ez_15, zs_ne (by omega)]; exact k_13
  have k_18 : z_15 (0) = .inr (8, [.ref (B + 1), .ref (B + 2), .null, .int 0, .int 0, .null, .int 0, .null, .null, .null, .null, .null, .int 0, .null, .int 0, .int 0, .int 0, .long 0, .int 0, .null, .null]) := by rw [ez_15, zs_ne (by omega)]; exact k_14
  have k_19 : z_15 (3) = .inl (G.2 0, 320, .inl fun _ => 0) := by rw [ez_15, zs_eq]
  refine z_putF (a := 0) (v := .ref (B + 3)) (ty := .array .int) hx hb hts iX8_init_X8 tyX8 tyX8_ok nmX8 hown hK hX hS (by omega) k_18 rfl 2 (by decide) (hts _ kX8_init_16) (fun _ h9 => h9) rfl hin rfl (by decide +kernel) rfl rfl (Nat.le_of_ble_eq_true rfl) dX8_init_26 (fun H lo hX hS => ?_)
  have hX : MZ G B (4) (zs z_15 (0) (.inr (8, [.ref (B + 1), .ref (B + 2), .ref (B + 3), .int 0, .int 0, .null, .int 0, .null, .null, .null, .null, .null, .int 0, .null, .int 0, .int 0, .int 0, .long 0, .int 0, .null, .null]))) H := hX
  obtain ⟨z_20, ez_20⟩ : ∃ z9, z9 = zs z_15 (0) (.inr (8, [.ref (B + 1), .ref (B + 2), .ref (B + 3), .int 0, .int 0, .null, .int 0, .null, .null, .null, .null, .null, .int 0, .null, .int 0, .int 0, .int 0, .long 0, .int 0, .null, .null])) := ⟨_, rfl⟩
  rw [← ez_20] at hX
  have k_21 : z_20 (1) = .inl (G.2 0, 8, .inl fun _ => 0) := by rw [ez_20, zs_ne (by omega)]; exact k_16
  have k_22 : z_20 (2) = .inl (G.2 0, 8, .inl fun _ => 0) := by rw [ez_20, zs_ne (by omega)]; exact k_17
  have k_23 : z_20 (3) = .inl (G.2 0, 320, .inl fun _ => 0) := by rw [ez_20, zs_ne (by omega)]; exact k_19
  have k_24 : z_20 (0) = .inr (8, [.ref (B + 1), .ref (B + 2), .ref (B + 3), .int 0, .int 0, .null, .int 0, .null, .null, .null, .null, .null, .int 0, .null, .int 0, .int 0, .int 0, .long 0, .int 0, .null, .null]) := by rw [ez_20, zs_eq]
  refine lv_aload_n hx hb dX8_init_29 rfl (lv_at hl 0 rfl) ?_
  refine lv_sipush (v := 400) hx hb dX8_init_30 (by decide) ?_
  refine z_newa (atype := .int) (t0 := 0) (cA := G.2 0) (N := 400) (a0 := (400, .inl fun _ => 0)) hx hb (hts _ kX8_init_ac0) rfl hK hX hS (fun _ => rfl) (by decide) (by decide) (by decide) (Nat.le_of_ble_eq_true rfl) (Nat.le_of_ble_eq_true rfl) dX8_init_33 (fun H hX hS => ?_)
  refine W.widen (k := 4) (n := 736) (by omega) (by omega) ?_
  have hX : MZ G B (5) (zs z_20 (4) (.inl (G.2 0, 400, .inl fun _ => 0))) H := hX
  obtain ⟨z_25, ez_25⟩ : ∃ z9, z9 = zs z_20 (4) (.inl (G.2 0, 400, .inl fun _ => 0)) := ⟨_, rfl⟩
  rw [← ez_25] at hX
  have k_26 : z_25 (1) = .inl (G.2 0, 8, .inl fun _ => 0) := by rw [ez_25, zs_ne (by omega)]; exact k_21
  have k_27 : z_25 (2) = .inl (G.2 0, 8, .inl fun _ => 0) := by rw [ez_25, zs_ne (by omega)]; exact k_22
  have k_28 : z_25 (3) = .inl (G.2 0, 320, .inl fun _ => 0) := by rw [ez_25, zs_ne (by omega)]; exact k_23
  have k_29 : z_25 (0) = .inr (8, [.ref (B + 1), .ref (B + 2), .ref (B + 3), .int 0, .int 0, .null, .int 0, .null, .null, .null, .null, .null, .int 0, .null, .int 0, .int 0, .int 0, .long 0, .int 0, .null, .null]) := by rw [ez_25, zs_ne (by omega)]; exact k_24
  have k_30 : z_25 (4) = .inl (G.2 0, 400, .inl fun _ => 0) := by rw [ez_25, zs_eq]
  refine z_putF (a := 0) (v := .ref (B + 4)) (ty := .array .int) hx hb hts iX8_init_X8 tyX8 tyX8_ok nmX8 hown hK hX hS (by omega) k_29 rfl 5 (by decide) (hts _ kX8_init_19) (fun _ h9 => h9) rfl hin rfl (by decide +kernel) rfl rfl (Nat.le_of_ble_eq_true rfl) dX8_init_35 (fun H lo hX hS => ?_)
  have hX : MZ G B (5) (zs z_25 (0) (.inr (8, [.ref (B + 1), .ref (B + 2), .ref (B + 3), .int 0, .int 0, .ref (B + 4), .int 0, .null, .null, .null, .null, .null, .int 0, .null, .int 0, .int 0, .int 0, .long 0, .int 0, .null, .null]))) H := hX
  obtain ⟨z_31, ez_31⟩ : ∃ z9, z9 = zs z_25 (0) (.inr (8, [.ref (B + 1), .ref (B + 2), .ref (B + 3), .int 0, .int 0, .ref (B + 4), .int 0, .null, .null, .null, .null, .null, .int 0, .null, .int 0, .int 0, .int 0, .long 0, .int 0, .null, .null])) := ⟨_, rfl⟩
  rw [← ez_31] at hX
  have k_32 : z_31 (1) = .inl (G.2 0, 8, .inl fun _ => 0) := by rw [ez_31, zs_ne (by omega)]; exact k_26
  have k_33 : z_31 (2) = .inl (G.2 0, 8, .inl fun _ => 0) := by rw [ez_31, zs_ne (by omega)]; exact k_27
  have k_34 : z_31 (3) = .inl (G.2 0, 320, .inl fun _ => 0) := by rw [ez_31, zs_ne (by omega)]; exact k_28
  have k_35 : z_31 (4) = .inl (G.2 0, 400, .inl fun _ => 0) := by rw [ez_31, zs_ne (by omega)]; exact k_30
  have k_36 : z_31 (0) = .inr (8, [.ref (B + 1), .ref (B + 2), .ref (B + 3), .int 0, .int 0, .ref (B + 4), .int 0, .null, .null, .null, .null, .null, .int 0, .null, .int 0, .int 0, .int 0, .long 0, .int 0, .null, .null]) := by rw [ez_31, zs_eq]
  refine lv_aload_n hx hb dX8_init_38 rfl (lv_at hl 0 rfl) ?_
  refine lv_bipush (v := 93) hx hb dX8_init_39 (by decide) ?_
  refine z_newa (atype := .int) (t0 := 0) (cA := G.2 0) (N := 93) (a0 := (93, .inl fun _ => 0)) hx hb (hts _ kX8_init_ac0) rfl hK hX hS (fun _ => rfl) (by decide) (by decide) (by decide) (Nat.le_of_ble_eq_true rfl) (Nat.le_of_ble_eq_true rfl) dX8_init_41 (fun H hX hS => ?_)
  refine W.widen (k := 5) (n := 829) (by omega) (by omega) ?_
  have hX : MZ G B (6) (zs z_31 (5) (.inl (G.2 0, 93, .inl fun _ => 0))) H := hX
  obtain ⟨z_37, ez_37⟩ : ∃ z9, z9 = zs z_31 (5) (.inl (G.2 0, 93, .inl fun _ => 0)) := ⟨_, rfl⟩
  rw [← ez_37] at hX
  have k_38 : z_37 (1) = .inl (G.2 0, 8, .inl fun _ => 0) := by rw [ez_37, zs_ne (by omega)]; exact k_32
  have k_39 : z_37 (2) = .inl (G.2 0, 8, .inl fun _ => 0) := by rw [ez_37, zs_ne (by omega)]; exact k_33
  have k_40 : z_37 (3) = .inl (G.2 0, 320, .inl fun _ => 0) := by rw [ez_37, zs_ne (by omega)]; exact k_34
  have k_41 : z_37 (4) = .inl (G.2 0, 400, .inl fun _ => 0) := by rw [ez_37, zs_ne (by omega)]; exact k_35
  have k_42 : z_37 (0) = .inr (8, [.ref (B + 1), .ref (B + 2), .ref (B + 3), .int 0, .int 0, .ref (B + 4), .int 0, .null, .null, .null, .null, .null, .int 0, .null, .int 0, .int 0, .int 0, .long 0, .int 0, .null, .null]) := by rw [ez_37, zs_ne (by omega)]; exact k_36
  have k_43 : z_37 (5) = .inl (G.2 0, 93, .inl fun _ => 0) := by rw [ez_37, zs_eq]
  refine z_putF (a := 0) (v := .ref (B + 5)) (ty := .array .int) hx hb hts iX8_init_X8 tyX8 tyX8_ok nmX8 hown hK hX hS (by omega) k_42 rfl 7 (by decide) (hts _ kX8_init_22) (fun _ h9 => h9) rfl hin rfl (by decide +kernel) rfl rfl (Nat.le_of_ble_eq_true rfl) dX8_init_43 (fun H lo hX hS => ?_)
  have hX : MZ G B (6) (zs z_37 (0) (.inr (8, [.ref (B + 1), .ref (B + 2), .ref (B + 3), .int 0, .int 0, .ref (B + 4), .int 0, .ref (B + 5), .null, .null, .null, .null, .int 0, .null, .int 0, .int 0, .int 0, .long 0, .int 0, .null, .null]))) H := hX
  obtain ⟨z_44, ez_44⟩ : ∃ z9, z9 = zs z_37 (0) (.inr (8, [.ref (B + 1), .ref (B + 2), .ref (B + 3), .int 0, .int 0, .ref (B + 4), .int 0, .ref (B + 5), .null, .null, .null, .null, .int 0, .null, .int 0, .int 0, .int 0, .long 0, .int 0, .null, .null])) := ⟨_, rfl⟩
  rw [← ez_44] at hX
  have k_45 : z_44 (1) = .inl (G.2 0, 8, .inl fun _ => 0) := by rw [ez_44, zs_ne (by omega)]; exact k_38
  have k_46 : z_44 (2) = .inl (G.2 0, 8, .inl fun _ => 0) := by rw [ez_44, zs_ne (by omega)]; exact k_39
  have k_47 : z_44 (3) = .inl (G.2 0, 320, .inl fun _ => 0) := by rw [ez_44, zs_ne (by omega)]; exact k_40
  have k_48 : z_44 (4) = .inl (G.2 0, 400, .inl fun _ => 0) := by rw [ez_44, zs_ne (by omega)]; exact k_41
  have k_49 : z_44 (5) = .inl (G.2 0, 93, .inl fun _ => 0) := by rw [ez_44, zs_ne (by omega)]; exact k_43
  have k_50 : z_44 (0) = .inr (8, [.ref (B + 1), .ref (B + 2), .ref (B + 3), .int 0, .int 0, .ref (B + 4), .int 0, .ref (B + 5), .null, .null, .null, .null, .int 0, .null, .int 0, .int 0, .int 0, .long 0, .int 0, .null, .null]) := by rw [ez_44, zs_eq]
  refine lv_aload_n hx hb dX8_init_46 rfl (lv_at hl 0 rfl) ?_
  refine lv_bipush (v := 93) hx hb dX8_init_47 (by decide) ?_
  refine z_newa (atype := .int) (t0 := 0) (cA := G.2 0) (N := 93) (a0 := (93, .inl fun _ => 0)) hx hb (hts _ kX8_init_ac0) rfl hK hX hS (fun _ => rfl) (by decide) (by decide) (by decide) (Nat.le_of_ble_eq_true rfl) (Nat.le_of_ble_eq_true rfl) dX8_init_49 (fun H hX hS => ?_)
  refine W.widen (k := 6) (n := 922) (by omega) (by omega) ?_
  have hX : MZ G B (7) (zs z_44 (6) (.inl (G.2 0, 93, .inl fun _ => 0))) H := hX
  obtain ⟨z_51, ez_51⟩ : ∃ z9, z9 = zs z_44 (6) (.inl (G.2 0, 93, .inl fun _ => 0)) := ⟨_, rfl⟩
  rw [← ez_51] at hX
  have k_52 : z_51 (1) = .inl (G.2 0, 8, .inl fun _ => 0) := by rw [ez_51, zs_ne (by omega)]; exact k_45
  have k_53 : z_51 (2) = .inl (G.2 0, 8, .inl fun _ => 0) := by rw [ez_51, zs_ne (by omega)]; exact k_46
  have k_54 : z_51 (3) = .inl (G.2 0, 320, .inl fun _ => 0) := by rw [ez_51, zs_ne (by omega)]; exact k_47
  have k_55 : z_51 (4) = .inl (G.2 0, 400, .inl fun _ => 0) := by rw [ez_51, zs_ne (by omega)]; exact k_48
  have k_56 : z_51 (5) = .inl (G.2 0, 93, .inl fun _ => 0) := by rw [ez_51, zs_ne (by omega)]; exact k_49
  have k_57 : z_51 (0) = .inr (8, [.ref (B + 1), .ref (B + 2), .ref (B + 3), .int 0, .int 0, .ref (B + 4), .int 0, .ref (B + 5), .null, .null, .null, .null, .int 0, .null, .int 0, .int 0, .int 0, .long 0, .int 0, .null, .null]) := by rw [ez_51, zs_ne (by omega)]; exact k_50
  have k_58 : z_51 (6) = .inl (G.2 0, 93, .inl fun _ => 0) := by rw [ez_51, zs_eq]
  refine z_putF (a := 0) (v := .ref (B + 6)) (ty := .array .int) hx hb hts iX8_init_X8 tyX8 tyX8_ok nmX8 hown hK hX hS (by omega) k_57 rfl 8 (by decide) (hts _ kX8_init_25) (fun _ h9 => h9) rfl hin rfl (by decide +kernel) rfl rfl (Nat.le_of_ble_eq_true rfl) dX8_init_51 (fun H lo hX hS => ?_)
  have hX : MZ G B (7) (zs z_51 (0) (.inr (8, [.ref (B + 1), .ref (B + 2), .ref (B + 3), .int 0, .int 0, .ref (B + 4), .int 0, .ref (B + 5), .ref (B + 6), .null, .null, .null, .int 0, .null, .int 0, .int 0, .int 0, .long 0, .int 0, .null, .null]))) H := hX
  obtain ⟨z_59, ez_59⟩ : ∃ z9, z9 = zs z_51 (0) (.inr (8, [.ref (B + 1), .ref (B + 2), .ref (B + 3), .int 0, .int 0, .ref (B + 4), .int 0, .ref (B + 5), .ref (B + 6), .null, .null, .null, .int 0, .null, .int 0, .int 0, .int 0, .long 0, .int 0, .null, .null])) := ⟨_, rfl⟩
  rw [← ez_59] at hX
  have k_60 : z_59 (1) = .inl (G.2 0, 8, .inl fun _ => 0) := by rw [ez_59, zs_ne (by omega)]; exact k_52
  have k_61 : z_59 (2) = .inl (G.2 0, 8, .inl fun _ => 0) := by rw [ez_59, zs_ne (by omega)]; exact k_53
  have k_62 : z_59 (3) = .inl (G.2 0, 320, .inl fun _ => 0) := by rw [ez_59, zs_ne (by omega)]; exact k_54
  have k_63 : z_59 (4) = .inl (G.2 0, 400, .inl fun _ => 0) := by rw [ez_59, zs_ne (by omega)]; exact k_55
  have k_64 : z_59 (5) = .inl (G.2 0, 93, .inl fun _ => 0) := by rw [ez_59, zs_ne (by omega)]; exact k_56
  have k_65 : z_59 (6) = .inl (G.2 0, 93, .inl fun _ => 0) := by rw [ez_59, zs_ne (by omega)]; exact k_58
  have k_66 : z_59 (0) = .inr (8, [.ref (B + 1), .ref (B + 2), .ref (B + 3), .int 0, .int 0, .ref (B + 4), .int 0, .ref (B + 5), .ref (B + 6), .null, .null, .null, .int 0, .null, .int 0, .int 0, .int 0, .long 0, .int 0, .null, .null]) := by rw [ez_59, zs_eq]
  refine lv_aload_n hx hb dX8_init_54 rfl (lv_at hl 0 rfl) ?_
  refine lv_bipush (v := 93) hx hb dX8_init_55 (by decide) ?_
  refine z_newa (atype := .int) (t0 := 0) (cA := G.2 0) (N := 93) (a0 := (93, .inl fun _ => 0)) hx hb (hts _ kX8_init_ac0) rfl hK hX hS (fun _ => rfl) (by decide) (by decide) (by decide) (Nat.le_of_ble_eq_true rfl) (Nat.le_of_ble_eq_true rfl) dX8_init_57 (fun H hX hS => ?_)
  refine W.widen (k := 7) (n := 1015) (by omega) (by omega) ?_
  have hX : MZ G B (8) (zs z_59 (7) (.inl (G.2 0, 93, .inl fun _ => 0))) H := hX
  obtain ⟨z_67, ez_67⟩ : ∃ z9, z9 = zs z_59 (7) (.inl (G.2 0, 93, .inl fun _ => 0)) := ⟨_, rfl⟩
  rw [← ez_67] at hX
  have k_68 : z_67 (1) = .inl (G.2 0, 8, .inl fun _ => 0) := by rw [ez_67, zs_ne (by omega)]; exact k_60
  have k_69 : z_67 (2) = .inl (G.2 0, 8, .inl fun _ => 0) := by rw [ez_67, zs_ne (by omega)]; exact k_61
  have k_70 : z_67 (3) = .inl (G.2 0, 320, .inl fun _ => 0) := by rw [ez_67, zs_ne (by omega)]; exact k_62
  have k_71 : z_67 (4) = .inl (G.2 0, 400, .inl fun _ => 0) := by rw [ez_67, zs_ne (by omega)]; exact k_63
  have k_72 : z_67 (5) = .inl (G.2 0, 93, .inl fun _ => 0) := by rw [ez_67, zs_ne (by omega)]; exact k_64
  have k_73 : z_67 (6) = .inl (G.2 0, 93, .inl fun _ => 0) := by rw [ez_67, zs_ne (by omega)]; exact k_65
  have k_74 : z_67 (0) = .inr (8, [.ref (B + 1), .ref (B + 2), .ref (B + 3), .int 0, .int 0, .ref (B + 4), .int 0, .ref (B + 5), .ref (B + 6), .null, .null, .null, .int 0, .null, .int 0, .int 0, .int 0, .long 0, .int 0, .null, .null]) := by rw [ez_67, zs_ne (by omega)]; exact k_66
  have k_75 : z_67 (7) = .inl (G.2 0, 93, .inl fun _ => 0) := by rw [ez_67, zs_eq]
  refine z_putF (a := 0) (v := .ref (B + 7)) (ty := .array .int) hx hb hts iX8_init_X8 tyX8 tyX8_ok nmX8 hown hK hX hS (by omega) k_74 rfl 9 (by decide) (hts _ kX8_init_28) (fun _ h9 => h9) rfl hin rfl (by decide +kernel) rfl rfl (Nat.le_of_ble_eq_true rfl) dX8_init_59 (fun H lo hX hS => ?_)
  have hX : MZ G B (8) (zs z_67 (0) (.inr (8, [.ref (B + 1), .ref (B + 2), .ref (B + 3), .int 0, .int 0, .ref (B + 4), .int 0, .ref (B + 5), .ref (B + 6), .ref (B + 7), .null, .null, .int 0, .null, .int 0, .int 0, .int 0, .long 0, .int 0, .null, .null]))) H := hX
  obtain ⟨z_76, ez_76⟩ : ∃ z9, z9 = zs z_67 (0) (.inr (8, [.ref (B + 1), .ref (B + 2), .ref (B + 3), .int 0, .int 0, .ref (B + 4), .int 0, .ref (B + 5), .ref (B + 6), .ref (B + 7), .null, .null, .int 0, .null, .int 0, .int 0, .int 0, .long 0, .int 0, .null, .null])) := ⟨_, rfl⟩
  rw [← ez_76] at hX
  have k_77 : z_76 (1) = .inl (G.2 0, 8, .inl fun _ => 0) := by rw [ez_76, zs_ne (by omega)]; exact k_68
  have k_78 : z_76 (2) = .inl (G.2 0, 8, .inl fun _ => 0) := by rw [ez_76, zs_ne (by omega)]; exact k_69
  have k_79 : z_76 (3) = .inl (G.2 0, 320, .inl fun _ => 0) := by rw [ez_76, zs_ne (by omega)]; exact k_70
  have k_80 : z_76 (4) = .inl (G.2 0, 400, .inl fun _ => 0) := by rw [ez_76, zs_ne (by omega)]; exact k_71
  have k_81 : z_76 (5) = .inl (G.2 0, 93, .inl fun _ => 0) := by rw [ez_76, zs_ne (by omega)]; exact k_72
  have k_82 : z_76 (6) = .inl (G.2 0, 93, .inl fun _ => 0) := by rw [ez_76, zs_ne (by omega)]; exact k_73
  have k_83 : z_76 (7) = .inl (G.2 0, 93, .inl fun _ => 0) := by rw [ez_76, zs_ne (by omega)]; exact k_75
  have k_84 : z_76 (0) = .inr (8, [.ref (B + 1), .ref (B + 2), .ref (B + 3), .int 0, .int 0, .ref (B + 4), .int 0, .ref (B + 5), .ref (B + 6), .ref (B + 7), .null, .null, .int 0, .null, .int 0, .int 0, .int 0, .long 0, .int 0, .null, .null]) := by rw [ez_76, zs_eq]
  refine lv_aload_n hx hb dX8_init_62 rfl (lv_at hl 0 rfl) ?_
  refine lv_bipush (v := 93) hx hb dX8_init_63 (by decide) ?_
  refine z_newa (atype := .int) (t0 := 0) (cA := G.2 0) (N := 93) (a0 := (93, .inl fun _ => 0)) hx hb (hts _ kX8_init_ac0) rfl hK hX hS (fun _ => rfl) (by decide) (by decide) (by decide) (Nat.le_of_ble_eq_true rfl) (Nat.le_of_ble_eq_true rfl) dX8_init_65 (fun H hX hS => ?_)
  refine W.widen (k := 8) (n := 1108) (by omega) (by omega) ?_
  have hX : MZ G B (9) (zs z_76 (8) (.inl (G.2 0, 93, .inl fun _ => 0))) H := hX
  obtain ⟨z_85, ez_85⟩ : ∃ z9, z9 = zs z_76 (8) (.inl (G.2 0, 93, .inl fun _ => 0)) := ⟨_, rfl⟩
  rw [← ez_85] at hX
  have k_86 : z_85 (1) = .inl (G.2 0, 8, .inl fun _ => 0) := by rw [ez_85, zs_ne (by omega)]; exact k_77
  have k_87 : z_85 (2) = .inl (G.2 0, 8, .inl fun _ => 0) := by rw [ez_85, zs_ne (by omega)]; exact k_78
  have k_88 : z_85 (3) = .inl (G.2 0, 320, .inl fun _ => 0) := by rw [ez_85, zs_ne (by omega)]; exact k_79
  have k_89 : z_85 (4) = .inl (G.2 0, 400, .inl fun _ => 0) := by rw [ez_85, zs_ne (by omega)]; exact k_80
  have k_90 : z_85 (5) = .inl (G.2 0, 93, .inl fun _ => 0) := by rw [ez_85, zs_ne (by omega)]; exact k_81
  have k_91 : z_85 (6) = .inl (G.2 0, 93, .inl fun _ => 0) := by rw [ez_85, zs_ne (by omega)]; exact k_82
  have k_92 : z_85 (7) = .inl (G.2 0, 93, .inl fun _ => 0) := by rw [ez_85, zs_ne (by omega)]; exact k_83
  have k_93 : z_85 (0) = .inr (8, [.ref (B + 1), .ref (B + 2), .ref (B + 3), .int 0, .int 0, .ref (B + 4), .int 0, .ref (B + 5), .ref (B + 6), .ref (B + 7), .null, .null, .int 0, .null, .int 0, .int 0, .int 0, .long 0, .int 0, .null, .null]) := by rw [ez_85, zs_ne (by omega)]; exact k_84
  have k_94 : z_85 (8) = .inl (G.2 0, 93, .inl fun _ => 0) := by rw [ez_85, zs_eq]
  refine z_putF (a := 0) (v := .ref (B + 8)) (ty := .array .int) hx hb hts iX8_init_X8 tyX8 tyX8_ok nmX8 hown hK hX hS (by omega) k_93 rfl 10 (by decide) (hts _ kX8_init_31) (fun _ h9 => h9) rfl hin rfl (by decide +kernel) rfl rfl (Nat.le_of_ble_eq_true rfl) dX8_init_67 (fun H lo hX hS => ?_)
  have hX : MZ G B (9) (zs z_85 (0) (.inr (8, [.ref (B + 1), .ref (B + 2), .ref (B + 3), .int 0, .int 0, .ref (B + 4), .int 0, .ref (B + 5), .ref (B + 6), .ref (B + 7), .ref (B + 8), .null, .int 0, .null, .int 0, .int 0, .int 0, .long 0, .int 0, .null, .null]))) H := hX
  obtain ⟨z_95, ez_95⟩ : ∃ z9, z9 = zs z_85 (0) (.inr (8, [.ref (B + 1), .ref (B + 2), .ref (B + 3), .int 0, .int 0, .ref (B + 4), .int 0, .ref (B + 5), .ref (B + 6), .ref (B + 7), .ref (B + 8), .null, .int 0, .null, .int 0, .int 0, .int 0, .long 0, .int 0, .null, .null])) := ⟨_, rfl⟩
  rw [← ez_95] at hX
  have k_96 : z_95 (1) = .inl (G.2 0, 8, .inl fun _ => 0) := by rw [ez_95, zs_ne (by omega)]; exact k_86
  have k_97 : z_95 (2) = .inl (G.2 0, 8, .inl fun _ => 0) := by rw [ez_95, zs_ne (by omega)]; exact k_87
  have k_98 : z_95 (3) = .inl (G.2 0, 320, .inl fun _ => 0) := by rw [ez_95, zs_ne (by omega)]; exact k_88
  have k_99 : z_95 (4) = .inl (G.2 0, 400, .inl fun _ => 0) := by rw [ez_95, zs_ne (by omega)]; exact k_89
  have k_100 : z_95 (5) = .inl (G.2 0, 93, .inl fun _ => 0) := by rw [ez_95, zs_ne (by omega)]; exact k_90
  have k_101 : z_95 (6) = .inl (G.2 0, 93, .inl fun _ => 0) := by rw [ez_95, zs_ne (by omega)]; exact k_91
  have k_102 : z_95 (7) = .inl (G.2 0, 93, .inl fun _ => 0) := by rw [ez_95, zs_ne (by omega)]; exact k_92
  have k_103 : z_95 (8) = .inl (G.2 0, 93, .inl fun _ => 0) := by rw [ez_95, zs_ne (by omega)]; exact k_94
  have k_104 : z_95 (0) = .inr (8, [.ref (B + 1), .ref (B + 2), .ref (B + 3), .int 0, .int 0, .ref (B + 4), .int 0, .ref (B + 5), .ref (B + 6), .ref (B + 7), .ref (B + 8), .null, .int 0, .null, .int 0, .int 0, .int 0, .long 0, .int 0, .null, .null]) := by rw [ez_95, zs_eq]
  refine lv_aload_n hx hb dX8_init_70 rfl (lv_at hl 0 rfl) ?_
  refine lv_bipush (v := 16) hx hb dX8_init_71 (by decide) ?_
  refine z_newa (atype := .int) (t0 := 0) (cA := G.2 0) (N := 16) (a0 := (16, .inl fun _ => 0)) hx hb (hts _ kX8_init_ac0) rfl hK hX hS (fun _ => rfl) (by decide) (by decide) (by decide) (Nat.le_of_ble_eq_true rfl) (Nat.le_of_ble_eq_true rfl) dX8_init_73 (fun H hX hS => ?_)
  refine W.widen (k := 9) (n := 1124) (by omega) (by omega) ?_
  have hX : MZ G B (10) (zs z_95 (9) (.inl (G.2 0, 16, .inl fun _ => 0))) H := hX
  obtain ⟨z_105, ez_105⟩ : ∃ z9, z9 = zs z_95 (9) (.inl (G.2 0, 16, .inl fun _ => 0)) := ⟨_, rfl⟩
  rw [← ez_105] at hX
  have k_106 : z_105 (1) = .inl (G.2 0, 8, .inl fun _ => 0) := by rw [ez_105, zs_ne (by omega)]; exact k_96
  have k_107 : z_105 (2) = .inl (G.2 0, 8, .inl fun _ => 0) := by rw [ez_105, zs_ne (by omega)]; exact k_97
  have k_108 : z_105 (3) = .inl (G.2 0, 320, .inl fun _ => 0) := by rw [ez_105, zs_ne (by omega)]; exact k_98
  have k_109 : z_105 (4) = .inl (G.2 0, 400, .inl fun _ => 0) := by rw [ez_105, zs_ne (by omega)]; exact k_99
  have k_110 : z_105 (5) = .inl (G.2 0, 93, .inl fun _ => 0) := by rw [ez_105, zs_ne (by omega)]; exact k_100
  have k_111 : z_105 (6) = .inl (G.2 0, 93, .inl fun _ => 0) := by rw [ez_105, zs_ne (by omega)]; exact k_101
  have k_112 : z_105 (7) = .inl (G.2 0, 93, .inl fun _ => 0) := by rw [ez_105, zs_ne (by omega)]; exact k_102
  have k_113 : z_105 (8) = .inl (G.2 0, 93, .inl fun _ => 0) := by rw [ez_105, zs_ne (by omega)]; exact k_103
  have k_114 : z_105 (0) = .inr (8, [.ref (B + 1), .ref (B + 2), .ref (B + 3), .int 0, .int 0, .ref (B + 4), .int 0, .ref (B + 5), .ref (B + 6), .ref (B + 7), .ref (B + 8), .null, .int 0, .null, .int 0, .int 0, .int 0, .long 0, .int 0, .null, .null]) := by rw [ez_105, zs_ne (by omega)]; exact k_104
  have k_115 : z_105 (9) = .inl (G.2 0, 16, .inl fun _ => 0) := by rw [ez_105, zs_eq]
  refine z_putF (a := 0) (v := .ref (B + 9)) (ty := .array .int) hx hb hts iX8_init_X8 tyX8 tyX8_ok nmX8 hown hK hX hS (by omega) k_114 rfl 11 (by decide) (hts _ kX8_init_34) (fun _ h9 => h9) rfl hin rfl (by decide +kernel) rfl rfl (Nat.le_of_ble_eq_true rfl) dX8_init_75 (fun H lo hX hS => ?_)
  have hX : MZ G B (10) (zs z_105 (0) (.inr (8, [.ref (B + 1), .ref (B + 2), .ref (B + 3), .int 0, .int 0, .ref (B + 4), .int 0, .ref (B + 5), .ref (B + 6), .ref (B + 7), .ref (B + 8), .ref (B + 9), .int 0, .null, .int 0, .int 0, .int 0, .long 0, .int 0, .null, .null]))) H := hX
  obtain ⟨z_116, ez_116⟩ : ∃ z9, z9 = zs z_105 (0) (.inr (8, [.ref (B + 1), .ref (B + 2), .ref (B + 3), .int 0, .int 0, .ref (B + 4), .int 0, .ref (B + 5), .ref (B + 6), .ref (B + 7), .ref (B + 8), .ref (B + 9), .int 0, .null, .int 0, .int 0, .int 0, .long 0, .int 0, .null, .null])) := ⟨_, rfl⟩
  rw [← ez_116] at hX
  have k_117 : z_116 (1) = .inl (G.2 0, 8, .inl fun _ => 0) := by rw [ez_116, zs_ne (by omega)]; exact k_106
  have k_118 : z_116 (2) = .inl (G.2 0, 8, .inl fun _ => 0) := by rw [ez_116, zs_ne (by omega)]; exact k_107
  have k_119 : z_116 (3) = .inl (G.2 0, 320, .inl fun _ => 0) := by rw [ez_116, zs_ne (by omega)]; exact k_108
  have k_120 : z_116 (4) = .inl (G.2 0, 400, .inl fun _ => 0) := by rw [ez_116, zs_ne (by omega)]; exact k_109
  have k_121 : z_116 (5) = .inl (G.2 0, 93, .inl fun _ => 0) := by rw [ez_116, zs_ne (by omega)]; exact k_110
  have k_122 : z_116 (6) = .inl (G.2 0, 93, .inl fun _ => 0) := by rw [ez_116, zs_ne (by omega)]; exact k_111
  have k_123 : z_116 (7) = .inl (G.2 0, 93, .inl fun _ => 0) := by rw [ez_116, zs_ne (by omega)]; exact k_112
  have k_124 : z_116 (8) = .inl (G.2 0, 93, .inl fun _ => 0) := by rw [ez_116, zs_ne (by omega)]; exact k_113
  have k_125 : z_116 (9) = .inl (G.2 0, 16, .inl fun _ => 0) := by rw [ez_116, zs_ne (by omega)]; exact k_115
  have k_126 : z_116 (0) = .inr (8, [.ref (B + 1), .ref (B + 2), .ref (B + 3), .int 0, .int 0, .ref (B + 4), .int 0, .ref (B + 5), .ref (B + 6), .ref (B + 7), .ref (B + 8), .ref (B + 9), .int 0, .null, .int 0, .int 0, .int 0, .long 0, .int 0, .null, .null]) := by rw [ez_116, zs_eq]
  refine lv_aload_n hx hb dX8_init_78 rfl (lv_at hl 0 rfl) ?_
  refine lv_bipush (v := 40) hx hb dX8_init_79 (by decide) ?_
  refine z_newa (atype := .int) (t0 := 0) (cA := G.2 0) (N := 40) (a0 := (40, .inl fun _ => 0)) hx hb (hts _ kX8_init_ac0) rfl hK hX hS (fun _ => rfl) (by decide) (by decide) (by decide) (Nat.le_of_ble_eq_true rfl) (Nat.le_of_ble_eq_true rfl) dX8_init_81 (fun H hX hS => ?_)
  refine W.widen (k := 10) (n := 1164) (by omega) (by omega) ?_
  have hX : MZ G B (11) (zs z_116 (10) (.inl (G.2 0, 40, .inl fun _ => 0))) H := hX
  obtain ⟨z_127, ez_127⟩ : ∃ z9, z9 = zs z_116 (10) (.inl (G.2 0, 40, .inl fun _ => 0)) := ⟨_, rfl⟩
  rw [← ez_127] at hX
  have k_128 : z_127 (1) = .inl (G.2 0, 8, .inl fun _ => 0) := by rw [ez_127, zs_ne (by omega)]; exact k_117
  have k_129 : z_127 (2) = .inl (G.2 0, 8, .inl fun _ => 0) := by rw [ez_127, zs_ne (by omega)]; exact k_118
  have k_130 : z_127 (3) = .inl (G.2 0, 320, .inl fun _ => 0) := by rw [ez_127, zs_ne (by omega)]; exact k_119
  have k_131 : z_127 (4) = .inl (G.2 0, 400, .inl fun _ => 0) := by rw [ez_127, zs_ne (by omega)]; exact k_120
  have k_132 : z_127 (5) = .inl (G.2 0, 93, .inl fun _ => 0) := by rw [ez_127, zs_ne (by omega)]; exact k_121
  have k_133 : z_127 (6) = .inl (G.2 0, 93, .inl fun _ => 0) := by rw [ez_127, zs_ne (by omega)]; exact k_122
  have k_134 : z_127 (7) = .inl (G.2 0, 93, .inl fun _ => 0) := by rw [ez_127, zs_ne (by omega)]; exact k_123
  have k_135 : z_127 (8) = .inl (G.2 0, 93, .inl fun _ => 0) := by rw [ez_127, zs_ne (by omega)]; exact k_124
  have k_136 : z_127 (9) = .inl (G.2 0, 16, .inl fun _ => 0) := by rw [ez_127, zs_ne (by omega)]; exact k_125
  have k_137 : z_127 (0) = .inr (8, [.ref (B + 1), .ref (B + 2), .ref (B + 3), .int 0, .int 0, .ref (B + 4), .int 0, .ref (B + 5), .ref (B + 6), .ref (B + 7), .ref (B + 8), .ref (B + 9), .int 0, .null, .int 0, .int 0, .int 0, .long 0, .int 0, .null, .null]) := by rw [ez_127, zs_ne (by omega)]; exact k_126
  have k_138 : z_127 (10) = .inl (G.2 0, 40, .inl fun _ => 0) := by rw [ez_127, zs_eq]
  refine z_putF (a := 0) (v := .ref (B + 10)) (ty := .array .int) hx hb hts iX8_init_X8 tyX8 tyX8_ok nmX8 hown hK hX hS (by omega) k_137 rfl 13 (by decide) (hts _ kX8_init_37) (fun _ h9 => h9) rfl hin rfl (by decide +kernel) rfl rfl (Nat.le_of_ble_eq_true rfl) dX8_init_83 (fun H lo hX hS => ?_)
  have hX : MZ G B (11) (zs z_127 (0) (.inr (8, [.ref (B + 1), .ref (B + 2), .ref (B + 3), .int 0, .int 0, .ref (B + 4), .int 0, .ref (B + 5), .ref (B + 6), .ref (B + 7), .ref (B + 8), .ref (B + 9), .int 0, .ref (B + 10), .int 0, .int 0, .int 0, .long 0, .int 0, .null, .null]))) H := hX
  obtain ⟨z_139, ez_139⟩ : ∃ z9, z9 = zs z_127 (0) (.inr (8, [.ref (B + 1), .ref (B + 2), .ref (B + 3), .int 0, .int 0, .ref (B + 4), .int 0, .ref (B + 5), .ref (B + 6), .ref (B + 7), .ref (B + 8), .ref (B + 9), .int 0, .ref (B + 10), .int 0, .int 0, .int 0, .long 0, .int 0, .null, .null])) := ⟨_, rfl⟩
  rw [← ez_139] at hX
  have k_140 : z_139 (1) = .inl (G.2 0, 8, .inl fun _ => 0) := by rw [ez_139, zs_ne (by omega)]; exact k_128
  have k_141 : z_139 (2) = .inl (G.2 0, 8, .inl fun _ => 0) := by rw [ez_139, zs_ne (by omega)]; exact k_129
  have k_142 : z_139 (3) = .inl (G.2 0, 320, .inl fun _ => 0) := by rw [ez_139, zs_ne (by omega)]; exact k_130
  have k_143 : z_139 (4) = .inl (G.2 0, 400, .inl fun _ => 0) := by rw [ez_139, zs_ne (by omega)]; exact k_131
  have k_144 : z_139 (5) = .inl (G.2 0, 93, .inl fun _ => 0) := by rw [ez_139, zs_ne (by omega)]; exact k_132
  have k_145 : z_139 (6) = .inl (G.2 0, 93, .inl fun _ => 0) := by rw [ez_139, zs_ne (by omega)]; exact k_133
  have k_146 : z_139 (7) = .inl (G.2 0, 93, .inl fun _ => 0) := by rw [ez_139, zs_ne (by omega)]; exact k_134
  have k_147 : z_139 (8) = .inl (G.2 0, 93, .inl fun _ => 0) := by rw [ez_139, zs_ne (by omega)]; exact k_135
  have k_148 : z_139 (9) = .inl (G.2 0, 16, .inl fun _ => 0) := by rw [ez_139, zs_ne (by omega)]; exact k_136
  have k_149 : z_139 (10) = .inl (G.2 0, 40, .inl fun _ => 0) := by rw [ez_139, zs_ne (by omega)]; exact k_138
  have k_150 : z_139 (0) = .inr (8, [.ref (B + 1), .ref (B + 2), .ref (B + 3), .int 0, .int 0, .ref (B + 4), .int 0, .ref (B + 5), .ref (B + 6), .ref (B + 7), .ref (B + 8), .ref (B + 9), .int 0, .ref (B + 10), .int 0, .int 0, .int 0, .long 0, .int 0, .null, .null]) := by rw [ez_139, zs_eq]
  refine lv_aload_n hx hb dX8_init_86 rfl (lv_at hl 0 rfl) ?_
  refine lv_bipush (v := 8) hx hb dX8_init_87 (by decide) ?_
  refine z_newa (atype := .int) (t0 := 0) (cA := G.2 0) (N := 8) (a0 := (8, .inl fun _ => 0)) hx hb (hts _ kX8_init_ac0) rfl hK hX hS (fun _ => rfl) (by decide) (by decide) (by decide) (Nat.le_of_ble_eq_true rfl) (Nat.le_of_ble_eq_true rfl) dX8_init_89 (fun H hX hS => ?_)
  refine W.widen (k := 11) (n := 1172) (by omega) (by omega) ?_
  have hX : MZ G B (12) (zs z_139 (11) (.inl (G.2 0, 8, .inl fun _ => 0))) H := hX
  obtain ⟨z_151, ez_151⟩ : ∃ z9, z9 = zs z_139 (11) (.inl (G.2 0, 8, .inl fun _ => 0)) := ⟨_, rfl⟩
  rw [← ez_151] at hX
  have k_152 : z_151 (1) = .inl (G.2 0, 8, .inl fun _ => 0) := by rw [ez_151, zs_ne (by omega)]; exact k_140
  have k_153 : z_151 (2) = .inl (G.2 0, 8, .inl fun _ => 0) := by rw [ez_151, zs_ne (by omega)]; exact k_141
  have k_154 : z_151 (3) = .inl (G.2 0, 320, .inl fun _ => 0) := by rw [ez_151, zs_ne (by omega)]; exact k_142
  have k_155 : z_151 (4) = .inl (G.2 0, 400, .inl fun _ => 0) := by rw [ez_151, zs_ne (by omega)]; exact k_143
  have k_156 : z_151 (5) = .inl (G.2 0, 93, .inl fun _ => 0) := by rw [ez_151, zs_ne (by omega)]; exact k_144
  have k_157 : z_151 (6) = .inl (G.2 0, 93, .inl fun _ => 0) := by rw [ez_151, zs_ne (by omega)]; exact k_145
  have k_158 : z_151 (7) = .inl (G.2 0, 93, .inl fun _ => 0) := by rw [ez_151, zs_ne (by omega)]; exact k_146
  have k_159 : z_151 (8) = .inl (G.2 0, 93, .inl fun _ => 0) := by rw [ez_151, zs_ne (by omega)]; exact k_147
  have k_160 : z_151 (9) = .inl (G.2 0, 16, .inl fun _ => 0) := by rw [ez_151, zs_ne (by omega)]; exact k_148
  have k_161 : z_151 (10) = .inl (G.2 0, 40, .inl fun _ => 0) := by rw [ez_151, zs_ne (by omega)]; exact k_149
  have k_162 : z_151 (0) = .inr (8, [.ref (B + 1), .ref (B + 2), .ref (B + 3), .int 0, .int 0, .ref (B + 4), .int 0, .ref (B + 5), .ref (B + 6), .ref (B + 7), .ref (B + 8), .ref (B + 9), .int 0, .ref (B + 10), .int 0, .int 0, .int 0, .long 0, .int 0, .null, .null]) := by rw [ez_151, zs_ne (by omega)]; exact k_150
  have k_163 : z_151 (11) = .inl (G.2 0, 8, .inl fun _ => 0) := by rw [ez_151, zs_eq]
  refine z_putF (a := 0) (v := .ref (B + 11)) (ty := .array .int) hx hb hts iX8_init_X8 tyX8 tyX8_ok nmX8 hown hK hX hS (by omega) k_162 rfl 19 (by decide) (hts _ kX8_init_40) (fun _ h9 => h9) rfl hin rfl (by decide +kernel) rfl rfl (Nat.le_of_ble_eq_true rfl) dX8_init_91 (fun H lo hX hS => ?_)
  have hX : MZ G B (12) (zs z_151 (0) (.inr (8, [.ref (B + 1), .ref (B + 2), .ref (B + 3), .int 0, .int 0, .ref (B + 4), .int 0, .ref (B + 5), .ref (B + 6), .ref (B + 7), .ref (B + 8), .ref (B + 9), .int 0, .ref (B + 10), .int 0, .int 0, .int 0, .long 0, .int 0, .ref (B + 11), .null]))) H := hX
  obtain ⟨z_164, ez_164⟩ : ∃ z9, z9 = zs z_151 (0) (.inr (8, [.ref (B + 1), .ref (B + 2), .ref (B + 3), .int 0, .int 0, .ref (B + 4), .int 0, .ref (B + 5), .ref (B + 6), .ref (B + 7), .ref (B + 8), .ref (B + 9), .int 0, .ref (B + 10), .int 0, .int 0, .int 0, .long 0, .int 0, .ref (B + 11), .null])) := ⟨_, rfl⟩
  rw [← ez_164] at hX
  have k_165 : z_164 (1) = .inl (G.2 0, 8, .inl fun _ => 0) := by rw [ez_164, zs_ne (by omega)]; exact k_152
  have k_166 : z_164 (2) = .inl (G.2 0, 8, .inl fun _ => 0) := by rw [ez_164, zs_ne (by omega)]; exact k_153
  have k_167 : z_164 (3) = .inl (G.2 0, 320, .inl fun _ => 0) := by rw [ez_164, zs_ne (by omega)]; exact k_154
  have k_168 : z_164 (4) = .inl (G.2 0, 400, .inl fun _ => 0) := by rw [ez_164, zs_ne (by omega)]; exact k_155
  have k_169 : z_164 (5) = .inl (G.2 0, 93, .inl fun _ => 0) := by rw [ez_164, zs_ne (by omega)]; exact k_156
  have k_170 : z_164 (6) = .inl (G.2 0, 93, .inl fun _ => 0) := by rw [ez_164, zs_ne (by omega)]; exact k_157
  have k_171 : z_164 (7) = .inl (G.2 0, 93, .inl fun _ => 0) := by rw [ez_164, zs_ne (by omega)]; exact k_158
  have k_172 : z_164 (8) = .inl (G.2 0, 93, .inl fun _ => 0) := by rw [ez_164, zs_ne (by omega)]; exact k_159
  have k_173 : z_164 (9) = .inl (G.2 0, 16, .inl fun _ => 0) := by rw [ez_164, zs_ne (by omega)]; exact k_160
  have k_174 : z_164 (10) = .inl (G.2 0, 40, .inl fun _ => 0) := by rw [ez_164, zs_ne (by omega)]; exact k_161
  have k_175 : z_164 (11) = .inl (G.2 0, 8, .inl fun _ => 0) := by rw [ez_164, zs_ne (by omega)]; exact k_163
  have k_176 : z_164 (0) = .inr (8, [.ref (B + 1), .ref (B + 2), .ref (B + 3), .int 0, .int 0, .ref (B + 4), .int 0, .ref (B + 5), .ref (B + 6), .ref (B + 7), .ref (B + 8), .ref (B + 9), .int 0, .ref (B + 10), .int 0, .int 0, .int 0, .long 0, .int 0, .ref (B + 11), .null]) := by rw [ez_164, zs_eq]
  refine lv_aload_n hx hb dX8_init_94 rfl (lv_at hl 0 rfl) ?_
  refine lv_bipush (v := 8) hx hb dX8_init_95 (by decide) ?_
  refine z_newa (atype := .int) (t0 := 0) (cA := G.2 0) (N := 8) (a0 := (8, .inl fun _ => 0)) hx hb (hts _ kX8_init_ac0) rfl hK hX hS (fun _ => rfl) (by decide) (by decide) (by decide) (Nat.le_of_ble_eq_true rfl) (Nat.le_of_ble_eq_true rfl) dX8_init_97 (fun H hX hS => ?_)
  refine W.widen (k := 12) (n := 1180) (by omega) (by omega) ?_
  have hX : MZ G B (13) (zs z_164 (12) (.inl (G.2 0, 8, .inl fun _ => 0))) H := hX
  obtain ⟨z_177, ez_177⟩ : ∃ z9, z9 = zs z_164 (12) (.inl (G.2 0, 8, .inl fun _ => 0)) := ⟨_, rfl⟩
  rw [← ez_177] at hX
  have k_178 : z_177 (1) = .inl (G.2 0, 8, .inl fun _ => 0) := by rw [ez_177, zs_ne (by omega)]; exact k_165
  have k_179 : z_177 (2) = .inl (G.2 0, 8, .inl fun _ => 0) := by rw [ez_177, zs_ne (by omega)]; exact k_166
  have k_180 : z_177 (3) = .inl (G.2 0, 320, .inl fun _ => 0) := by rw [ez_177, zs_ne (by omega)]; exact k_167
  have k_181 : z_177 (4) = .inl (G.2 0, 400, .inl fun _ => 0) := by rw [ez_177, zs_ne (by omega)]; exact k_168
  have k_182 : z_177 (5) = .inl (G.2 0, 93, .inl fun _ => 0) := by rw [ez_177, zs_ne (by omega)]; exact k_169
  have k_183 : z_177 (6) = .inl (G.2 0, 93, .inl fun _ => 0) := by rw [ez_177, zs_ne (by omega)]; exact k_170
  have k_184 : z_177 (7) = .inl (G.2 0, 93, .inl fun _ => 0) := by rw [ez_177, zs_ne (by omega)]; exact k_171
  have k_185 : z_177 (8) = .inl (G.2 0, 93, .inl fun _ => 0) := by rw [ez_177, zs_ne (by omega)]; exact k_172
  have k_186 : z_177 (9) = .inl (G.2 0, 16, .inl fun _ => 0) := by rw [ez_177, zs_ne (by omega)]; exact k_173
  have k_187 : z_177 (10) = .inl (G.2 0, 40, .inl fun _ => 0) := by rw [ez_177, zs_ne (by omega)]; exact k_174
  have k_188 : z_177 (11) = .inl (G.2 0, 8, .inl fun _ => 0) := by rw [ez_177, zs_ne (by omega)]; exact k_175
  have k_189 : z_177 (0) = .inr (8, [.ref (B + 1), .ref (B + 2), .ref (B + 3), .int 0, .int 0, .ref (B + 4), .int 0, .ref (B + 5), .ref (B + 6), .ref (B + 7), .ref (B + 8), .ref (B + 9), .int 0, .ref (B + 10), .int 0, .int 0, .int 0, .long 0, .int 0, .ref (B + 11), .null]) := by rw [ez_177, zs_ne (by omega)]; exact k_176
  have k_190 : z_177 (12) = .inl (G.2 0, 8, .inl fun _ => 0) := by rw [ez_177, zs_eq]
  refine z_putF (a := 0) (v := .ref (B + 12)) (ty := .array .int) hx hb hts iX8_init_X8 tyX8 tyX8_ok nmX8 hown hK hX hS (by omega) k_189 rfl 20 (by decide) (hts _ kX8_init_43) (fun _ h9 => h9) rfl hin rfl (by decide +kernel) rfl rfl (Nat.le_of_ble_eq_true rfl) dX8_init_99 (fun H lo hX hS => ?_)
  have hX : MZ G B (13) (zs z_177 (0) (.inr (8, [.ref (B + 1), .ref (B + 2), .ref (B + 3), .int 0, .int 0, .ref (B + 4), .int 0, .ref (B + 5), .ref (B + 6), .ref (B + 7), .ref (B + 8), .ref (B + 9), .int 0, .ref (B + 10), .int 0, .int 0, .int 0, .long 0, .int 0, .ref (B + 11), .ref (B + 12)]))) H := hX
  obtain ⟨z_191, ez_191⟩ : ∃ z9, z9 = zs z_177 (0) (.inr (8, [.ref (B + 1), .ref (B + 2), .ref (B + 3), .int 0, .int 0, .ref (B + 4), .int 0, .ref (B + 5), .ref (B + 6), .ref (B + 7), .ref (B + 8), .ref (B + 9), .int 0, .ref (B + 10), .int 0, .int 0, .int 0, .long 0, .int 0, .ref (B + 11), .ref (B + 12)])) := ⟨_, rfl⟩
  rw [← ez_191] at hX
  have k_192 : z_191 (1) = .inl (G.2 0, 8, .inl fun _ => 0) := by rw [ez_191, zs_ne (by omega)]; exact k_178
  have k_193 : z_191 (2) = .inl (G.2 0, 8, .inl fun _ => 0) := by rw [ez_191, zs_ne (by omega)]; exact k_179
  have k_194 : z_191 (3) = .inl (G.2 0, 320, .inl fun _ => 0) := by rw [ez_191, zs_ne (by omega)]; exact k_180
  have k_195 : z_191 (4) = .inl (G.2 0, 400, .inl fun _ => 0) := by rw [ez_191, zs_ne (by omega)]; exact k_181
  have k_196 : z_191 (5) = .inl (G.2 0, 93, .inl fun _ => 0) := by rw [ez_191, zs_ne (by omega)]; exact k_182
  have k_197 : z_191 (6) = .inl (G.2 0, 93, .inl fun _ => 0) := by rw [ez_191, zs_ne (by omega)]; exact k_183
  have k_198 : z_191 (7) = .inl (G.2 0, 93, .inl fun _ => 0) := by rw [ez_191, zs_ne (by omega)]; exact k_184
  have k_199 : z_191 (8) = .inl (G.2 0, 93, .inl fun _ => 0) := by rw [ez_191, zs_ne (by omega)]; exact k_185
  have k_200 : z_191 (9) = .inl (G.2 0, 16, .inl fun _ => 0) := by rw [ez_191, zs_ne (by omega)]; exact k_186
  have k_201 : z_191 (10) = .inl (G.2 0, 40, .inl fun _ => 0) := by rw [ez_191, zs_ne (by omega)]; exact k_187
  have k_202 : z_191 (11) = .inl (G.2 0, 8, .inl fun _ => 0) := by rw [ez_191, zs_ne (by omega)]; exact k_188
  have k_203 : z_191 (12) = .inl (G.2 0, 8, .inl fun _ => 0) := by rw [ez_191, zs_ne (by omega)]; exact k_190
  have k_204 : z_191 (0) = .inr (8, [.ref (B + 1), .ref (B + 2), .ref (B + 3), .int 0, .int 0, .ref (B + 4), .int 0, .ref (B + 5), .ref (B + 6), .ref (B + 7), .ref (B + 8), .ref (B + 9), .int 0, .ref (B + 10), .int 0, .int 0, .int 0, .long 0, .int 0, .ref (B + 11), .ref (B + 12)]) := by rw [ez_191, zs_eq]
  refine lv_iconst (v := 0) hx hb dX8_init_102 (by decide) ?_
  refine lv_istore_n (lv' := [(1, .int 0), (0, .ref (B + 0))]) hx hb dX8_init_103 rfl hl (by decide) rfl (fun ls hl => ?_)
  have L : ∀ (n9 i : Nat) (z1 : Nat → va_E) (_ : n9 = 8 - i) (_ : i ≤ 8 ∧ z1 1 = .inl (G.2 0, 8, .inl (fun k => if k < i then -1 else 0)) ∧ ∀ b, b < 13 → b ≠ 1 → z1 b = z_191 b) (H : Heap) (lo : List Loc) (_ : MZ G B 13 z1 H) (_ : va_S (blkF B) ss.heap H lo) (ls : Array Slot) (_ : lv_has ls 2 [(1, .int (nI i)), (0, .ref (B + 0))]), W pp l ee rmX8_init ss mm aa bb mt cd H lo 12 1180 Q (F0 mm 104 ls []) := by
    intro n9
    induction n9 using Nat.strongRecOn with
    | _ n9 ih =>
      intro i z1 hn9 hI H lo hX hS ls hl
      obtain ⟨hi, g1, g5⟩ := hI
      have g0 : z1 0 = .inr (8, [.ref (B + 1), .ref (B + 2), .ref (B + 3), .int 0, .int 0, .ref (B + 4), .int 0, .ref (B + 5), .ref (B + 6), .ref (B + 7), .ref (B + 8), .ref (B + 9), .int 0, .ref (B + 10), .int 0, .int 0, .int 0, .long 0, .int 0, .ref (B + 11), .ref (B + 12)]) := (g5 0 (by decide) (by decide)).trans k_204
      refine lv_iload_n hx hb dX8_init_104 rfl (lv_at hl 0 rfl) ?_
      refine lv_bipush (v := 8) hx hb dX8_init_105 (by decide) ?_
      refine lv_icmp_ge (tgt := 123) hx hb dX8_init_107 (by decide) (fun c9 => ?_) (fun c9 => ?_)
      · have n9c := (n_le (a := 8) (b := i) rfl rfl (by decide) (by omega)).mp c9
        have e8 : i = 8 := by omega
        subst e8
        rw [← hQ]
        refine z_vret hx hb hr hX hS hlocks dX8_init_123 (fun b hb9 => ?_)
        have hb8 : b = 0 ∨ b = 1 ∨ b = 2 ∨ b = 3 ∨ b = 4 ∨ b = 5 ∨ b = 6 ∨ b = 7 ∨ b = 8 ∨ b = 9 ∨ b = 10 ∨ b = 11 ∨ b = 12 := by omega
        rcases hb8 with rfl | rfl | rfl | rfl | rfl | rfl | rfl | rfl | rfl | rfl | rfl | rfl | rfl
        · rw [g0]; rfl
        · rw [g1, shM_a (by decide), show y0 1 = fun k => if k < 8 then (-1 : Int32) else 0 from funext fun k => by show (if (1 : Nat) = 1 ∧ k < 8 then (-1 : Int32) else 0) = _; simp]; try rfl
        · rw [g5 2 (by decide) (by decide), k_193]; rw [shM_a (by decide)]; congr 3
        · rw [g5 3 (by decide) (by decide), k_194]; rw [shM_a (by decide)]; congr 3
        · rw [g5 4 (by decide) (by decide), k_195]; rw [shM_a (by decide)]; congr 3
        · rw [g5 5 (by decide) (by decide), k_196]; rw [shM_a (by decide)]; congr 3
        · rw [g5 6 (by decide) (by decide), k_197]; rw [shM_a (by decide)]; congr 3
        · rw [g5 7 (by decide) (by decide), k_198]; rw [shM_a (by decide)]; congr 3
        · rw [g5 8 (by decide) (by decide), k_199]; rw [shM_a (by decide)]; congr 3
        · rw [g5 9 (by decide) (by decide), k_200]; rw [shM_a (by decide)]; congr 3
        · rw [g5 10 (by decide) (by decide), k_201]; rw [shM_a (by decide)]; congr 3
        · rw [g5 11 (by decide) (by decide), k_202]; rw [shM_a (by decide)]; congr 3
        · rw [g5 12 (by decide) (by decide), k_203]; rw [shM_a (by decide)]; congr 3
      · have n9c : i < 8 := Nat.lt_of_not_le (fun q => c9 ((n_le (a := 8) (b := i) rfl rfl (by decide) (by omega)).mpr q))
        refine lv_aload_n hx hb dX8_init_110 rfl (lv_at hl 1 rfl) ?_
        refine z_get (a := 0) (v := .ref (B + 1)) hx hb hts iX8_init_X8 hown hK hX (by omega) g0 rfl 0 (by decide) (hts _ kX8_init_7) (fun _ h9 => h9) rfl dX8_init_111 ?_
        refine lv_iload_n hx hb dX8_init_114 rfl (lv_at hl 0 rfl) ?_
        refine lv_iconst (v := (-1)) hx hb dX8_init_115 (by decide) ?_
        refine z_iast (a := 1) (N := 8) (j := i) hx hb hK hX hS (by decide) g1 rfl (by omega) (by decide) dX8_init_116 (fun H lo hX hS => ?_)
        have hX : MZ G B (13) (zs z1 (1) (.inl (G.2 0, 8, .inl (upd (fun k => if k < i then -1 else 0) i (-1))))) H := hX
        obtain ⟨z_205, ez_205⟩ : ∃ z9, z9 = zs z1 (1) (.inl (G.2 0, 8, .inl (upd (fun k => if k < i then -1 else 0) i (-1)))) := ⟨_, rfl⟩
        rw [← ez_205] at hX
        have k_206 : z_205 (0) = .inr (8, [.ref (B + 1), .ref (B + 2), .ref (B + 3), .int 0, .int 0, .ref (B + 4), .int 0, .ref (B + 5), .ref (B + 6), .ref (B + 7), .ref (B + 8), .ref (B + 9), .int 0, .ref (B + 10), .int 0, .int 0, .int 0, .long 0, .int 0, .ref (B + 11), .ref (B + 12)]) := by rw [ez_205, zs_ne (by omega)]; exact g0
        have k_207 : z_205 (1) = .inl (G.2 0, 8, .inl (upd (fun k => if k < i then -1 else 0) i (-1))) := by rw [ez_205, zs_eq]
        refine lv_iinc (v := nI (i + 1)) (lv' := [(1, .int (nI (i + 1))), (0, .ref (B + 0))]) hx hb dX8_init_117 hl (k := 0) rfl (inc_nI _) (by decide) rfl (fun ls hl => ?_)
        refine lv_goto (tgt := 104) hx hb dX8_init_120 (by decide) ?_
        exact ih (8 - (i + 1)) (by omega) (i + 1) z_205 rfl ⟨by omega, by
            rw [k_207]
            congr 4
            funext k
            by_cases e : k = i
            · rw [e, upd_eq, if_pos (by omega)]
            · rw [upd_ne e]
              by_cases e2 : k < i
              · rw [if_pos e2, if_pos (by omega)]
              · rw [if_neg e2, if_neg (by omega)]
        , fun b b1 b2 => by rw [ez_205, zs_ne (by omega)]; exact g5 b b1 b2⟩ _ _ hX hS ls (lv_sub hl [0, 1] rfl)
  exact L 8 0 z_191 rfl ⟨by decide, by rw [k_192]; congr 3, fun b b1 b2 => rfl⟩ _ _ hX hS ls (lv_sub hl [0, 1] rfl)
