theorem kX0_init_oi : (.methodLink RX0 3 objectInit : Cond) ∈ wsX0_init := by decide +kernel
theorem kX0_init_om : (.instanceMethod objectInit : Cond) ∈ wsX0_init := by decide +kernel
theorem kX0_init_oc : (.code objectInit ⟨#[0xb1]⟩ 1 none : Cond) ∈ wsX0_init := by decide +kernel
abbrev rmX0_init : Room := { frames := 1, cells := 0, slots := 0, locals := 40 }
set_option maxHeartbeats 4000000 in
set_option maxRecDepth 100000 in
theorem c_X0_init (l : Launch) (G : GG) (B : Nat) {n a : Nat} (z : Nat → va_E) (_ : a < n) : Met l yX0_init wsX0_init rmX0_init (ZP G B (n) z [.ref (B + a)]) (va_Qv (fun y => y = z) (ZB G B (n)) (blkF B)) 0 0 (blkF B) := by
  refine Met.ofW (cc := cX0_init) (maxL := 1) (ret := none) (by decide) rfl ?_
  intro pp ee ss mm aa bb mt cd s1 Bd hml hv
  obtain ⟨hae, hX, hK, hO⟩ := hv
  have hx := Bd.exec
  have hb := Bd.bytes
  have hr := Bd.returns
  have hts := atoms_spec (ws := wsX0_init) Bd.pre
  have hown : ss.vm.findClass RX0 = some mm.cls := findClass_of_methodNamed Bd.named
  have hlocks := Bd.notSynchronized
  have hin : mt.name = "<init>" := (name_of_methodNamed Bd.named Bd.method).1
  have hS : va_S (blkF B) ss.heap ss.heap [] := va_S.rf
  have hl := lv_entry ([.ref (B + a)]) (n := 1) (Nat.le_of_ble_eq_true rfl)
  subst hae
  rw [lg_entry_eq]
  generalize (lg_sl ([.ref (B + a)]) ++ List.replicate (1 - (lg_sl ([.ref (B + a)])).length) Slot.unset).toArray = ls at hl ⊢
  have hl : lv_has ls 1 [(0, .ref (B + a))] := hl
  generalize ([.ref (B + a)] : List Value).toArray = aa at hts ⊢
  show W pp l ee rmX0_init ss mm aa bb mt cd ss.heap [] 0 0 _ (F0 mm 0 ls [])
  generalize hQ : MQ bb (va_Qv (fun y => y = z) (ZB G B (n)) (blkF B)) aa ss 0 0 (blkF B) = Q
  refine lv_aload_n hx hb dX0_init_0 rfl (lv_at hl 0 rfl) ?_
  refine W.objInit hx hb hown (hts _ kX0_init_oi) (hts _ kX0_init_om) (hts _ kX0_init_oc) rfl (by rw [hml]; exact hl.1) rfl dX0_init_1 (Nat.le_of_ble_eq_true rfl) (Nat.le_of_ble_eq_true rfl) ?_
  refine W.eq (g2 := F0 mm 4 ls []) rfl ?_
  rw [← hQ]
  refine z_vret hx hb hr hX hS hlocks dX0_init_4 ?_
  rfl
theorem kX4_init_oi : (.methodLink RX4 3 objectInit : Cond) ∈ wsX4_init := by decide +kernel
theorem kX4_init_om : (.instanceMethod objectInit : Cond) ∈ wsX4_init := by decide +kernel
theorem kX4_init_oc : (.code objectInit ⟨#[0xb1]⟩ 1 none : Cond) ∈ wsX4_init := by decide +kernel
theorem kX4_init_ac0 : (.arrayClass .int : Cond) ∈ wsX4_init := by decide +kernel
theorem kX4_init_9 : (.fieldLink RX4 9 "WindTaken$Row" "items" "[I" : Cond) ∈ wsX4_init := by decide +kernel
theorem iX4_init_X4 : ∀ w ∈ wsX40, w ∈ wsX4_init := by decide +kernel
theorem kX4_init_15 : (.fieldLink RX4 15 "WindTaken$Row" "size" "I" : Cond) ∈ wsX4_init := by decide +kernel
abbrev rmX4_init : Room := { frames := 1, cells := 1, slots := 40, locals := 40 }
set_option maxHeartbeats 4000000 in
set_option maxRecDepth 100000 in
theorem c_X4_init (l : Launch) (G : GG) (B : Nat) {n a : Nat} (z : Nat → va_E) (ha : a < n) (hz : z a = .inr (4, [.null, .int 0, .int 0])) : Met l yX4_init wsX4_init rmX4_init (ZP G B (n) z [.ref (B + a)]) (va_Qv (fun y => y a = .inr (4, [.ref (B + n), .int 0, .int (-1)]) ∧ y n = .inl (G.2 0, 40, .inl fun _ => 0) ∧ ∀ b, b ≠ a → b ≠ n → y b = z b) (ZB G B (n + 1)) (blkF B)) 1 40 (blkF B) := by
  refine Met.ofW (cc := cX4_init) (maxL := 1) (ret := none) (by decide) rfl ?_
  intro pp ee ss mm aa bb mt cd s1 Bd hml hv
  obtain ⟨hae, hX, hK, hO⟩ := hv
  have hx := Bd.exec
  have hb := Bd.bytes
  have hr := Bd.returns
  have hts := atoms_spec (ws := wsX4_init) Bd.pre
  have hown : ss.vm.findClass RX4 = some mm.cls := findClass_of_methodNamed Bd.named
  have hlocks := Bd.notSynchronized
  have hin : mt.name = "<init>" := (name_of_methodNamed Bd.named Bd.method).1
  have hS : va_S (blkF B) ss.heap ss.heap [] := va_S.rf
  have hl := lv_entry ([.ref (B + a)]) (n := 1) (Nat.le_of_ble_eq_true rfl)
  subst hae
  rw [lg_entry_eq]
  generalize (lg_sl ([.ref (B + a)]) ++ List.replicate (1 - (lg_sl ([.ref (B + a)])).length) Slot.unset).toArray = ls at hl ⊢
  have hl : lv_has ls 1 [(0, .ref (B + a))] := hl
  generalize ([.ref (B + a)] : List Value).toArray = aa at hts ⊢
  show W pp l ee rmX4_init ss mm aa bb mt cd ss.heap [] 0 0 _ (F0 mm 0 ls [])
  generalize hQ : MQ bb (va_Qv (fun y => y a = .inr (4, [.ref (B + n), .int 0, .int (-1)]) ∧ y n = .inl (G.2 0, 40, .inl fun _ => 0) ∧ ∀ b, b ≠ a → b ≠ n → y b = z b) (ZB G B (n + 1)) (blkF B)) aa ss 1 40 (blkF B) = Q
  refine lv_aload_n hx hb dX4_init_0 rfl (lv_at hl 0 rfl) ?_
  refine W.objInit hx hb hown (hts _ kX4_init_oi) (hts _ kX4_init_om) (hts _ kX4_init_oc) rfl (by rw [hml]; exact hl.1) rfl dX4_init_1 (Nat.le_of_ble_eq_true rfl) (Nat.le_of_ble_eq_true rfl) ?_
  refine W.eq (g2 := F0 mm 4 ls []) rfl ?_
  refine lv_aload_n hx hb dX4_init_4 rfl (lv_at hl 0 rfl) ?_
  refine lv_bipush (v := 40) hx hb dX4_init_5 (by decide) ?_
  refine z_newa (atype := .int) (t0 := 0) (cA := G.2 0) (N := 40) (a0 := (40, .inl fun _ => 0)) hx hb (hts _ kX4_init_ac0) rfl hK hX hS (fun _ => rfl) (by decide) (by decide) (by decide) (Nat.le_of_ble_eq_true rfl) (Nat.le_of_ble_eq_true rfl) dX4_init_7 (fun H hX hS => ?_)
  refine W.widen (k := 1) (n := 40) (by omega) (by omega) ?_
  have hX : MZ G B (n + 1) (zs z (n) (.inl (G.2 0, 40, .inl fun _ => 0))) H := hX
  obtain ⟨z_1, ez_1⟩ : ∃ z9, z9 = zs z (n) (.inl (G.2 0, 40, .inl fun _ => 0)) := ⟨_, rfl⟩
  rw [← ez_1] at hX
  have k_2 : z_1 (a) = .inr (4, [.null, .int 0, .int 0]) := by rw [ez_1, zs_ne (by omega)]; exact hz
  have k_3 : z_1 (n) = .inl (G.2 0, 40, .inl fun _ => 0) := by rw [ez_1, zs_eq]
  refine z_putF (a := a) (v := .ref (B + n)) (ty := .array .int) hx hb hts iX4_init_X4 tyX4 tyX4_ok nmX4 hown hK hX hS (by omega) k_2 rfl 0 (by decide) (hts _ kX4_init_9) (fun _ h9 => h9) rfl hin rfl (by decide +kernel) rfl rfl (Nat.le_of_ble_eq_true rfl) dX4_init_9 (fun H lo hX hS => ?_)
  have hX : MZ G B (n + 1) (zs z_1 (a) (.inr (4, [.ref (B + n), .int 0, .int 0]))) H := hX
  obtain ⟨z_4, ez_4⟩ : ∃ z9, z9 = zs z_1 (a) (.inr (4, [.ref (B + n), .int 0, .int 0])) := ⟨_, rfl⟩
  rw [← ez_4] at hX
  have k_5 : z_4 (n) = .inl (G.2 0, 40, .inl fun _ => 0) := by rw [ez_4, zs_ne (by omega)]; exact k_3
  have k_6 : z_4 (a) = .inr (4, [.ref (B + n), .int 0, .int 0]) := by rw [ez_4, zs_eq]
  refine lv_aload_n hx hb dX4_init_12 rfl (lv_at hl 0 rfl) ?_
  refine lv_iconst (v := (-1)) hx hb dX4_init_13 (by decide) ?_
  refine z_put (a := a) (v := .int (-1)) (ty := .int) hx hb hts iX4_init_X4 tyX4 tyX4_ok nmX4 hown hK hX hS (by omega) k_6 rfl 2 (by decide) (hts _ kX4_init_15) (fun _ h9 => h9) rfl (by decide +kernel) rfl rfl (Nat.le_of_ble_eq_true rfl) dX4_init_14 (fun H lo hX hS => ?_)
  have hX : MZ G B (n + 1) (zs z_4 (a) (.inr (4, [.ref (B + n), .int 0, .int (-1)]))) H := hX
  obtain ⟨z_7, ez_7⟩ : ∃ z9, z9 = zs z_4 (a) (.inr (4, [.ref (B + n), .int 0, .int (-1)])) := ⟨_, rfl⟩
  rw [← ez_7] at hX
  have k_8 : z_7 (n) = .inl (G.2 0, 40, .inl fun _ => 0) := by rw [ez_7, zs_ne (by omega)]; exact k_5
  have k_9 : z_7 (a) = .inr (4, [.ref (B + n), .int 0, .int (-1)]) := by rw [ez_7, zs_eq]
  rw [← hQ]
  refine z_vret hx hb hr hX hS hlocks dX4_init_17 ?_
  exact ⟨k_9, k_8, fun b b1 b2 => by rw [ez_7, zs_ne (by assumption), ez_4, zs_ne (by assumption), ez_1, zs_ne (by assumption)]⟩
theorem kX5_init_oi : (.methodLink RX5 3 objectInit : Cond) ∈ wsX5_init := by decide +kernel
theorem kX5_init_om : (.instanceMethod objectInit : Cond) ∈ wsX5_init := by decide +kernel
theorem kX5_init_oc : (.code objectInit ⟨#[0xb1]⟩ 1 none : Cond) ∈ wsX5_init := by decide +kernel
theorem kX5_init_ac1 : (.arrayClass .byte : Cond) ∈ wsX5_init := by decide +kernel
theorem kX5_init_9 : (.fieldLink RX5 9 "WindTaken$Tape" "bytes" "[B" : Cond) ∈ wsX5_init := by decide +kernel
theorem iX5_init_X5 : ∀ w ∈ wsX50, w ∈ wsX5_init := by decide +kernel
abbrev rmX5_init : Room := { frames := 1, cells := 1, slots := 400, locals := 40 }
set_option maxHeartbeats 4000000 in
set_option maxRecDepth 100000 in
theorem c_X5_init (l : Launch) (G : GG) (B : Nat) {n a : Nat} (z : Nat → va_E) (ha : a < n) (hz : z a = .inr (5, [.null, .int 0])) : Met l yX5_init wsX5_init rmX5_init (ZP G B (n) z [.ref (B + a)]) (va_Qv (fun y => y a = .inr (5, [.ref (B + n), .int 0]) ∧ y n = .inl (G.2 1, 400, .inl fun _ => 0) ∧ ∀ b, b ≠ a → b ≠ n → y b = z b) (ZB G B (n + 1)) (blkF B)) 1 400 (blkF B) := by
  refine Met.ofW (cc := cX5_init) (maxL := 1) (ret := none) (by decide) rfl ?_
  intro pp ee ss mm aa bb mt cd s1 Bd hml hv
  obtain ⟨hae, hX, hK, hO⟩ := hv
  have hx := Bd.exec
  have hb := Bd.bytes
  have hr := Bd.returns
  have hts := atoms_spec (ws := wsX5_init) Bd.pre
  have hown : ss.vm.findClass RX5 = some mm.cls := findClass_of_methodNamed Bd.named
  have hlocks := Bd.notSynchronized
  have hin : mt.name = "<init>" := (name_of_methodNamed Bd.named Bd.method).1
  have hS : va_S (blkF B) ss.heap ss.heap [] := va_S.rf
  have hl := lv_entry ([.ref (B + a)]) (n := 1) (Nat.le_of_ble_eq_true rfl)
  subst hae
  rw [lg_entry_eq]
  generalize (lg_sl ([.ref (B + a)]) ++ List.replicate (1 - (lg_sl ([.ref (B + a)])).length) Slot.unset).toArray = ls at hl ⊢
  have hl : lv_has ls 1 [(0, .ref (B + a))] := hl
  generalize ([.ref (B + a)] : List Value).toArray = aa at hts ⊢
  show W pp l ee rmX5_init ss mm aa bb mt cd ss.heap [] 0 0 _ (F0 mm 0 ls [])
  generalize hQ : MQ bb (va_Qv (fun y => y a = .inr (5, [.ref (B + n), .int 0]) ∧ y n = .inl (G.2 1, 400, .inl fun _ => 0) ∧ ∀ b, b ≠ a → b ≠ n → y b = z b) (ZB G B (n + 1)) (blkF B)) aa ss 1 400 (blkF B) = Q
  refine lv_aload_n hx hb dX5_init_0 rfl (lv_at hl 0 rfl) ?_
  refine W.objInit hx hb hown (hts _ kX5_init_oi) (hts _ kX5_init_om) (hts _ kX5_init_oc) rfl (by rw [hml]; exact hl.1) rfl dX5_init_1 (Nat.le_of_ble_eq_true rfl) (Nat.le_of_ble_eq_true rfl) ?_
  refine W.eq (g2 := F0 mm 4 ls []) rfl ?_
  refine lv_aload_n hx hb dX5_init_4 rfl (lv_at hl 0 rfl) ?_
  refine lv_sipush (v := 400) hx hb dX5_init_5 (by decide) ?_
  refine z_newa (atype := .byte) (t0 := 1) (cA := G.2 1) (N := 400) (a0 := (400, .inl fun _ => 0)) hx hb (hts _ kX5_init_ac1) rfl hK hX hS (fun _ => rfl) (by decide) (by decide) (by decide) (Nat.le_of_ble_eq_true rfl) (Nat.le_of_ble_eq_true rfl) dX5_init_8 (fun H hX hS => ?_)
  refine W.widen (k := 1) (n := 400) (by omega) (by omega) ?_
  have hX : MZ G B (n + 1) (zs z (n) (.inl (G.2 1, 400, .inl fun _ => 0))) H := hX
  obtain ⟨z_1, ez_1⟩ : ∃ z9, z9 = zs z (n) (.inl (G.2 1, 400, .inl fun _ => 0)) := ⟨_, rfl⟩
  rw [← ez_1] at hX
  have k_2 : z_1 (a) = .inr (5, [.null, .int 0]) := by rw [ez_1, zs_ne (by omega)]; exact hz
  have k_3 : z_1 (n) = .inl (G.2 1, 400, .inl fun _ => 0) := by rw [ez_1, zs_eq]
  refine z_putF (a := a) (v := .ref (B + n)) (ty := .array .byte) hx hb hts iX5_init_X5 tyX5 tyX5_ok nmX5 hown hK hX hS (by omega) k_2 rfl 0 (by decide) (hts _ kX5_init_9) (fun _ h9 => h9) rfl hin rfl (by decide +kernel) rfl rfl (Nat.le_of_ble_eq_true rfl) dX5_init_10 (fun H lo hX hS => ?_)
  have hX : MZ G B (n + 1) (zs z_1 (a) (.inr (5, [.ref (B + n), .int 0]))) H := hX
  obtain ⟨z_4, ez_4⟩ : ∃ z9, z9 = zs z_1 (a) (.inr (5, [.ref (B + n), .int 0])) := ⟨_, rfl⟩
  rw [← ez_4] at hX
  have k_5 : z_4 (n) = .inl (G.2 1, 400, .inl fun _ => 0) := by rw [ez_4, zs_ne (by omega)]; exact k_3
  have k_6 : z_4 (a) = .inr (5, [.ref (B + n), .int 0]) := by rw [ez_4, zs_eq]
  rw [← hQ]
  refine z_vret hx hb hr hX hS hlocks dX5_init_13 ?_
  exact ⟨k_6, k_5, fun b b1 b2 => by rw [ez_4, zs_ne (by assumption), ez_1, zs_ne (by assumption)]⟩
theorem kX2_init_oi : (.methodLink RX2 3 objectInit : Cond) ∈ wsX2_init := by decide +kernel
theorem kX2_init_om : (.instanceMethod objectInit : Cond) ∈ wsX2_init := by decide +kernel
theorem kX2_init_oc : (.code objectInit ⟨#[0xb1]⟩ 1 none : Cond) ∈ wsX2_init := by decide +kernel
theorem iX2_init_X5 : ∀ w ∈ wsX50, w ∈ wsX2_init := by decide +kernel
theorem kX2_init_cl9 : (.classLink RX2 9 RX5 : Cond) ∈ wsX2_init := by decide +kernel
theorem kX2_init_in5 : (.instantiable RX5 2 : Cond) ∈ wsX2_init := by decide +kernel
theorem kX2_init_ini5 : (.initialized RX5 : Cond) ∈ wsX2_init := by decide +kernel
theorem kX2_init_im_X5_init : (.instanceMethod yX5_init : Cond) ∈ wsX2_init := by decide +kernel
theorem kX2_init_12 : (.fieldLink RX2 12 "WindTaken$Reader" "tape" "LWindTaken$Tape;" : Cond) ∈ wsX2_init := by decide +kernel
theorem iX2_init_X2 : ∀ w ∈ wsX20, w ∈ wsX2_init := by decide +kernel
abbrev rmX2_init : Room := { frames := 2, cells := 2, slots := 402, locals := 80 }
set_option maxHeartbeats 4000000 in
set_option maxRecDepth 100000 in
theorem c_X2_init (l : Launch) (G : GG) (B : Nat) {n a : Nat} (z : Nat → va_E) (ha : a < n) (hz : z a = .inr (2, [.null, .int 0, .int 0, .int 0, .int 0, .int 0, .int 0])) : Met l yX2_init wsX2_init rmX2_init (ZP G B (n) z [.ref (B + a)]) (va_Qv (fun y => y a = .inr (2, [.ref (B + n), .int 0, .int 0, .int 0, .int 0, .int 0, .int 0]) ∧ y n = .inr (5, [.ref (B + (n + 1)), .int 0]) ∧ y (n + 1) = .inl (G.2 1, 400, .inl fun _ => 0) ∧ ∀ b, b ≠ a → b ≠ n → b ≠ n + 1 → y b = z b) (ZB G B (n + 1 + 1)) (blkF B)) 2 402 (blkF B) := by
  refine Met.ofW (cc := cX2_init) (maxL := 1) (ret := none) (by decide) rfl ?_
  intro pp ee ss mm aa bb mt cd s1 Bd hml hv
  obtain ⟨hae, hX, hK, hO⟩ := hv
  have hx := Bd.exec
  have hb := Bd.bytes
  have hr := Bd.returns
  have hts := atoms_spec (ws := wsX2_init) Bd.pre
  have hown : ss.vm.findClass RX2 = some mm.cls := findClass_of_methodNamed Bd.named
  have hlocks := Bd.notSynchronized
  have hin : mt.name = "<init>" := (name_of_methodNamed Bd.named Bd.method).1
  have hS : va_S (blkF B) ss.heap ss.heap [] := va_S.rf
  have hl := lv_entry ([.ref (B + a)]) (n := 1) (Nat.le_of_ble_eq_true rfl)
  subst hae
  rw [lg_entry_eq]
  generalize (lg_sl ([.ref (B + a)]) ++ List.replicate (1 - (lg_sl ([.ref (B + a)])).length) Slot.unset).toArray = ls at hl ⊢
  have hl : lv_has ls 1 [(0, .ref (B + a))] := hl
  generalize ([.ref (B + a)] : List Value).toArray = aa at hts ⊢
  show W pp l ee rmX2_init ss mm aa bb mt cd ss.heap [] 0 0 _ (F0 mm 0 ls [])
  generalize hQ : MQ bb (va_Qv (fun y => y a = .inr (2, [.ref (B + n), .int 0, .int 0, .int 0, .int 0, .int 0, .int 0]) ∧ y n = .inr (5, [.ref (B + (n + 1)), .int 0]) ∧ y (n + 1) = .inl (G.2 1, 400, .inl fun _ => 0) ∧ ∀ b, b ≠ a → b ≠ n → b ≠ n + 1 → y b = z b) (ZB G B (n + 1 + 1)) (blkF B)) aa ss 2 402 (blkF B) = Q
  refine lv_aload_n hx hb dX2_init_0 rfl (lv_at hl 0 rfl) ?_
  refine W.objInit hx hb hown (hts _ kX2_init_oi) (hts _ kX2_init_om) (hts _ kX2_init_oc) rfl (by rw [hml]; exact hl.1) rfl dX2_init_1 (Nat.le_of_ble_eq_true rfl) (Nat.le_of_ble_eq_true rfl) ?_
  refine W.eq (g2 := F0 mm 4 ls []) rfl ?_
  refine lv_aload_n hx hb dX2_init_4 rfl (lv_at hl 0 rfl) ?_
  refine z_new (ci := 5) (fs := [.null, .int 0]) (C := RX5) (T := TX5) (N := 2) hx hb hts iX2_init_X5 tyX5 tyX5_ok hown (hts _ kX2_init_cl9) (hts _ kX2_init_in5) (hts _ kX2_init_ini5) hK hX hS rfl (by intro j hj; rcases (show j = 0 ∨ j = 1 by omega) with rfl | rfl <;> rfl) (Nat.le_of_ble_eq_true rfl) (Nat.le_of_ble_eq_true rfl) dX2_init_5 (fun H hX hS => ?_)
  refine W.widen (k := 1) (n := 2) (by omega) (by omega) ?_
  have hX : MZ G B (n + 1) (zs z (n) (.inr (5, [.null, .int 0]))) H := hX
  obtain ⟨z_1, ez_1⟩ : ∃ z9, z9 = zs z (n) (.inr (5, [.null, .int 0])) := ⟨_, rfl⟩
  rw [← ez_1] at hX
  have k_2 : z_1 (a) = .inr (2, [.null, .int 0, .int 0, .int 0, .int 0, .int 0, .int 0]) := by rw [ez_1, zs_ne (by omega)]; exact hz
  have k_3 : z_1 (n) = .inr (5, [.null, .int 0]) := by rw [ez_1, zs_eq]
  refine lv_dup hx hb dX2_init_8 rfl ?_
  refine z_vf (n' := n + 1 + 1) (va_runIN (host := "WindTaken") (As := []) (rest := [.ref (B + n), .ref (B + a)]) ⟨hx, hb, hml, hown, hts⟩ (c_X5_init l G B (n := n + 1) (a := n) z_1 (by omega) k_3) ⟨va_cnB 0 hts gX2_init_X5_init_n11 rfl rfl rfl (hK.2 _ (List.mem_of_getElem? (i := 2) rfl)) (hts _ kX2_init_ini5) (by decide +kernel) ⟨Nat.le_of_ble_eq_true rfl, Nat.le_of_ble_eq_true rfl⟩, rfl, (hts _ kX2_init_im_X5_init)⟩ (z_pre hX ⟨hK, hO⟩ [.ref (B + n)]) rfl rfl hl.1 rfl (lv_room (Nat.le_of_ble_eq_true rfl)) dX2_init_9 ⟨(Nat.le_of_ble_eq_true rfl), (Nat.le_of_ble_eq_true rfl)⟩) hS (fun y_4 H lo hp hX hS => ?_)
  try dsimp only at hp
  refine W.widen (k := 2) (n := 402) (by omega) (by omega) ?_
  have k_5 : y_4 a = .inr (2, [.null, .int 0, .int 0, .int 0, .int 0, .int 0, .int 0]) := (hp.2.2 a (by omega) (by omega)).trans k_2
  have k_6 : y_4 n = .inr (5, [.ref (B + (n + 1)), .int 0]) := hp.1
  have k_7 : y_4 (n + 1) = .inl (G.2 1, 400, .inl fun _ => 0) := hp.2.1
  refine z_putF (a := a) (v := .ref (B + n)) (ty := .object "WindTaken$Tape") hx hb hts iX2_init_X2 tyX2 tyX2_ok nmX2 hown hK hX hS (by omega) k_5 rfl 0 (by decide) (hts _ kX2_init_12) (fun _ h9 => h9) rfl hin rfl (by decide +kernel) rfl rfl (Nat.le_of_ble_eq_true rfl) dX2_init_12 (fun H lo hX hS => ?_)
  have hX : MZ G B (n + 1 + 1) (zs y_4 (a) (.inr (2, [.ref (B + n), .int 0, .int 0, .int 0, .int 0, .int 0, .int 0]))) H := hX
  obtain ⟨z_8, ez_8⟩ : ∃ z9, z9 = zs y_4 (a) (.inr (2, [.ref (B + n), .int 0, .int 0, .int 0, .int 0, .int 0, .int 0])) := ⟨_, rfl⟩
  rw [← ez_8] at hX
  have k_9 : z_8 (n) = .inr (5, [.ref (B + (n + 1)), .int 0]) := by rw [ez_8, zs_ne (by omega)]; exact k_6
  have k_10 : z_8 (n + 1) = .inl (G.2 1, 400, .inl fun _ => 0) := by rw [ez_8, zs_ne (by omega)]; exact k_7
  have k_11 : z_8 (a) = .inr (2, [.ref (B + n), .int 0, .int 0, .int 0, .int 0, .int 0, .int 0]) := by rw [ez_8, zs_eq]
  rw [← hQ]
  refine z_vret hx hb hr hX hS hlocks dX2_init_15 ?_
  exact ⟨k_11, k_9, k_10, fun b b1 b2 b3 => by rw [ez_8, zs_ne b1, hp.2.2 b b2 b3, ez_1, zs_ne b2]⟩
theorem kX6_init_oi : (.methodLink RX6 3 objectInit : Cond) ∈ wsX6_init := by decide +kernel
theorem kX6_init_om : (.instanceMethod objectInit : Cond) ∈ wsX6_init := by decide +kernel
theorem kX6_init_oc : (.code objectInit ⟨#[0xb1]⟩ 1 none : Cond) ∈ wsX6_init := by decide +kernel
theorem kX6_init_ac0 : (.arrayClass .int : Cond) ∈ wsX6_init := by decide +kernel
theorem kX6_init_9 : (.fieldLink RX6 9 "WindTaken$Trace" "numbers" "[I" : Cond) ∈ wsX6_init := by decide +kernel
theorem iX6_init_X6 : ∀ w ∈ wsX60, w ∈ wsX6_init := by decide +kernel
abbrev rmX6_init : Room := { frames := 1, cells := 1, slots := 16, locals := 40 }
set_option maxHeartbeats 4000000 in
set_option maxRecDepth 100000 in
theorem c_X6_init (l : Launch) (G : GG) (B : Nat) {n a : Nat} (z : Nat → va_E) (ha : a < n) (hz : z a = .inr (6, [.null, .int 0])) : Met l yX6_init wsX6_init rmX6_init (ZP G B (n) z [.ref (B + a)]) (va_Qv (fun y => y a = .inr (6, [.ref (B + n), .int 0]) ∧ y n = .inl (G.2 0, 16, .inl fun _ => 0) ∧ ∀ b, b ≠ a → b ≠ n → y b = z b) (ZB G B (n + 1)) (blkF B)) 1 16 (blkF B) := by
  refine Met.ofW (cc := cX6_init) (maxL := 1) (ret := none) (by decide) rfl ?_
  intro pp ee ss mm aa bb mt cd s1 Bd hml hv
  obtain ⟨hae, hX, hK, hO⟩ := hv
  have hx := Bd.exec
  have hb := Bd.bytes
  have hr := Bd.returns
  have hts := atoms_spec (ws := wsX6_init) Bd.pre
  have hown : ss.vm.findClass RX6 = some mm.cls := findClass_of_methodNamed Bd.named
  have hlocks := Bd.notSynchronized
  have hin : mt.name = "<init>" := (name_of_methodNamed Bd.named Bd.method).1
  have hS : va_S (blkF B) ss.heap ss.heap [] := va_S.rf
  have hl := lv_entry ([.ref (B + a)]) (n := 1) (Nat.le_of_ble_eq_true rfl)
  subst hae
  rw [lg_entry_eq]
  generalize (lg_sl ([.ref (B + a)]) ++ List.replicate (1 - (lg_sl ([.ref (B + a)])).length) Slot.unset).toArray = ls at hl ⊢
  have hl : lv_has ls 1 [(0, .ref (B + a))] := hl
  generalize ([.ref (B + a)] : List Value).toArray = aa at hts ⊢
  show W pp l ee rmX6_init ss mm aa bb mt cd ss.heap [] 0 0 _ (F0 mm 0 ls [])
  generalize hQ : MQ bb (va_Qv (fun y => y a = .inr (6, [.ref (B + n), .int 0]) ∧ y n = .inl (G.2 0, 16, .inl fun _ => 0) ∧ ∀ b, b ≠ a → b ≠ n → y b = z b) (ZB G B (n + 1)) (blkF B)) aa ss 1 16 (blkF B) = Q
  refine lv_aload_n hx hb dX6_init_0 rfl (lv_at hl 0 rfl) ?_
  refine W.objInit hx hb hown (hts _ kX6_init_oi) (hts _ kX6_init_om) (hts _ kX6_init_oc) rfl (by rw [hml]; exact hl.1) rfl dX6_init_1 (Nat.le_of_ble_eq_true rfl) (Nat.le_of_ble_eq_true rfl) ?_
  refine W.eq (g2 := F0 mm 4 ls []) rfl ?_
  refine lv_aload_n hx hb dX6_init_4 rfl (lv_at hl 0 rfl) ?_
  refine lv_bipush (v := 16) hx hb dX6_init_5 (by decide) ?_
  refine z_newa (atype := .int) (t0 := 0) (cA := G.2 0) (N := 16) (a0 := (16, .inl fun _ => 0)) hx hb (hts _ kX6_init_ac0) rfl hK hX hS (fun _ => rfl) (by decide) (by decide) (by decide) (Nat.le_of_ble_eq_true rfl) (Nat.le_of_ble_eq_true rfl) dX6_init_7 (fun H hX hS => ?_)
  refine W.widen (k := 1) (n := 16) (by omega) (by omega) ?_
  have hX : MZ G B (n + 1) (zs z (n) (.inl (G.2 0, 16, .inl fun _ => 0))) H := hX
  obtain ⟨z_1, ez_1⟩ : ∃ z9, z9 = zs z (n) (.inl (G.2 0, 16, .inl fun _ => 0)) := ⟨_, rfl⟩
  rw [← ez_1] at hX
  have k_2 : z_1 (a) = .inr (6, [.null, .int 0]) := by rw [ez_1, zs_ne (by omega)]; exact hz
  have k_3 : z_1 (n) = .inl (G.2 0, 16, .inl fun _ => 0) := by rw [ez_1, zs_eq]
  refine z_putF (a := a) (v := .ref (B + n)) (ty := .array .int) hx hb hts iX6_init_X6 tyX6 tyX6_ok nmX6 hown hK hX hS (by omega) k_2 rfl 0 (by decide) (hts _ kX6_init_9) (fun _ h9 => h9) rfl hin rfl (by decide +kernel) rfl rfl (Nat.le_of_ble_eq_true rfl) dX6_init_9 (fun H lo hX hS => ?_)
  have hX : MZ G B (n + 1) (zs z_1 (a) (.inr (6, [.ref (B + n), .int 0]))) H := hX
  obtain ⟨z_4, ez_4⟩ : ∃ z9, z9 = zs z_1 (a) (.inr (6, [.ref (B + n), .int 0])) := ⟨_, rfl⟩
  rw [← ez_4] at hX
  have k_5 : z_4 (n) = .inl (G.2 0, 16, .inl fun _ => 0) := by rw [ez_4, zs_ne (by omega)]; exact k_3
  have k_6 : z_4 (a) = .inr (6, [.ref (B + n), .int 0]) := by rw [ez_4, zs_eq]
  rw [← hQ]
  refine z_vret hx hb hr hX hS hlocks dX6_init_12 ?_
  exact ⟨k_6, k_5, fun b b1 b2 => by rw [ez_4, zs_ne (by assumption), ez_1, zs_ne (by assumption)]⟩
