theorem kX3_init_oi : (.methodLink RX3 3 objectInit : Cond) ∈ wsX3_init := by decide +kernel
theorem kX3_init_om : (.instanceMethod objectInit : Cond) ∈ wsX3_init := by decide +kernel
theorem kX3_init_oc : (.code objectInit ⟨#[0xb1]⟩ 1 none : Cond) ∈ wsX3_init := by decide +kernel
theorem kX3_init_cl9 : (.classLink RX3 9 RX0 : Cond) ∈ wsX3_init := by decide +kernel
theorem kX3_init_11 : (.fieldLink RX3 11 "WindTaken$Ridge" "mills" "[LWindTaken$Mill;" : Cond) ∈ wsX3_init := by decide +kernel
theorem iX3_init_X3 : ∀ w ∈ wsX30, w ∈ wsX3_init := by decide +kernel
theorem iX3_init_X0 : ∀ w ∈ wsX00, w ∈ wsX3_init := by decide +kernel
theorem kX3_init_in0 : (.instantiable RX0 12 : Cond) ∈ wsX3_init := by decide +kernel
theorem kX3_init_ini0 : (.initialized RX0 : Cond) ∈ wsX3_init := by decide +kernel
theorem kX3_init_im_X0_init : (.instanceMethod yX0_init : Cond) ∈ wsX3_init := by decide +kernel
abbrev rmX3_init : Room := { frames := 2, cells := 9, slots := 104, locals := 80 }
set_option maxHeartbeats 4000000 in
set_option maxRecDepth 100000 in
theorem c_X3_init (l : Launch) (G : GG) (B : Nat) {n a : Nat} (z : Nat → va_E) (ha : a < n) (hz : z a = .inr (3, [.null, .int 0, .int 0, .int 0, .int 0, .int 0])) : Met l yX3_init wsX3_init rmX3_init (ZP G B (n) z [.ref (B + a)]) (va_Qv (fun y => y a = .inr (3, [.ref (B + n), .int 0, .int 0, .int 0, .int 0, .int 0]) ∧ y n = .inl (G.2 2, 8, rfs fun j => some (B + (n + 1 + j))) ∧ (∀ j, j < 8 → y (n + 1 + j) = .inr (0, [.int 0, .int 0, .int 0, .int 0, .int 0, .int 0, .int 0, .int 0, .int 0, .int 0, .int 0, .int 0])) ∧ ∀ b, b < n → b ≠ a → y b = z b) (ZB G B (n + 9)) (blkF B)) 9 104 (blkF B) := by
  refine Met.ofW (cc := cX3_init) (maxL := 2) (ret := none) (by decide) rfl ?_
  intro pp ee ss mm aa bb mt cd s1 Bd hml hv
  obtain ⟨hae, hX, hK, hO⟩ := hv
  have hx := Bd.exec
  have hb := Bd.bytes
  have hr := Bd.returns
  have hts := atoms_spec (ws := wsX3_init) Bd.pre
  have hown : ss.vm.findClass RX3 = some mm.cls := findClass_of_methodNamed Bd.named
  have hlocks := Bd.notSynchronized
  have hin : mt.name = "<init>" := (name_of_methodNamed Bd.named Bd.method).1
  have hS : va_S (blkF B) ss.heap ss.heap [] := va_S.rf
  have hl := lv_entry ([.ref (B + a)]) (n := 2) (Nat.le_of_ble_eq_true rfl)
  subst hae
  rw [lg_entry_eq]
  generalize (lg_sl ([.ref (B + a)]) ++ List.replicate (2 - (lg_sl ([.ref (B + a)])).length) Slot.unset).toArray = ls at hl ⊢
  have hl : lv_has ls 2 [(0, .ref (B + a))] := hl
  generalize ([.ref (B + a)] : List Value).toArray = aa at hts ⊢
  show W pp l ee rmX3_init ss mm aa bb mt cd ss.heap [] 0 0 _ (F0 mm 0 ls [])
  generalize hQ : MQ bb (va_Qv (fun y => y a = .inr (3, [.ref (B + n), .int 0, .int 0, .int 0, .int 0, .int 0]) ∧ y n = .inl (G.2 2, 8, rfs fun j => some (B + (n + 1 + j))) ∧ (∀ j, j < 8 → y (n + 1 + j) = .inr (0, [.int 0, .int 0, .int 0, .int 0, .int 0, .int 0, .int 0, .int 0, .int 0, .int 0, .int 0, .int 0])) ∧ ∀ b, b < n → b ≠ a → y b = z b) (ZB G B (n + 9)) (blkF B)) aa ss 9 104 (blkF B) = Q
  refine lv_aload_n hx hb dX3_init_0 rfl (lv_at hl 0 rfl) ?_
  refine W.objInit hx hb hown (hts _ kX3_init_oi) (hts _ kX3_init_om) (hts _ kX3_init_oc) rfl (by rw [hml]; exact hl.1) rfl dX3_init_1 (Nat.le_of_ble_eq_true rfl) (Nat.le_of_ble_eq_true rfl) ?_
  refine W.eq (g2 := F0 mm 4 ls []) rfl ?_
  refine lv_aload_n hx hb dX3_init_4 rfl (lv_at hl 0 rfl) ?_
  refine lv_bipush (v := 8) hx hb dX3_init_5 (by decide) ?_
  refine z_newq (C := "WindTaken$Mill") (t0 := 2) (cA := G.2 2) (N := 8) hx hb hown (hts _ kX3_init_cl9) hO.1 rfl hK hX hS (by decide) (by decide) (by decide) (Nat.le_of_ble_eq_true rfl) (Nat.le_of_ble_eq_true rfl) dX3_init_7 (fun H hX hS => ?_)
  refine W.widen (k := 1) (n := 8) (by omega) (by omega) ?_
  have hX : MZ G B (n + 1) (zs z (n) (.inl (G.2 2, 8, rfs (fun _ => none)))) H := hX
  obtain ⟨z_1, ez_1⟩ : ∃ z9, z9 = zs z (n) (.inl (G.2 2, 8, rfs (fun _ => none))) := ⟨_, rfl⟩
  rw [← ez_1] at hX
  have k_2 : z_1 (a) = .inr (3, [.null, .int 0, .int 0, .int 0, .int 0, .int 0]) := by rw [ez_1, zs_ne (by omega)]; exact hz
  have k_3 : z_1 (n) = .inl (G.2 2, 8, rfs (fun _ => none)) := by rw [ez_1, zs_eq]
  refine z_putF (a := a) (v := .ref (B + n)) (ty := .array (.object "WindTaken$Mill")) hx hb hts iX3_init_X3 tyX3 tyX3_ok nmX3 hown hK hX hS (by omega) k_2 rfl 0 (by decide) (hts _ kX3_init_11) (fun _ h9 => h9) rfl hin rfl (by decide +kernel) rfl rfl (Nat.le_of_ble_eq_true rfl) dX3_init_10 (fun H lo hX hS => ?_)
  have hX : MZ G B (n + 1) (zs z_1 (a) (.inr (3, [.ref (B + n), .int 0, .int 0, .int 0, .int 0, .int 0]))) H := hX
  obtain ⟨z_4, ez_4⟩ : ∃ z9, z9 = zs z_1 (a) (.inr (3, [.ref (B + n), .int 0, .int 0, .int 0, .int 0, .int 0])) := ⟨_, rfl⟩
  rw [← ez_4] at hX
  have k_5 : z_4 (n) = .inl (G.2 2, 8, rfs (fun _ => none)) := by rw [ez_4, zs_ne (by omega)]; exact k_3
  have k_6 : z_4 (a) = .inr (3, [.ref (B + n), .int 0, .int 0, .int 0, .int 0, .int 0]) := by rw [ez_4, zs_eq]
  refine lv_iconst (v := 0) hx hb dX3_init_13 (by decide) ?_
  refine lv_istore_n (lv' := [(1, .int 0), (0, .ref (B + a))]) hx hb dX3_init_14 rfl hl (by decide) rfl (fun ls hl => ?_)
  have L : ∀ (n9 i : Nat) (z1 : Nat → va_E) (f : Nat → Option Nat) (_ : n9 = 8 - i) (_ : i ≤ 8 ∧ z1 a = .inr (3, [.ref (B + n), .int 0, .int 0, .int 0, .int 0, .int 0]) ∧ z1 n = .inl (G.2 2, 8, rfs f) ∧ (∀ j, j < i → f j = some (B + (n + 1 + j))) ∧ (∀ j, j < i → z1 (n + 1 + j) = .inr (0, [.int 0, .int 0, .int 0, .int 0, .int 0, .int 0, .int 0, .int 0, .int 0, .int 0, .int 0, .int 0])) ∧ ∀ b, b < n → b ≠ a → z1 b = z b) (H : Heap) (lo : List Loc) (_ : MZ G B (n + 1 + i) z1 H) (_ : va_S (blkF B) ss.heap H lo) (ls : Array Slot) (_ : lv_has ls 2 [(1, .int (nI i)), (0, .ref (B + a))]), W pp l ee rmX3_init ss mm aa bb mt cd H lo (1 + i) (8 + 12 * i) Q (F0 mm 15 ls []) := by
    intro n9
    induction n9 using Nat.strongRecOn with
    | _ n9 ih =>
      intro i z1 f hn9 hI H lo hX hS ls hl
      obtain ⟨hi, g1, g2, g3, g4, g5⟩ := hI
      refine lv_iload_n hx hb dX3_init_15 rfl (lv_at hl 0 rfl) ?_
      refine lv_bipush (v := 8) hx hb dX3_init_16 (by decide) ?_
      refine lv_icmp_ge (tgt := 40) hx hb dX3_init_18 (by decide) (fun c9 => ?_) (fun c9 => ?_)
      · have n9c := (n_le (a := 8) (b := i) rfl rfl (by decide) (by omega)).mp c9
        have e8 : i = 8 := by omega
        subst e8
        have hX2 := hX.rf (a := n) (by omega) g2 (g := fun j => some (B + (n + 1 + j))) g3
        refine W.widen (k := 9) (n := 104) (by omega) (by omega) ?_
        rw [← hQ]
        exact z_vret hx hb hr hX2 hS hlocks dX3_init_40 ⟨(zs_ne (by omega)).trans g1, zs_eq _ _ _, fun j hj => (zs_ne (by omega)).trans (g4 j hj), fun b b1 b2 => (zs_ne (by omega)).trans (g5 b b1 b2)⟩
      · have n9c : i < 8 := Nat.lt_of_not_le (fun q => c9 ((n_le (a := 8) (b := i) rfl rfl (by decide) (by omega)).mpr q))
        refine lv_aload_n hx hb dX3_init_21 rfl (lv_at hl 1 rfl) ?_
        refine z_get (a := a) (v := .ref (B + n)) hx hb hts iX3_init_X3 hown hK hX (by omega) g1 rfl 0 (by decide) (hts _ kX3_init_11) (fun _ h9 => h9) rfl dX3_init_22 ?_
        refine lv_iload_n hx hb dX3_init_25 rfl (lv_at hl 0 rfl) ?_
        refine z_new (ci := 0) (fs := [.int 0, .int 0, .int 0, .int 0, .int 0, .int 0, .int 0, .int 0, .int 0, .int 0, .int 0, .int 0]) (C := RX0) (T := TX0) (N := 12) hx hb hts iX3_init_X0 tyX0 tyX0_ok hown (hts _ kX3_init_cl9) (hts _ kX3_init_in0) (hts _ kX3_init_ini0) hK hX hS rfl (by intro j hj; rcases (show j = 0 ∨ j = 1 ∨ j = 2 ∨ j = 3 ∨ j = 4 ∨ j = 5 ∨ j = 6 ∨ j = 7 ∨ j = 8 ∨ j = 9 ∨ j = 10 ∨ j = 11 by omega) with rfl | rfl | rfl | rfl | rfl | rfl | rfl | rfl | rfl | rfl | rfl | rfl <;> rfl) (by show 1 + i + 1 ≤ 9; omega) (by show 8 + 12 * i + 12 ≤ 104; omega) dX3_init_26 (fun H hX hS => ?_)
        refine W.widen (k := 2 + i) (n := 20 + 12 * i) (by omega) (by omega) ?_
        have hX : MZ G B (n + 1 + i + 1) (zs z1 (n + 1 + i) (.inr (0, [.int 0, .int 0, .int 0, .int 0, .int 0, .int 0, .int 0, .int 0, .int 0, .int 0, .int 0, .int 0]))) H := hX
        obtain ⟨z_7, ez_7⟩ : ∃ z9, z9 = zs z1 (n + 1 + i) (.inr (0, [.int 0, .int 0, .int 0, .int 0, .int 0, .int 0, .int 0, .int 0, .int 0, .int 0, .int 0, .int 0])) := ⟨_, rfl⟩
        rw [← ez_7] at hX
        have k_8 : z_7 (a) = .inr (3, [.ref (B + n), .int 0, .int 0, .int 0, .int 0, .int 0]) := by rw [ez_7, zs_ne (by omega)]; exact g1
        have k_9 : z_7 (n) = .inl (G.2 2, 8, rfs f) := by rw [ez_7, zs_ne (by omega)]; exact g2
        have k_10 : z_7 (n + 1 + i) = .inr (0, [.int 0, .int 0, .int 0, .int 0, .int 0, .int 0, .int 0, .int 0, .int 0, .int 0, .int 0, .int 0]) := by rw [ez_7, zs_eq]
        refine lv_dup hx hb dX3_init_29 rfl ?_
        refine z_vf (n' := n + 1 + i + 1) (va_runIN (host := "WindTaken") (As := []) (rest := [.ref (B + (n + 1 + i)), .int (nI i), .ref (B + n)]) ⟨hx, hb, hml, hown, hts⟩ (c_X0_init l G B (n := n + 1 + i + 1) (a := n + 1 + i) z_7 (by omega)) ⟨va_cnB 0 hts gX3_init_X0_init_n17 rfl rfl rfl (hK.2 _ (List.mem_of_getElem? (i := 4) rfl)) (hts _ kX3_init_ini0) (by decide +kernel) ⟨Nat.le_of_ble_eq_true rfl, Nat.le_of_ble_eq_true rfl⟩, rfl, (hts _ kX3_init_im_X0_init)⟩ (z_pre hX ⟨hK, hO⟩ [.ref (B + (n + 1 + i))]) rfl rfl hl.1 rfl (lv_room (Nat.le_of_ble_eq_true rfl)) dX3_init_30 ⟨(by show 2 + i + 0 ≤ 9; omega), (by show 20 + 12 * i + 0 ≤ 104; omega)⟩) hS (fun y_11 H lo hp hX hS => ?_)
        try dsimp only at hp
        refine W.widen (k := 2 + i) (n := 20 + 12 * i) (by omega) (by omega) ?_
        rw [hp] at hX
        refine z_astq (a := n) (d := n + 1 + i) (t0 := 2) (ci := 0) (cA := G.2 2) (r := (RX0, TX0, 12)) (N := 8) (j := i) hx hb hK hX hS (by omega) (by omega) k_9 rfl k_10 rfl rfl (by omega) (by decide) dX3_init_33 (fun H lo hX hS => ?_)
        have hX : MZ G B (n + 1 + i + 1) (zs z_7 (n) (.inl (G.2 2, 8, rfs (fun k => if k = i then some (B + (n + 1 + i)) else f k)))) H := hX
        obtain ⟨z_12, ez_12⟩ : ∃ z9, z9 = zs z_7 (n) (.inl (G.2 2, 8, rfs (fun k => if k = i then some (B + (n + 1 + i)) else f k))) := ⟨_, rfl⟩
        rw [← ez_12] at hX
        have k_13 : z_12 (a) = .inr (3, [.ref (B + n), .int 0, .int 0, .int 0, .int 0, .int 0]) := by rw [ez_12, zs_ne (by omega)]; exact k_8
        have k_14 : z_12 (n + 1 + i) = .inr (0, [.int 0, .int 0, .int 0, .int 0, .int 0, .int 0, .int 0, .int 0, .int 0, .int 0, .int 0, .int 0]) := by rw [ez_12, zs_ne (by omega)]; exact k_10
        have k_15 : z_12 (n) = .inl (G.2 2, 8, rfs (fun k => if k = i then some (B + (n + 1 + i)) else f k)) := by rw [ez_12, zs_eq]
        refine lv_iinc (v := nI (i + 1)) (lv' := [(1, .int (nI (i + 1))), (0, .ref (B + a))]) hx hb dX3_init_34 hl (k := 0) rfl (inc_nI _) (by decide) rfl (fun ls hl => ?_)
        refine lv_goto (tgt := 15) hx hb dX3_init_37 (by decide) ?_
        refine W.widen (k := 1 + (i + 1)) (n := 8 + 12 * (i + 1)) (by omega) (by omega) ?_
        exact ih (8 - (i + 1)) (by omega) (i + 1) z_12 _ rfl ⟨by omega, k_13, k_15, fun j hj => by
            by_cases e : j = i
            · rw [e]; exact if_pos rfl
            · exact (if_neg e).trans (g3 j (by omega))
        , fun j hj => by
            by_cases e : j = i
            · rw [e]; exact k_14
            · rw [ez_12, zs_ne (by omega), ez_7, zs_ne (by omega)]; exact g4 j (by omega)
        , fun b b1 b2 => by rw [ez_12, zs_ne (by omega), ez_7, zs_ne (by omega)]; exact g5 b b1 b2⟩ _ _ hX hS ls (lv_sub hl [0, 1] rfl)
  exact L 8 0 z_4 _ rfl ⟨by decide, k_6, k_5, fun j hj => absurd hj (Nat.not_lt_zero j), fun j hj => absurd hj (Nat.not_lt_zero j), fun b b1 b2 => by rw [ez_4, zs_ne (by omega), ez_1, zs_ne (by omega)]⟩ _ _ hX hS ls (lv_sub hl [0, 1] rfl)
theorem kX1_init_oi : (.methodLink RX1 3 objectInit : Cond) ∈ wsX1_init := by decide +kernel
theorem kX1_init_om : (.instanceMethod objectInit : Cond) ∈ wsX1_init := by decide +kernel
theorem kX1_init_oc : (.code objectInit ⟨#[0xb1]⟩ 1 none : Cond) ∈ wsX1_init := by decide +kernel
theorem kX1_init_ac0 : (.arrayClass .int : Cond) ∈ wsX1_init := by decide +kernel
theorem kX1_init_9 : (.fieldLink RX1 9 "WindTaken$Quarter" "behind" "[I" : Cond) ∈ wsX1_init := by decide +kernel
theorem iX1_init_X1 : ∀ w ∈ wsX10, w ∈ wsX1_init := by decide +kernel
theorem kX1_init_15 : (.fieldLink RX1 15 "WindTaken$Quarter" "after" "[I" : Cond) ∈ wsX1_init := by decide +kernel
theorem iX1_init_X3 : ∀ w ∈ wsX30, w ∈ wsX1_init := by decide +kernel
theorem kX1_init_cl18 : (.classLink RX1 18 RX3 : Cond) ∈ wsX1_init := by decide +kernel
theorem kX1_init_in3 : (.instantiable RX3 6 : Cond) ∈ wsX1_init := by decide +kernel
theorem kX1_init_ini3 : (.initialized RX3 : Cond) ∈ wsX1_init := by decide +kernel
theorem kX1_init_im_X3_init : (.instanceMethod yX3_init : Cond) ∈ wsX1_init := by decide +kernel
theorem kX1_init_ml20 : (.methodLink RX1 20 yX3_init : Cond) ∈ wsX1_init := by decide +kernel
theorem kX1_init_21 : (.fieldLink RX1 21 "WindTaken$Quarter" "ridge" "LWindTaken$Ridge;" : Cond) ∈ wsX1_init := by decide +kernel
abbrev rmX1_init : Room := { frames := 3, cells := 12, slots := 127, locals := 150 }
set_option maxHeartbeats 4000000 in
set_option maxRecDepth 100000 in
theorem c_X1_init (l : Launch) (G : GG) (B : Nat) {n a : Nat} (z : Nat → va_E) (ha : a < n) (hz : z a = .inr (1, [.null, .null, .null, .int 0, .int 0, .int 0])) : Met l yX1_init wsX1_init rmX1_init (ZP G B (n) z [.ref (B + a)]) (va_Qv (fun y => y a = .inr (1, [.ref (B + n), .ref (B + (n + 1)), .ref (B + (n + 1 + 1)), .int 0, .int 0, .int 0]) ∧ y n = .inl (G.2 0, 8, .inl fun _ => 0) ∧ y (n + 1) = .inl (G.2 0, 9, .inl fun _ => 0) ∧ y (n + 1 + 1) = .inr (3, [.ref (B + (n + 1 + 1 + 1)), .int 0, .int 0, .int 0, .int 0, .int 0]) ∧ y (n + 1 + 1 + 1) = .inl (G.2 2, 8, rfs fun j => some (B + (n + 1 + 1 + 1 + 1 + j))) ∧ (∀ j, j < 8 → y (n + 1 + 1 + 1 + 1 + j) = .inr (0, [.int 0, .int 0, .int 0, .int 0, .int 0, .int 0, .int 0, .int 0, .int 0, .int 0, .int 0, .int 0])) ∧ ∀ b, b < n → b ≠ a → y b = z b) (ZB G B (n + 1 + 1 + 1 + 9)) (blkF B)) 12 127 (blkF B) := by
  refine Met.ofW (cc := cX1_init) (maxL := 1) (ret := none) (by decide) rfl ?_
  intro pp ee ss mm aa bb mt cd s1 Bd hml hv
  obtain ⟨hae, hX, hK, hO⟩ := hv
  have hx := Bd.exec
  have hb := Bd.bytes
  have hr := Bd.returns
  have hts := atoms_spec (ws := wsX1_init) Bd.pre
  have hown : ss.vm.findClass RX1 = some mm.cls := findClass_of_methodNamed Bd.named
  have hlocks := Bd.notSynchronized
  have hin : mt.name = "<init>" := (name_of_methodNamed Bd.named Bd.method).1
  have hS : va_S (blkF B) ss.heap ss.heap [] := va_S.rf
  have hl := lv_entry ([.ref (B + a)]) (n := 1) (Nat.le_of_ble_eq_true rfl)
  subst hae
  rw [lg_entry_eq]
  generalize (lg_sl ([.ref (B + a)]) ++ List.replicate (1 - (lg_sl ([.ref (B + a)])).length) Slot.unset).toArray = ls at hl ⊢
  have hl : lv_has ls 1 [(0, .ref (B + a))] := hl
  generalize ([.ref (B + a)] : List Value).toArray = aa at hts ⊢
  show W pp l ee rmX1_init ss mm aa bb mt cd ss.heap [] 0 0 _ (F0 mm 0 ls [])
  generalize hQ : MQ bb (va_Qv (fun y => y a = .inr (1, [.ref (B + n), .ref (B + (n + 1)), .ref (B + (n + 1 + 1)), .int 0, .int 0, .int 0]) ∧ y n = .inl (G.2 0, 8, .inl fun _ => 0) ∧ y (n + 1) = .inl (G.2 0, 9, .inl fun _ => 0) ∧ y (n + 1 + 1) = .inr (3, [.ref (B + (n + 1 + 1 + 1)), .int 0, .int 0, .int 0, .int 0, .int 0]) ∧ y (n + 1 + 1 + 1) = .inl (G.2 2, 8, rfs fun j => some (B + (n + 1 + 1 + 1 + 1 + j))) ∧ (∀ j, j < 8 → y (n + 1 + 1 + 1 + 1 + j) = .inr (0, [.int 0, .int 0, .int 0, .int 0, .int 0, .int 0, .int 0, .int 0, .int 0, .int 0, .int 0, .int 0])) ∧ ∀ b, b < n → b ≠ a → y b = z b) (ZB G B (n + 1 + 1 + 1 + 9)) (blkF B)) aa ss 12 127 (blkF B) = Q
  refine lv_aload_n hx hb dX1_init_0 rfl (lv_at hl 0 rfl) ?_
  refine W.objInit hx hb hown (hts _ kX1_init_oi) (hts _ kX1_init_om) (hts _ kX1_init_oc) rfl (by rw [hml]; exact hl.1) rfl dX1_init_1 (Nat.le_of_ble_eq_true rfl) (Nat.le_of_ble_eq_true rfl) ?_
  refine W.eq (g2 := F0 mm 4 ls []) rfl ?_
  refine lv_aload_n hx hb dX1_init_4 rfl (lv_at hl 0 rfl) ?_
  refine lv_bipush (v := 8) hx hb dX1_init_5 (by decide) ?_
  refine z_newa (atype := .int) (t0 := 0) (cA := G.2 0) (N := 8) (a0 := (8, .inl fun _ => 0)) hx hb (hts _ kX1_init_ac0) rfl hK hX hS (fun _ => rfl) (by decide) (by decide) (by decide) (Nat.le_of_ble_eq_true rfl) (Nat.le_of_ble_eq_true rfl) dX1_init_7 (fun H hX hS => ?_)
  refine W.widen (k := 1) (n := 8) (by omega) (by omega) ?_
  have hX : MZ G B (n + 1) (zs z (n) (.inl (G.2 0, 8, .inl fun _ => 0))) H := hX
  obtain ⟨z_1, ez_1⟩ : ∃ z9, z9 = zs z (n) (.inl (G.2 0, 8, .inl fun _ => 0)) := ⟨_, rfl⟩
  rw [← ez_1] at hX
  have k_2 : z_1 (a) = .inr (1, [.null, .null, .null, .int 0, .int 0, .int 0]) := by rw [ez_1, zs_ne (by omega)]; exact hz
  have k_3 : z_1 (n) = .inl (G.2 0, 8, .inl fun _ => 0) := by rw [ez_1, zs_eq]
  refine z_putF (a := a) (v := .ref (B + n)) (ty := .array .int) hx hb hts iX1_init_X1 tyX1 tyX1_ok nmX1 hown hK hX hS (by omega) k_2 rfl 0 (by decide) (hts _ kX1_init_9) (fun _ h9 => h9) rfl hin rfl (by decide +kernel) rfl rfl (Nat.le_of_ble_eq_true rfl) dX1_init_9 (fun H lo hX hS => ?_)
  have hX : MZ G B (n + 1) (zs z_1 (a) (.inr (1, [.ref (B + n), .null, .null, .int 0, .int 0, .int 0]))) H := hX
  obtain ⟨z_4, ez_4⟩ : ∃ z9, z9 = zs z_1 (a) (.inr (1, [.ref (B + n), .null, .null, .int 0, .int 0, .int 0])) := ⟨_, rfl⟩
  rw [← ez_4] at hX
  have k_5 : z_4 (n) = .inl (G.2 0, 8, .inl fun _ => 0) := by rw [ez_4, zs_ne (by omega)]; exact k_3
  have k_6 : z_4 (a) = .inr (1, [.ref (B + n), .null, .null, .int 0, .int 0, .int 0]) := by rw [ez_4, zs_eq]
  refine lv_aload_n hx hb dX1_init_12 rfl (lv_at hl 0 rfl) ?_
  refine lv_bipush (v := 9) hx hb dX1_init_13 (by decide) ?_
  refine z_newa (atype := .int) (t0 := 0) (cA := G.2 0) (N := 9) (a0 := (9, .inl fun _ => 0)) hx hb (hts _ kX1_init_ac0) rfl hK hX hS (fun _ => rfl) (by decide) (by decide) (by decide) (Nat.le_of_ble_eq_true rfl) (Nat.le_of_ble_eq_true rfl) dX1_init_15 (fun H hX hS => ?_)
  refine W.widen (k := 2) (n := 17) (by omega) (by omega) ?_
  have hX : MZ G B (n + 1 + 1) (zs z_4 (n + 1) (.inl (G.2 0, 9, .inl fun _ => 0))) H := hX
  obtain ⟨z_7, ez_7⟩ : ∃ z9, z9 = zs z_4 (n + 1) (.inl (G.2 0, 9, .inl fun _ => 0)) := ⟨_, rfl⟩
  rw [← ez_7] at hX
  have k_8 : z_7 (n) = .inl (G.2 0, 8, .inl fun _ => 0) := by rw [ez_7, zs_ne (by omega)]; exact k_5
  have k_9 : z_7 (a) = .inr (1, [.ref (B + n), .null, .null, .int 0, .int 0, .int 0]) := by rw [ez_7, zs_ne (by omega)]; exact k_6
  have k_10 : z_7 (n + 1) = .inl (G.2 0, 9, .inl fun _ => 0) := by rw [ez_7, zs_eq]
  refine z_putF (a := a) (v := .ref (B + (n + 1))) (ty := .array .int) hx hb hts iX1_init_X1 tyX1 tyX1_ok nmX1 hown hK hX hS (by omega) k_9 rfl 1 (by decide) (hts _ kX1_init_15) (fun _ h9 => h9) rfl hin rfl (by decide +kernel) rfl rfl (Nat.le_of_ble_eq_true rfl) dX1_init_17 (fun H lo hX hS => ?_)
  have hX : MZ G B (n + 1 + 1) (zs z_7 (a) (.inr (1, [.ref (B + n), .ref (B + (n + 1)), .null, .int 0, .int 0, .int 0]))) H := hX
  obtain ⟨z_11, ez_11⟩ : ∃ z9, z9 = zs z_7 (a) (.inr (1, [.ref (B + n), .ref (B + (n + 1)), .null, .int 0, .int 0, .int 0])) := ⟨_, rfl⟩
  rw [← ez_11] at hX
  have k_12 : z_11 (n) = .inl (G.2 0, 8, .inl fun _ => 0) := by rw [ez_11, zs_ne (by omega)]; exact k_8
  have k_13 : z_11 (n + 1) = .inl (G.2 0, 9, .inl fun _ => 0) := by rw [ez_11, zs_ne (by omega)]; exact k_10
  have k_14 : z_11 (a) = .inr (1, [.ref (B + n), .ref (B + (n + 1)), .null, .int 0, .int 0, .int 0]) := by rw [ez_11, zs_eq]
  refine lv_aload_n hx hb dX1_init_20 rfl (lv_at hl 0 rfl) ?_
  refine z_new (ci := 3) (fs := [.null, .int 0, .int 0, .int 0, .int 0, .int 0]) (C := RX3) (T := TX3) (N := 6) hx hb hts iX1_init_X3 tyX3 tyX3_ok hown (hts _ kX1_init_cl18) (hts _ kX1_init_in3) (hts _ kX1_init_ini3) hK hX hS rfl (by intro j hj; rcases (show j = 0 ∨ j = 1 ∨ j = 2 ∨ j = 3 ∨ j = 4 ∨ j = 5 by omega) with rfl | rfl | rfl | rfl | rfl | rfl <;> rfl) (Nat.le_of_ble_eq_true rfl) (Nat.le_of_ble_eq_true rfl) dX1_init_21 (fun H hX hS => ?_)
  refine W.widen (k := 3) (n := 23) (by omega) (by omega) ?_
  have hX : MZ G B (n + 1 + 1 + 1) (zs z_11 (n + 1 + 1) (.inr (3, [.null, .int 0, .int 0, .int 0, .int 0, .int 0]))) H := hX
  obtain ⟨z_15, ez_15⟩ : ∃ z9, z9 = zs z_11 (n + 1 + 1) (.inr (3, [.null, .int 0, .int 0, .int 0, .int 0, .int 0])) := ⟨_, rfl⟩
  rw [← ez_15] at hX
  have k_16 : z_15 (n) = .inl (G.2 0, 8, .inl fun _ => 0) := by rw [ez_15, zs_ne (by omega)]; exact k_12
  have k_17 : z_15 (n + 1) = .inl (G.2 0, 9, .inl fun _ => 0) := by rw [ez_15, zs_ne (by omega)]; exact k_13
  have k_18 : z_15 (a) = .inr (1, [.ref (B + n), .ref (B + (n + 1)), .null, .int 0, .int 0, .int 0]) := by rw [ez_15, zs_ne (by omega)]; exact k_14
  have k_19 : z_15 (n + 1 + 1) = .inr (3, [.null, .int 0, .int 0, .int 0, .int 0, .int 0]) := by rw [ez_15, zs_eq]
  refine lv_dup hx hb dX1_init_24 rfl ?_
  refine z_vf (n' := n + 1 + 1 + 1 + 9) (va_runI (As := []) (rest := [.ref (B + (n + 1 + 1)), .ref (B + a)]) ⟨hx, hb, hml, hown, hts⟩ (c_X3_init l G B (n := n + 1 + 1 + 1) (a := n + 1 + 1) z_15 (by omega) k_19) (cwI 0 hts gX1_init_X3_init rfl rfl rfl (hts _ kX1_init_ini3) (hts _ kX1_init_ml20) (hts _ kX1_init_im_X3_init) rfl (by decide +kernel) ⟨Nat.le_of_ble_eq_true rfl, Nat.le_of_ble_eq_true rfl⟩) (z_pre hX ⟨hK, hO⟩ [.ref (B + (n + 1 + 1))]) rfl rfl hl.1 rfl (lv_room (Nat.le_of_ble_eq_true rfl)) dX1_init_25 ⟨(Nat.le_of_ble_eq_true rfl), (Nat.le_of_ble_eq_true rfl)⟩) hS (fun y_20 H lo hp hX hS => ?_)
  try dsimp only at hp
  refine W.widen (k := 12) (n := 127) (by omega) (by omega) ?_
  have k_21 : y_20 (n) = .inl (G.2 0, 8, .inl fun _ => 0) := (hp.2.2.2 _ (by omega) (by omega)).trans k_16
  have k_22 : y_20 (n + 1) = .inl (G.2 0, 9, .inl fun _ => 0) := (hp.2.2.2 _ (by omega) (by omega)).trans k_17
  have k_23 : y_20 (a) = .inr (1, [.ref (B + n), .ref (B + (n + 1)), .null, .int 0, .int 0, .int 0]) := (hp.2.2.2 _ (by omega) (by omega)).trans k_18
  have k_24 : y_20 (n + 1 + 1) = .inr (3, [.ref (B + (n + 1 + 1 + 1)), .int 0, .int 0, .int 0, .int 0, .int 0]) := hp.1
  have k_25 : y_20 (n + 1 + 1 + 1) = .inl (G.2 2, 8, rfs fun j => some (B + (n + 1 + 1 + 1 + 1 + j))) := hp.2.1
  refine z_putF (a := a) (v := .ref (B + (n + 1 + 1))) (ty := .object "WindTaken$Ridge") hx hb hts iX1_init_X1 tyX1 tyX1_ok nmX1 hown hK hX hS (by omega) k_23 rfl 2 (by decide) (hts _ kX1_init_21) (fun _ h9 => h9) rfl hin rfl (by decide +kernel) rfl rfl (Nat.le_of_ble_eq_true rfl) dX1_init_28 (fun H lo hX hS => ?_)
  have hX : MZ G B (n + 1 + 1 + 1 + 9) (zs y_20 (a) (.inr (1, [.ref (B + n), .ref (B + (n + 1)), .ref (B + (n + 1 + 1)), .int 0, .int 0, .int 0]))) H := hX
  obtain ⟨z_26, ez_26⟩ : ∃ z9, z9 = zs y_20 (a) (.inr (1, [.ref (B + n), .ref (B + (n + 1)), .ref (B + (n + 1 + 1)), .int 0, .int 0, .int 0])) := ⟨_, rfl⟩
  rw [← ez_26] at hX
  have k_27 : z_26 (n) = .inl (G.2 0, 8, .inl fun _ => 0) := by rw [ez_26, zs_ne (by omega)]; exact k_21
  have k_28 : z_26 (n + 1) = .inl (G.2 0, 9, .inl fun _ => 0) := by rw [ez_26, zs_ne (by omega)]; exact k_22
  have k_29 : z_26 (n + 1 + 1) = .inr (3, [.ref (B + (n + 1 + 1 + 1)), .int 0, .int 0, .int 0, .int 0, .int 0]) := by rw [ez_26, zs_ne (by omega)]; exact k_24
  have k_30 : z_26 (n + 1 + 1 + 1) = .inl (G.2 2, 8, rfs fun j => some (B + (n + 1 + 1 + 1 + 1 + j))) := by rw [ez_26, zs_ne (by omega)]; exact k_25
  have k_31 : z_26 (a) = .inr (1, [.ref (B + n), .ref (B + (n + 1)), .ref (B + (n + 1 + 1)), .int 0, .int 0, .int 0]) := by rw [ez_26, zs_eq]
  rw [← hQ]
  refine z_vret hx hb hr hX hS hlocks dX1_init_31 ?_
  exact ⟨k_31, k_27, k_28, k_29, k_30, fun j hj => by rw [ez_26, zs_ne (by omega)]; exact hp.2.2.1 j hj, fun b b1 b2 => by rw [ez_26, zs_ne (by omega), hp.2.2.2 b (by omega) (by omega), ez_15, zs_ne (by omega), ez_11, zs_ne (by omega), ez_7, zs_ne (by omega), ez_4, zs_ne (by omega), ez_1, zs_ne (by omega)]⟩
