theorem kX6_leave_15 : (.fieldLink RX6 15 "WindTaken$Trace" "length" "I" : Cond) ∈ wsX6_leave := by decide +kernel
theorem iX6_leave_X6 : ∀ w ∈ wsX60, w ∈ wsX6_leave := by decide +kernel
theorem kX6_leave_9 : (.fieldLink RX6 9 "WindTaken$Trace" "numbers" "[I" : Cond) ∈ wsX6_leave := by decide +kernel
abbrev rmX6_leave : Room := { frames := 0, cells := 0, slots := 0, locals := 0 }
set_option maxHeartbeats 4000000 in
set_option maxRecDepth 100000 in
theorem c_X6_leave (l : Launch) (G : GG) (B : Nat) (tt : Nat → Nat) (hW : WOK (wX G B tt)) (x : Mem) (b : Int32) {k : Nat} (hk : x 27 1 = nI k) (hk16 : k ≤ 16) : Met l yX6_leave wsX6_leave rmX6_leave (XP G (wX G B tt) [.ref (B + (27)), .int (b)] x) (va_Qv (fun u => u = (if k < 16 then mst (mst x 28 k b) 27 1 (nI (k + 1)) else x)) (XB G (wX G B tt)) (blkA B (B + 117))) 0 0 (blkA B (B + 117)) := by
  refine Met.ofW (cc := cX6_leave) (maxL := 2) (ret := none) (by decide) rfl ?_
  intro pp ee ss mm aa bb mt cd s1 Bd hml hv
  obtain ⟨hae, hX, hK, hE⟩ := hv
  have hx := Bd.exec
  have hb := Bd.bytes
  have hr := Bd.returns
  have hts := atoms_spec (ws := wsX6_leave) Bd.pre
  have hown : ss.vm.findClass RX6 = some mm.cls := findClass_of_methodNamed Bd.named
  have hlocks := Bd.notSynchronized
  have hS : va_S (blkA B (B + 117)) ss.heap ss.heap [] := va_S.rf
  have hl := lv_entry ([.ref (B + (27)), .int (b)]) (n := 2) (Nat.le_of_ble_eq_true rfl)
  subst hae
  rw [lg_entry_eq]
  generalize (lg_sl ([.ref (B + (27)), .int (b)]) ++ List.replicate (2 - (lg_sl ([.ref (B + (27)), .int (b)])).length) Slot.unset).toArray = ls at hl ⊢
  have hl : lv_has ls 2 [(0, .ref (B + (27))), (1, .int (b))] := hl
  generalize ([.ref (B + (27)), .int (b)] : List Value).toArray = aa at hts ⊢
  show W pp l ee rmX6_leave ss mm aa bb mt cd ss.heap [] 0 0 _ (F0 mm 0 ls [])
  generalize hQ : MQ bb (va_Qv (fun u => u = (if k < 16 then mst (mst x 28 k b) 27 1 (nI (k + 1)) else x)) (XB G (wX G B tt)) (blkA B (B + 117))) aa ss 0 0 (blkA B (B + 117)) = Q
  refine lv_aload_n hx hb dX6_leave_0 rfl (lv_at hl 0 rfl) ?_
  refine x_get (w := (wX G B tt)) (a := 27) (v := .int (x (27) 1)) hx hb hts iX6_leave_X6 hown hK hX (Nat.le_of_ble_eq_true rfl) (shX_tr (G := G) (B := B)) rfl 1 (by decide) (hts _ kX6_leave_15) (fun _ h9 => h9) rfl dX6_leave_1 ?_
  refine lv_bipush (v := 16) hx hb dX6_leave_4 (by decide) ?_
  refine lv_icmp_ge (tgt := 29) hx hb dX6_leave_6 (by decide) (fun c_1 => ?_) (fun c_1 => ?_)
  · have nc_1 := (n_le (a := 16) (b := k) rfl hk (by omega) (by omega)).mp c_1
    rw [← hQ]
    refine x_vret hx hb hr hX hS hlocks dX6_leave_29 ?_
    first | (rw [if_neg (by omega)]; done) | (rw [if_pos (by omega), rfl, n_add (y := 1) (b := 1) z_5 rfl, rfl])
  · have nc_1 := Nat.not_le.mp (fun q => c_1 ((n_le (a := 16) (b := k) rfl hk (by omega) (by omega)).mpr q))
    refine lv_aload_n hx hb dX6_leave_9 rfl (lv_at hl 0 rfl) ?_
    refine x_get (w := (wX G B tt)) (a := 27) (v := .ref (B + (28))) hx hb hts iX6_leave_X6 hown hK hX (Nat.le_of_ble_eq_true rfl) (shX_tr (G := G) (B := B)) rfl 0 (by decide) (hts _ kX6_leave_9) (fun _ h9 => h9) rfl dX6_leave_10 ?_
    refine lv_aload_n hx hb dX6_leave_13 rfl (lv_at hl 0 rfl) ?_
    refine x_get (w := (wX G B tt)) (a := 27) (v := .int (x (27) 1)) hx hb hts iX6_leave_X6 hown hK hX (Nat.le_of_ble_eq_true rfl) (shX_tr (G := G) (B := B)) rfl 1 (by decide) (hts _ kX6_leave_15) (fun _ h9 => h9) rfl dX6_leave_14 ?_
    refine lv_iload_n hx hb dX6_leave_17 rfl (lv_at hl 1 rfl) ?_
    refine x_iast (w := (wX G B tt)) (a := 28) (n := 16) (j := k) hx hb hK hW hX hS (Nat.le_of_ble_eq_true rfl) (fun f => (shX_tn (G := G) (B := B) (f := f))) hk (by omega) (by decide) dX6_leave_18 (fun H_3 lo_4 hX hS => ?_)
    obtain ⟨x_2, ex_2⟩ : ∃ z, z = mst x (28) k (b) := ⟨_, rfl⟩
    rw [← ex_2] at hX
    have z_5 : x_2 (27) 1 = nI (k) := by rw [ex_2, mst_ne (by first | decide | omega)]; exact hk
    refine lv_aload_n hx hb dX6_leave_19 rfl (lv_at hl 0 rfl) ?_
    refine lv_dup hx hb dX6_leave_20 rfl ?_
    refine x_get (w := (wX G B tt)) (a := 27) (v := .int (x_2 (27) 1)) hx hb hts iX6_leave_X6 hown hK hX (Nat.le_of_ble_eq_true rfl) (shX_tr (G := G) (B := B)) rfl 1 (by decide) (hts _ kX6_leave_15) (fun _ h9 => h9) rfl dX6_leave_21 ?_
    refine lv_iconst (v := 1) hx hb dX6_leave_24 (by decide) ?_
    refine lv_iadd hx hb dX6_leave_25 ?_
    refine x_put (w := (wX G B tt)) (a := 27) (v := (x_2 (27) 1) + 1) (ty := .int) hx hb hts iX6_leave_X6 tyX6 tyX6_ok nmX6 hown hK hW hX hS (Nat.le_of_ble_eq_true rfl) (shX_tr (G := G) (B := B)) rfl 1 (by decide) (hts _ kX6_leave_15) (fun _ h9 => h9) rfl (by decide +kernel) rfl rfl (Nat.le_of_ble_eq_true rfl) (shX_tr (G := G) (B := B)) dX6_leave_26 (fun H_7 lo_8 hX hS => ?_)
    obtain ⟨x_6, ex_6⟩ : ∃ z, z = mst x_2 (27) 1 ((x_2 (27) 1) + 1) := ⟨_, rfl⟩
    rw [← ex_6] at hX
    have z_10 : x_6 (27) 1 = nI (k + 1) := by rw [ex_6, mst_self]; first | done | exact (n_add z_5 rfl)
    rw [← hQ]
    refine x_vret hx hb hr hX hS hlocks dX6_leave_29 ?_
    first | (rw [if_neg (by omega)]; done) | (rw [if_pos (by omega), ex_6, n_add (y := 1) (b := 1) z_5 rfl, ex_2])

theorem kX4_lay_19 : (.fieldLink RX4 19 "WindTaken$Row" "lane" "I" : Cond) ∈ wsX4_lay := by decide +kernel
theorem iX4_lay_X4 : ∀ w ∈ wsX40, w ∈ wsX4_lay := by decide +kernel
theorem kX4_lay_15 : (.fieldLink RX4 15 "WindTaken$Row" "size" "I" : Cond) ∈ wsX4_lay := by decide +kernel
theorem kX4_lay_9 : (.fieldLink RX4 9 "WindTaken$Row" "items" "[I" : Cond) ∈ wsX4_lay := by decide +kernel
abbrev rmX4_lay : Room := { frames := 0, cells := 0, slots := 0, locals := 0 }
set_option maxHeartbeats 4000000 in
set_option maxRecDepth 100000 in
theorem c_X4_lay (l : Launch) (G : GG) (B : Nat) (tt : Nat → Nat) (hW : WOK (wX G B tt)) (x : Mem) {ro : Nat} (hro : ro < 8) (la : Int32) (n : Int32) : Met l yX4_lay wsX4_lay rmX4_lay (XP G (wX G B tt) [.ref (B + (29 + 2 * ro)), .int (la), .int (n)] x) (va_Qv (fun u => (∀ a, a ≠ 29 + 2 * ro → a ≠ 29 + 2 * ro + 1 → u a = x a) ∧ u (29 + 2 * ro) 1 = la ∧ u (29 + 2 * ro) 2 = n ∧ ∀ k, k < 40 → u (29 + 2 * ro + 1) k = 0) (XB G (wX G B tt)) (blkA B (B + 117))) 0 0 (blkA B (B + 117)) := by
  refine Met.ofW (cc := cX4_lay) (maxL := 4) (ret := none) (by decide) rfl ?_
  intro pp ee ss mm aa bb mt cd s1 Bd hml hv
  obtain ⟨hae, hX, hK, hE⟩ := hv
  have hx := Bd.exec
  have hb := Bd.bytes
  have hr := Bd.returns
  have hts := atoms_spec (ws := wsX4_lay) Bd.pre
  have hown : ss.vm.findClass RX4 = some mm.cls := findClass_of_methodNamed Bd.named
  have hlocks := Bd.notSynchronized
  have hS : va_S (blkA B (B + 117)) ss.heap ss.heap [] := va_S.rf
  have hl := lv_entry ([.ref (B + (29 + 2 * ro)), .int (la), .int (n)]) (n := 4) (Nat.le_of_ble_eq_true rfl)
  subst hae
  rw [lg_entry_eq]
  generalize (lg_sl ([.ref (B + (29 + 2 * ro)), .int (la), .int (n)]) ++ List.replicate (4 - (lg_sl ([.ref (B + (29 + 2 * ro)), .int (la), .int (n)])).length) Slot.unset).toArray = ls at hl ⊢
  have hl : lv_has ls 4 [(0, .ref (B + (29 + 2 * ro))), (1, .int (la)), (2, .int (n))] := hl
  generalize ([.ref (B + (29 + 2 * ro)), .int (la), .int (n)] : List Value).toArray = aa at hts ⊢
  show W pp l ee rmX4_lay ss mm aa bb mt cd ss.heap [] 0 0 _ (F0 mm 0 ls [])
  generalize hQ : MQ bb (va_Qv (fun u => (∀ a, a ≠ 29 + 2 * ro → a ≠ 29 + 2 * ro + 1 → u a = x a) ∧ u (29 + 2 * ro) 1 = la ∧ u (29 + 2 * ro) 2 = n ∧ ∀ k, k < 40 → u (29 + 2 * ro + 1) k = 0) (XB G (wX G B tt)) (blkA B (B + 117))) aa ss 0 0 (blkA B (B + 117)) = Q
  refine lv_aload_n hx hb dX4_lay_0 rfl (lv_at hl 0 rfl) ?_
  refine lv_iload_n hx hb dX4_lay_1 rfl (lv_at hl 1 rfl) ?_
  refine x_put (w := (wX G B tt)) (a := 29 + 2 * ro) (v := la) (ty := .int) hx hb hts iX4_lay_X4 tyX4 tyX4_ok nmX4 hown hK hW hX hS (rw_lt hro) (shX_rw (G := G) (B := B) hro) rfl 1 (by decide) (hts _ kX4_lay_19) (fun _ h9 => h9) rfl (by decide +kernel) rfl rfl (Nat.le_of_ble_eq_true rfl) (shX_rw (G := G) (B := B) hro) dX4_lay_2 (fun H_2 lo_3 hX hS => ?_)
  obtain ⟨x_1, ex_1⟩ : ∃ z, z = mst x (29 + 2 * ro) 1 (la) := ⟨_, rfl⟩
  rw [← ex_1] at hX
  refine lv_aload_n hx hb dX4_lay_5 rfl (lv_at hl 0 rfl) ?_
  refine lv_iload_n hx hb dX4_lay_6 rfl (lv_at hl 2 rfl) ?_
  refine x_put (w := (wX G B tt)) (a := 29 + 2 * ro) (v := n) (ty := .int) hx hb hts iX4_lay_X4 tyX4 tyX4_ok nmX4 hown hK hW hX hS (rw_lt hro) (shX_rw (G := G) (B := B) hro) rfl 2 (by decide) (hts _ kX4_lay_15) (fun _ h9 => h9) rfl (by decide +kernel) rfl rfl (Nat.le_of_ble_eq_true rfl) (shX_rw (G := G) (B := B) hro) dX4_lay_7 (fun H_5 lo_6 hX hS => ?_)
  obtain ⟨x_4, ex_4⟩ : ∃ z, z = mst x_1 (29 + 2 * ro) 2 (n) := ⟨_, rfl⟩
  rw [← ex_4] at hX
  refine lv_iconst (v := 0) hx hb dX4_lay_10 (by decide) ?_
  refine lv_istore_n (lv' := [(3, .int (0)), (0, .ref (B + (29 + 2 * ro))), (1, .int (la)), (2, .int (n))]) hx hb dX4_lay_11 rfl hl (by decide) rfl (fun ls hl => ?_)
  have L_7 : ∀ (n9 : Nat) (i : Nat)  (u : Mem) (_ : n9 = 40 - i) (_ : i ≤ 40 ∧ (∀ a, a ≠ 29 + 2 * ro → a ≠ 29 + 2 * ro + 1 → u a = x a) ∧ u (29 + 2 * ro) 1 = la ∧ u (29 + 2 * ro) 2 = n ∧ ∀ k, k < i → u (29 + 2 * ro + 1) k = 0) (H_8 : Heap) (lo_9 : List Loc) (_ : MR G (wX G B tt) u H_8) (_ : va_S (blkA B (B + 117)) ss.heap H_8 lo_9) (ls : Array Slot) (_ : lv_has ls 4 [(3, .int (nI i)), (0, .ref (B + (29 + 2 * ro))), (1, .int (la)), (2, .int (n))]), W pp l ee rmX4_lay ss mm aa bb mt cd H_8 lo_9 0 0 Q (F0 mm 12 ls []) := by
    intro n9
    induction n9 using Nat.strongRecOn with
    | _ n9 ih => 
      have ih_12 := ih
      intro i u hn9 hI H_8 lo_9 hX hS ls hl
      obtain ⟨hi, hu1, hu2, hu3, hu4⟩ := hI
      refine lv_iload_n hx hb dX4_lay_12 rfl (lv_at hl 0 rfl) ?_
      refine lv_bipush (v := 40) hx hb dX4_lay_13 (by decide) ?_
      refine lv_icmp_ge (tgt := 31) hx hb dX4_lay_15 (by decide) (fun c_10 => ?_) (fun c_10 => ?_)
      · have nc_10 := (n_le (a := 40) (b := i) rfl rfl (by omega) (by omega)).mp c_10
        rw [← hQ]
        refine x_vret hx hb hr hX hS hlocks dX4_lay_31 ?_
        exact ⟨hu1, hu2, hu3, fun k hk => hu4 k (by omega)⟩
      · have nc_10 := Nat.not_le.mp (fun q => c_10 ((n_le (a := 40) (b := i) rfl rfl (by omega) (by omega)).mpr q))
        refine lv_aload_n hx hb dX4_lay_18 rfl (lv_at hl 1 rfl) ?_
        refine x_get (w := (wX G B tt)) (a := 29 + 2 * ro) (v := .ref (B + (29 + 2 * ro + 1))) hx hb hts iX4_lay_X4 hown hK hX (rw_lt hro) (shX_rw (G := G) (B := B) hro) rfl 0 (by decide) (hts _ kX4_lay_9) (fun _ h9 => h9) rfl dX4_lay_19 ?_
        refine lv_iload_n hx hb dX4_lay_22 rfl (lv_at hl 0 rfl) ?_
        refine lv_iconst (v := 0) hx hb dX4_lay_23 (by decide) ?_
        refine x_iast (w := (wX G B tt)) (a := 29 + 2 * ro + 1) (n := 40) (j := i) hx hb hK hW hX hS (it_lt hro) (fun f => (shX_it (G := G) (B := B) (f := f) hro)) rfl (by omega) (by decide) dX4_lay_24 (fun H_12 lo_13 hX hS => ?_)
        obtain ⟨x_11, ex_11⟩ : ∃ z, z = mst u (29 + 2 * ro + 1) i (0) := ⟨_, rfl⟩
        rw [← ex_11] at hX
        have z_14 : x_11 (29 + 2 * ro + 1) i = nI (0) := by rw [ex_11, mst_self]; first | done | exact rfl
        refine lv_iinc (v := nI (i + 1)) (lv' := [(3, .int (nI (i + 1))), (0, .ref (B + (29 + 2 * ro))), (1, .int (la)), (2, .int (n))]) hx hb dX4_lay_25 hl (k := 0) rfl (inc_nI _) (by decide) rfl (fun ls hl => ?_)
        refine lv_goto (tgt := 12) hx hb dX4_lay_28 (by decide) ?_
        exact ih_12 _ (by omega) (i + 1) (x_11) rfl ⟨by omega, fun a h1 h2 => by rw [ex_11, mst_ne h2]; exact hu1 a h1 h2, by rw [ex_11, mst_ne (by omega)]; exact hu2, by rw [ex_11, mst_ne (by omega)]; exact hu3, fun k hk => by rw [ex_11, mst_app]; split <;> first | rfl | exact hu4 k (by omega)⟩ _ _ hX hS ls (lv_sub hl [0, 1, 2, 3] rfl)
  exact L_7 _ (0) (x_4) rfl ⟨Nat.zero_le _, fun a h1 h2 => by rw [ex_4, mst_ne h1, ex_1, mst_ne h1], by rw [ex_4, ex_1]; simp [mst_app], by rw [ex_4]; simp [mst_app], fun k hk => absurd hk (Nat.not_lt_zero k)⟩ _ _ hX hS ls (lv_sub hl [0, 1, 2, 3] rfl)

theorem kX4_narrowed_19 : (.fieldLink RX4 19 "WindTaken$Row" "lane" "I" : Cond) ∈ wsX4_narrowed := by decide +kernel
theorem iX4_narrowed_X4 : ∀ w ∈ wsX40, w ∈ wsX4_narrowed := by decide +kernel
abbrev rmX4_narrowed : Room := { frames := 0, cells := 0, slots := 0, locals := 0 }
set_option maxHeartbeats 4000000 in
set_option maxRecDepth 100000 in
theorem c_X4_narrowed (l : Launch) (G : GG) (B : Nat) (tt : Nat → Nat) (hW : WOK (wX G B tt)) (x : Mem) {ro : Nat} (hro : ro < 8) (v : Int32) : Met l yX4_narrowed wsX4_narrowed rmX4_narrowed (XP G (wX G B tt) [.ref (B + (29 + 2 * ro)), .int (v)] x) (va_Qi (fun r u => r = (narI (x (29 + 2 * ro) 1) v) ∧ u = x) (XB G (wX G B tt)) (blkA B (B + 117))) 0 0 (blkA B (B + 117)) := by
  refine Met.ofW (cc := cX4_narrowed) (maxL := 2) (ret := (some .int)) (by decide) rfl ?_
  intro pp ee ss mm aa bb mt cd s1 Bd hml hv
  obtain ⟨hae, hX, hK, hE⟩ := hv
  have hx := Bd.exec
  have hb := Bd.bytes
  have hr := Bd.returns
  have hts := atoms_spec (ws := wsX4_narrowed) Bd.pre
  have hown : ss.vm.findClass RX4 = some mm.cls := findClass_of_methodNamed Bd.named
  have hlocks := Bd.notSynchronized
  have hS : va_S (blkA B (B + 117)) ss.heap ss.heap [] := va_S.rf
  have hl := lv_entry ([.ref (B + (29 + 2 * ro)), .int (v)]) (n := 2) (Nat.le_of_ble_eq_true rfl)
  subst hae
  rw [lg_entry_eq]
  generalize (lg_sl ([.ref (B + (29 + 2 * ro)), .int (v)]) ++ List.replicate (2 - (lg_sl ([.ref (B + (29 + 2 * ro)), .int (v)])).length) Slot.unset).toArray = ls at hl ⊢
  have hl : lv_has ls 2 [(0, .ref (B + (29 + 2 * ro))), (1, .int (v))] := hl
  generalize ([.ref (B + (29 + 2 * ro)), .int (v)] : List Value).toArray = aa at hts ⊢
  show W pp l ee rmX4_narrowed ss mm aa bb mt cd ss.heap [] 0 0 _ (F0 mm 0 ls [])
  generalize hQ : MQ bb (va_Qi (fun r u => r = (narI (x (29 + 2 * ro) 1) v) ∧ u = x) (XB G (wX G B tt)) (blkA B (B + 117))) aa ss 0 0 (blkA B (B + 117)) = Q
  refine lv_aload_n hx hb dX4_narrowed_0 rfl (lv_at hl 0 rfl) ?_
  refine x_get (w := (wX G B tt)) (a := 29 + 2 * ro) (v := .int (x (29 + 2 * ro) 1)) hx hb hts iX4_narrowed_X4 hown hK hX (rw_lt hro) (shX_rw (G := G) (B := B) hro) rfl 1 (by decide) (hts _ kX4_narrowed_19) (fun _ h9 => h9) rfl dX4_narrowed_1 ?_
  refine lv_topi (fun y_1 ey_1 => ?_)
  by_cases c_2 : y_1 = 0
  · subst c_2
    refine lv_lookup (tgt := 32) (off := 28) hx hb dX4_narrowed_4 (by decide) (by decide) (by decide) ?_
    have w_4 : x (29 + 2 * ro) 1 = 0 := ey_1.symm
    refine lv_iload_n hx hb dX4_narrowed_32 rfl (lv_at hl 1 rfl) ?_
    refine lv_i2b (v := (v : Int32).toInt8.toInt32) hx hb dX4_narrowed_33 rfl ?_
    rw [← hQ]
    refine x_iret (v := (v : Int32).toInt8.toInt32) hx hb hr hX hS hlocks dX4_narrowed_34 ?_
    refine ⟨?_, rfl⟩
    simp [narI, w_4]
  by_cases c_3 : y_1 = 1
  · subst c_3
    refine lv_lookup (tgt := 35) (off := 31) hx hb dX4_narrowed_4 (by decide) (by decide) (by decide) ?_
    have w_4 : x (29 + 2 * ro) 1 = 1 := ey_1.symm
    refine lv_iload_n hx hb dX4_narrowed_35 rfl (lv_at hl 1 rfl) ?_
    refine lv_i2s (v := (v : Int32).toInt16.toInt32) hx hb dX4_narrowed_36 rfl ?_
    rw [← hQ]
    refine x_iret (v := (v : Int32).toInt16.toInt32) hx hb hr hX hS hlocks dX4_narrowed_37 ?_
    refine ⟨?_, rfl⟩
    simp [narI, w_4]
  have w_4_0 : ¬ x (29 + 2 * ro) 1 = 0 := by rw [← ey_1]; exact c_2
  have w_4_1 : ¬ x (29 + 2 * ro) 1 = 1 := by rw [← ey_1]; exact c_3
  refine lv_lookup (tgt := 38) (off := 34) hx hb dX4_narrowed_4 (by decide) (by simp only [Op.lookupswitch.offset_cons, if_neg (lk_ne c_2 (k := 0) rfl), if_neg (lk_ne c_3 (k := 1) rfl)]; rfl) (by decide) ?_
  refine lv_iload_n hx hb dX4_narrowed_38 rfl (lv_at hl 1 rfl) ?_
  rw [← hQ]
  refine x_iret (v := v) hx hb hr hX hS hlocks dX4_narrowed_39 ?_
  refine ⟨?_, rfl⟩
  simp [narI, c_2, c_3, w_4_0, w_4_1]

theorem kX4_put_9 : (.fieldLink RX4 9 "WindTaken$Row" "items" "[I" : Cond) ∈ wsX4_put := by decide +kernel
theorem iX4_put_X4 : ∀ w ∈ wsX40, w ∈ wsX4_put := by decide +kernel
abbrev rmX4_put : Room := { frames := 1, cells := 0, slots := 0, locals := 21 }
set_option maxHeartbeats 4000000 in
set_option maxRecDepth 100000 in
theorem c_X4_put (l : Launch) (G : GG) (B : Nat) (tt : Nat → Nat) (hW : WOK (wX G B tt)) (x : Mem) {ro : Nat} (hro : ro < 8) {i : Nat} (v : Int32) (hi : i < 40) : Met l yX4_put wsX4_put rmX4_put (XP G (wX G B tt) [.ref (B + (29 + 2 * ro)), .int (nI i), .int (v)] x) (va_Qi (fun r u => r = narI (x (29 + 2 * ro) 1) v ∧ u = mst x (29 + 2 * ro + 1) i r) (XB G (wX G B tt)) (blkA B (B + 117))) 0 0 (blkA B (B + 117)) := by
  refine Met.ofW (cc := cX4_put) (maxL := 3) (ret := (some .int)) (by decide) rfl ?_
  intro pp ee ss mm aa bb mt cd s1 Bd hml hv
  obtain ⟨hae, hX, hK, hE⟩ := hv
  have hx := Bd.exec
  have hb := Bd.bytes
  have hr := Bd.returns
  have hts := atoms_spec (ws := wsX4_put) Bd.pre
  have hown : ss.vm.findClass RX4 = some mm.cls := findClass_of_methodNamed Bd.named
  have hlocks := Bd.notSynchronized
  have hS : va_S (blkA B (B + 117)) ss.heap ss.heap [] := va_S.rf
  have hl := lv_entry ([.ref (B + (29 + 2 * ro)), .int (nI i), .int (v)]) (n := 3) (Nat.le_of_ble_eq_true rfl)
  subst hae
  rw [lg_entry_eq]
  generalize (lg_sl ([.ref (B + (29 + 2 * ro)), .int (nI i), .int (v)]) ++ List.replicate (3 - (lg_sl ([.ref (B + (29 + 2 * ro)), .int (nI i), .int (v)])).length) Slot.unset).toArray = ls at hl ⊢
  have hl : lv_has ls 3 [(0, .ref (B + (29 + 2 * ro))), (1, .int (nI i)), (2, .int (v))] := hl
  generalize ([.ref (B + (29 + 2 * ro)), .int (nI i), .int (v)] : List Value).toArray = aa at hts ⊢
  show W pp l ee rmX4_put ss mm aa bb mt cd ss.heap [] 0 0 _ (F0 mm 0 ls [])
  generalize hQ : MQ bb (va_Qi (fun r u => r = narI (x (29 + 2 * ro) 1) v ∧ u = mst x (29 + 2 * ro + 1) i r) (XB G (wX G B tt)) (blkA B (B + 117))) aa ss 0 0 (blkA B (B + 117)) = Q
  refine lv_aload_n hx hb dX4_put_0 rfl (lv_at hl 0 rfl) ?_
  refine x_get (w := (wX G B tt)) (a := 29 + 2 * ro) (v := .ref (B + (29 + 2 * ro + 1))) hx hb hts iX4_put_X4 hown hK hX (rw_lt hro) (shX_rw (G := G) (B := B) hro) rfl 0 (by decide) (hts _ kX4_put_9) (fun _ h9 => h9) rfl dX4_put_1 ?_
  refine lv_iload_n hx hb dX4_put_4 rfl (lv_at hl 1 rfl) ?_
  refine lv_aload_n hx hb dX4_put_5 rfl (lv_at hl 0 rfl) ?_
  refine lv_iload_n hx hb dX4_put_6 rfl (lv_at hl 2 rfl) ?_
  refine x_ip (w := (wX G B tt)) (x := x) (v := narI (x (29 + 2 * ro) 1) v) (va_runV (As := [.int (v)]) (rest := [.int (nI i), .ref (B + (29 + 2 * ro + 1))]) ⟨hx, hb, hml, hown, hts⟩ (c_X4_narrowed (l := l) (G := G) (B := B) (tt := tt) (hW := hW) (x := x) (ro := ro) (hro := hro) (v := v)) (cwV 1 hts gX4_put_X4_narrowed rfl rfl rfl (by decide +kernel) ⟨Nat.le_of_ble_eq_true rfl, Nat.le_of_ble_eq_true rfl⟩) (x_pv (w := (wX G B tt)) (a := 29 + 2 * ro) hW hX hK hE hS [.int (v)] (rw_lt hro) (shX_rw (G := G) (B := B) hro) rfl) rfl rfl hl.1 rfl (lv_room (Nat.le_of_ble_eq_true rfl)) dX4_put_7 ⟨Nat.zero_le _, Nat.zero_le _⟩) hS (fun H_1 lo_2 hX hS => ?_)
  refine x_iast (w := (wX G B tt)) (a := 29 + 2 * ro + 1) (n := 40) (j := i) hx hb hK hW hX hS (it_lt hro) (fun f => (shX_it (G := G) (B := B) (f := f) hro)) rfl (by omega) (by decide) dX4_put_10 (fun H_4 lo_5 hX hS => ?_)
  obtain ⟨x_3, ex_3⟩ : ∃ z, z = mst x (29 + 2 * ro + 1) i (narI (x (29 + 2 * ro) 1) v) := ⟨_, rfl⟩
  rw [← ex_3] at hX
  refine lv_aload_n hx hb dX4_put_11 rfl (lv_at hl 0 rfl) ?_
  refine x_get (w := (wX G B tt)) (a := 29 + 2 * ro) (v := .ref (B + (29 + 2 * ro + 1))) hx hb hts iX4_put_X4 hown hK hX (rw_lt hro) (shX_rw (G := G) (B := B) hro) rfl 0 (by decide) (hts _ kX4_put_9) (fun _ h9 => h9) rfl dX4_put_12 ?_
  refine lv_iload_n hx hb dX4_put_15 rfl (lv_at hl 1 rfl) ?_
  refine x_iald (w := (wX G B tt)) (a := 29 + 2 * ro + 1) (n := 40) (j := i) hx hb hK hX (it_lt hro) (shX_it (G := G) (B := B) (f := x_3 (29 + 2 * ro + 1)) hro) rfl (by omega) (by decide) dX4_put_16 ?_
  rw [← hQ]
  refine x_iret (v := x_3 (29 + 2 * ro + 1) i) hx hb hr hX hS hlocks dX4_put_17 ?_
  refine ⟨?_, ?_⟩
  · rw [ex_3, mst_self]
  · rw [ex_3, mst_self]

theorem kX0_begin_9 : (.fieldLink RX0 9 "WindTaken$Mill" "number" "I" : Cond) ∈ wsX0_begin := by decide +kernel
theorem iX0_begin_X0 : ∀ w ∈ wsX00, w ∈ wsX0_begin := by decide +kernel
theorem kX0_begin_15 : (.fieldLink RX0 15 "WindTaken$Mill" "kind" "I" : Cond) ∈ wsX0_begin := by decide +kernel
theorem kX0_begin_18 : (.fieldLink RX0 18 "WindTaken$Mill" "flour" "I" : Cond) ∈ wsX0_begin := by decide +kernel
theorem kX0_begin_21 : (.fieldLink RX0 21 "WindTaken$Mill" "wear" "I" : Cond) ∈ wsX0_begin := by decide +kernel
theorem kX0_begin_24 : (.fieldLink RX0 24 "WindTaken$Mill" "facing" "I" : Cond) ∈ wsX0_begin := by decide +kernel
theorem kX0_begin_27 : (.fieldLink RX0 27 "WindTaken$Mill" "furled" "Z" : Cond) ∈ wsX0_begin := by decide +kernel
abbrev rmX0_begin : Room := { frames := 0, cells := 0, slots := 0, locals := 0 }
set_option maxHeartbeats 4000000 in
set_option maxRecDepth 100000 in
theorem c_X0_begin (l : Launch) (G : GG) (B : Nat) (tt : Nat → Nat) (hW : WOK (wX G B tt)) (x : Mem) {ρ : Nat} (hρ : isRg ρ) {j : Nat} (hj : j < 8) (nu : Int32) (k : Int32) : Met l yX0_begin wsX0_begin rmX0_begin (XP G (wX G B tt) [.ref (B + (ρ + 1 + 1 + j)), .int (nu), .int (k)] x) (va_Qv (fun u => (∀ a, a ≠ ρ + 1 + 1 + j → u a = x a) ∧ ∀ k9, u (ρ + 1 + 1 + j) k9 = if k9 = 0 then nu else if k9 = 1 then k else if k9 = 8 ∨ k9 = 9 ∨ k9 = 10 ∨ k9 = 11 then 0 else x (ρ + 1 + 1 + j) k9) (XB G (wX G B tt)) (blkA B (B + 117))) 0 0 (blkA B (B + 117)) := by
  refine Met.ofW (cc := cX0_begin) (maxL := 3) (ret := none) (by decide) rfl ?_
  intro pp ee ss mm aa bb mt cd s1 Bd hml hv
  obtain ⟨hae, hX, hK, hE⟩ := hv
  have hx := Bd.exec
  have hb := Bd.bytes
  have hr := Bd.returns
  have hts := atoms_spec (ws := wsX0_begin) Bd.pre
  have hown : ss.vm.findClass RX0 = some mm.cls := findClass_of_methodNamed Bd.named
  have hlocks := Bd.notSynchronized
  have hS : va_S (blkA B (B + 117)) ss.heap ss.heap [] := va_S.rf
  have hl := lv_entry ([.ref (B + (ρ + 1 + 1 + j)), .int (nu), .int (k)]) (n := 3) (Nat.le_of_ble_eq_true rfl)
  subst hae
  rw [lg_entry_eq]
  generalize (lg_sl ([.ref (B + (ρ + 1 + 1 + j)), .int (nu), .int (k)]) ++ List.replicate (3 - (lg_sl ([.ref (B + (ρ + 1 + 1 + j)), .int (nu), .int (k)])).length) Slot.unset).toArray = ls at hl ⊢
  have hl : lv_has ls 3 [(0, .ref (B + (ρ + 1 + 1 + j))), (1, .int (nu)), (2, .int (k))] := hl
  generalize ([.ref (B + (ρ + 1 + 1 + j)), .int (nu), .int (k)] : List Value).toArray = aa at hts ⊢
  show W pp l ee rmX0_begin ss mm aa bb mt cd ss.heap [] 0 0 _ (F0 mm 0 ls [])
  generalize hQ : MQ bb (va_Qv (fun u => (∀ a, a ≠ ρ + 1 + 1 + j → u a = x a) ∧ ∀ k9, u (ρ + 1 + 1 + j) k9 = if k9 = 0 then nu else if k9 = 1 then k else if k9 = 8 ∨ k9 = 9 ∨ k9 = 10 ∨ k9 = 11 then 0 else x (ρ + 1 + 1 + j) k9) (XB G (wX G B tt)) (blkA B (B + 117))) aa ss 0 0 (blkA B (B + 117)) = Q
  refine lv_aload_n hx hb dX0_begin_0 rfl (lv_at hl 0 rfl) ?_
  refine lv_iload_n hx hb dX0_begin_1 rfl (lv_at hl 1 rfl) ?_
  refine x_put (w := (wX G B tt)) (a := ρ + 1 + 1 + j) (v := nu) (ty := .int) hx hb hts iX0_begin_X0 tyX0 tyX0_ok nmX0 hown hK hW hX hS (rg_ltm hρ hj) (shX_mi (G := G) (B := B) hρ hj) rfl 0 (by decide) (hts _ kX0_begin_9) (fun _ h9 => h9) rfl (by decide +kernel) rfl rfl (Nat.le_of_ble_eq_true rfl) (shX_mi (G := G) (B := B) hρ hj) dX0_begin_2 (fun H_2 lo_3 hX hS => ?_)
  obtain ⟨x_1, ex_1⟩ : ∃ z, z = mst x (ρ + 1 + 1 + j) 0 (nu) := ⟨_, rfl⟩
  rw [← ex_1] at hX
  refine lv_aload_n hx hb dX0_begin_5 rfl (lv_at hl 0 rfl) ?_
  refine lv_iload_n hx hb dX0_begin_6 rfl (lv_at hl 2 rfl) ?_
  refine x_put (w := (wX G B tt)) (a := ρ + 1 + 1 + j) (v := k) (ty := .int) hx hb hts iX0_begin_X0 tyX0 tyX0_ok nmX0 hown hK hW hX hS (rg_ltm hρ hj) (shX_mi (G := G) (B := B) hρ hj) rfl 1 (by decide) (hts _ kX0_begin_15) (fun _ h9 => h9) rfl (by decide +kernel) rfl rfl (Nat.le_of_ble_eq_true rfl) (shX_mi (G := G) (B := B) hρ hj) dX0_begin_7 (fun H_5 lo_6 hX hS => ?_)
  obtain ⟨x_4, ex_4⟩ : ∃ z, z = mst x_1 (ρ + 1 + 1 + j) 1 (k) := ⟨_, rfl⟩
  rw [← ex_4] at hX
  refine lv_aload_n hx hb dX0_begin_10 rfl (lv_at hl 0 rfl) ?_
  refine lv_iconst (v := 0) hx hb dX0_begin_11 (by decide) ?_
  refine x_put (w := (wX G B tt)) (a := ρ + 1 + 1 + j) (v := 0) (ty := .int) hx hb hts iX0_begin_X0 tyX0 tyX0_ok nmX0 hown hK hW hX hS (rg_ltm hρ hj) (shX_mi (G := G) (B := B) hρ hj) rfl 8 (by decide) (hts _ kX0_begin_18) (fun _ h9 => h9) rfl (by decide +kernel) rfl rfl (Nat.le_of_ble_eq_true rfl) (shX_mi (G := G) (B := B) hρ hj) dX0_begin_12 (fun H_8 lo_9 hX hS => ?_)
  obtain ⟨x_7, ex_7⟩ : ∃ z, z = mst x_4 (ρ + 1 + 1 + j) 8 (0) := ⟨_, rfl⟩
  rw [← ex_7] at hX
  have z_10 : x_7 (ρ + 1 + 1 + j) 8 = nI (0) := by rw [ex_7, mst_self]; first | done | exact rfl
  refine lv_aload_n hx hb dX0_begin_15 rfl (lv_at hl 0 rfl) ?_
  refine lv_iconst (v := 0) hx hb dX0_begin_16 (by decide) ?_
  refine x_put (w := (wX G B tt)) (a := ρ + 1 + 1 + j) (v := 0) (ty := .int) hx hb hts iX0_begin_X0 tyX0 tyX0_ok nmX0 hown hK hW hX hS (rg_ltm hρ hj) (shX_mi (G := G) (B := B) hρ hj) rfl 9 (by decide) (hts _ kX0_begin_21) (fun _ h9 => h9) rfl (by decide +kernel) rfl rfl (Nat.le_of_ble_eq_true rfl) (shX_mi (G := G) (B := B) hρ hj) dX0_begin_17 (fun H_12 lo_13 hX hS => ?_)
  obtain ⟨x_11, ex_11⟩ : ∃ z, z = mst x_7 (ρ + 1 + 1 + j) 9 (0) := ⟨_, rfl⟩
  rw [← ex_11] at hX
  have z_14 : x_11 (ρ + 1 + 1 + j) 8 = nI (0) := by rw [ex_11, mst_eq, upd_ne (by first | decide | omega)]; exact z_10
  have z_15 : x_11 (ρ + 1 + 1 + j) 9 = nI (0) := by rw [ex_11, mst_self]; first | done | exact rfl
  refine lv_aload_n hx hb dX0_begin_20 rfl (lv_at hl 0 rfl) ?_
  refine lv_iconst (v := 0) hx hb dX0_begin_21 (by decide) ?_
  refine x_put (w := (wX G B tt)) (a := ρ + 1 + 1 + j) (v := 0) (ty := .int) hx hb hts iX0_begin_X0 tyX0 tyX0_ok nmX0 hown hK hW hX hS (rg_ltm hρ hj) (shX_mi (G := G) (B := B) hρ hj) rfl 10 (by decide) (hts _ kX0_begin_24) (fun _ h9 => h9) rfl (by decide +kernel) rfl rfl (Nat.le_of_ble_eq_true rfl) (shX_mi (G := G) (B := B) hρ hj) dX0_begin_22 (fun H_17 lo_18 hX hS => ?_)
  obtain ⟨x_16, ex_16⟩ : ∃ z, z = mst x_11 (ρ + 1 + 1 + j) 10 (0) := ⟨_, rfl⟩
  rw [← ex_16] at hX
  have z_19 : x_16 (ρ + 1 + 1 + j) 8 = nI (0) := by rw [ex_16, mst_eq, upd_ne (by first | decide | omega)]; exact z_14
  have z_20 : x_16 (ρ + 1 + 1 + j) 9 = nI (0) := by rw [ex_16, mst_eq, upd_ne (by first | decide | omega)]; exact z_15
  have z_21 : x_16 (ρ + 1 + 1 + j) 10 = nI (0) := by rw [ex_16, mst_self]; first | done | exact rfl
  refine lv_aload_n hx hb dX0_begin_25 rfl (lv_at hl 0 rfl) ?_
  refine lv_iconst (v := 0) hx hb dX0_begin_26 (by decide) ?_
  show W pp l ee rmX0_begin ss mm aa bb mt cd H_17 lo_18 0 0 Q (F0 mm 27 ls (.int (bI false) :: [.ref (B + (ρ + 1 + 1 + j))]))
  refine x_put (w := (wX G B tt)) (a := ρ + 1 + 1 + j) (v := bI false) (ty := .boolean) hx hb hts iX0_begin_X0 tyX0 tyX0_ok nmX0 hown hK hW hX hS (rg_ltm hρ hj) (shX_mi (G := G) (B := B) hρ hj) rfl 11 (by decide) (hts _ kX0_begin_27) (fun _ h9 => h9) rfl (by decide +kernel) (bI_nar _) (bI_fit _) (Nat.le_of_ble_eq_true rfl) (shX_fu (G := G) (B := B) hρ hj _ _) dX0_begin_27 (fun H_23 lo_24 hX hS => ?_)
  obtain ⟨x_22, ex_22⟩ : ∃ z, z = mst x_16 (ρ + 1 + 1 + j) 11 (bI false) := ⟨_, rfl⟩
  rw [← ex_22] at hX
  have z_25 : x_22 (ρ + 1 + 1 + j) 8 = nI (0) := by rw [ex_22, mst_eq, upd_ne (by first | decide | omega)]; exact z_19
  have z_26 : x_22 (ρ + 1 + 1 + j) 9 = nI (0) := by rw [ex_22, mst_eq, upd_ne (by first | decide | omega)]; exact z_20
  have z_27 : x_22 (ρ + 1 + 1 + j) 10 = nI (0) := by rw [ex_22, mst_eq, upd_ne (by first | decide | omega)]; exact z_21
  rw [← hQ]
  refine x_vret hx hb hr hX hS hlocks dX0_begin_30 ?_
  exact ⟨fun a h => by rw [ex_22, mst_ne h, ex_16, mst_ne h, ex_11, mst_ne h, ex_7, mst_ne h, ex_4, mst_ne h, ex_1, mst_ne h], fun k9 => by simp only [ex_22, ex_16, ex_11, ex_7, ex_4, ex_1, mst_eq, upd, bI_f]; repeat (first | rfl | (split <;> try omega))⟩

theorem kX0_become_9 : (.fieldLink RX0 9 "WindTaken$Mill" "number" "I" : Cond) ∈ wsX0_become := by decide +kernel
theorem iX0_become_X0 : ∀ w ∈ wsX00, w ∈ wsX0_become := by decide +kernel
theorem kX0_become_15 : (.fieldLink RX0 15 "WindTaken$Mill" "kind" "I" : Cond) ∈ wsX0_become := by decide +kernel
theorem kX0_become_31 : (.fieldLink RX0 31 "WindTaken$Mill" "x" "I" : Cond) ∈ wsX0_become := by decide +kernel
theorem kX0_become_34 : (.fieldLink RX0 34 "WindTaken$Mill" "y" "I" : Cond) ∈ wsX0_become := by decide +kernel
theorem kX0_become_37 : (.fieldLink RX0 37 "WindTaken$Mill" "floors" "I" : Cond) ∈ wsX0_become := by decide +kernel
theorem kX0_become_40 : (.fieldLink RX0 40 "WindTaken$Mill" "sails" "I" : Cond) ∈ wsX0_become := by decide +kernel
theorem kX0_become_43 : (.fieldLink RX0 43 "WindTaken$Mill" "age" "I" : Cond) ∈ wsX0_become := by decide +kernel
theorem kX0_become_46 : (.fieldLink RX0 46 "WindTaken$Mill" "corn" "I" : Cond) ∈ wsX0_become := by decide +kernel
theorem kX0_become_18 : (.fieldLink RX0 18 "WindTaken$Mill" "flour" "I" : Cond) ∈ wsX0_become := by decide +kernel
theorem kX0_become_21 : (.fieldLink RX0 21 "WindTaken$Mill" "wear" "I" : Cond) ∈ wsX0_become := by decide +kernel
theorem kX0_become_24 : (.fieldLink RX0 24 "WindTaken$Mill" "facing" "I" : Cond) ∈ wsX0_become := by decide +kernel
theorem kX0_become_27 : (.fieldLink RX0 27 "WindTaken$Mill" "furled" "Z" : Cond) ∈ wsX0_become := by decide +kernel
abbrev rmX0_become : Room := { frames := 0, cells := 0, slots := 0, locals := 0 }
set_option maxHeartbeats 4000000 in
set_option maxRecDepth 100000 in
theorem c_X0_become (l : Launch) (G : GG) (B : Nat) (tt : Nat → Nat) (hW : WOK (wX G B tt)) (x : Mem) {ρ : Nat} (hρ : isRg ρ) {j : Nat} (hj : j < 8) {σ : Nat} (hσ : isRg σ) {k : Nat} (hk : k < 8) : Met l yX0_become wsX0_become rmX0_become (XP G (wX G B tt) [.ref (B + (ρ + 1 + 1 + j)), .ref (B + (σ + 1 + 1 + k))] x) (va_Qv (fun u => (∀ a, a ≠ ρ + 1 + 1 + j → u a = x a) ∧ (ρ + 1 + 1 + j ≠ σ + 1 + 1 + k → (∀ k9, k9 < 11 → u (ρ + 1 + 1 + j) k9 = x (σ + 1 + 1 + k) k9) ∧ bI (decide (u (ρ + 1 + 1 + j) 11 ≠ 0)) = bI (decide (x (σ + 1 + 1 + k) 11 ≠ 0)))) (XB G (wX G B tt)) (blkA B (B + 117))) 0 0 (blkA B (B + 117)) := by
  refine Met.ofW (cc := cX0_become) (maxL := 2) (ret := none) (by decide) rfl ?_
  intro pp ee ss mm aa bb mt cd s1 Bd hml hv
  obtain ⟨hae, hX, hK, hE⟩ := hv
  have hx := Bd.exec
  have hb := Bd.bytes
  have hr := Bd.returns
  have hts := atoms_spec (ws := wsX0_become) Bd.pre
  have hown : ss.vm.findClass RX0 = some mm.cls := findClass_of_methodNamed Bd.named
  have hlocks := Bd.notSynchronized
  have hS : va_S (blkA B (B + 117)) ss.heap ss.heap [] := va_S.rf
  have hl := lv_entry ([.ref (B + (ρ + 1 + 1 + j)), .ref (B + (σ + 1 + 1 + k))]) (n := 2) (Nat.le_of_ble_eq_true rfl)
  subst hae
  rw [lg_entry_eq]
  generalize (lg_sl ([.ref (B + (ρ + 1 + 1 + j)), .ref (B + (σ + 1 + 1 + k))]) ++ List.replicate (2 - (lg_sl ([.ref (B + (ρ + 1 + 1 + j)), .ref (B + (σ + 1 + 1 + k))])).length) Slot.unset).toArray = ls at hl ⊢
  have hl : lv_has ls 2 [(0, .ref (B + (ρ + 1 + 1 + j))), (1, .ref (B + (σ + 1 + 1 + k)))] := hl
  generalize ([.ref (B + (ρ + 1 + 1 + j)), .ref (B + (σ + 1 + 1 + k))] : List Value).toArray = aa at hts ⊢
  show W pp l ee rmX0_become ss mm aa bb mt cd ss.heap [] 0 0 _ (F0 mm 0 ls [])
  generalize hQ : MQ bb (va_Qv (fun u => (∀ a, a ≠ ρ + 1 + 1 + j → u a = x a) ∧ (ρ + 1 + 1 + j ≠ σ + 1 + 1 + k → (∀ k9, k9 < 11 → u (ρ + 1 + 1 + j) k9 = x (σ + 1 + 1 + k) k9) ∧ bI (decide (u (ρ + 1 + 1 + j) 11 ≠ 0)) = bI (decide (x (σ + 1 + 1 + k) 11 ≠ 0)))) (XB G (wX G B tt)) (blkA B (B + 117))) aa ss 0 0 (blkA B (B + 117)) = Q
  refine lv_aload_n hx hb dX0_become_0 rfl (lv_at hl 0 rfl) ?_
  refine lv_aload_n hx hb dX0_become_1 rfl (lv_at hl 1 rfl) ?_
  refine x_get (w := (wX G B tt)) (a := σ + 1 + 1 + k) (v := .int (x (σ + 1 + 1 + k) 0)) hx hb hts iX0_become_X0 hown hK hX (rg_ltm hσ hk) (shX_mi (G := G) (B := B) hσ hk) rfl 0 (by decide) (hts _ kX0_become_9) (fun _ h9 => h9) rfl dX0_become_2 ?_
  refine x_put (w := (wX G B tt)) (a := ρ + 1 + 1 + j) (v := x (σ + 1 + 1 + k) 0) (ty := .int) hx hb hts iX0_become_X0 tyX0 tyX0_ok nmX0 hown hK hW hX hS (rg_ltm hρ hj) (shX_mi (G := G) (B := B) hρ hj) rfl 0 (by decide) (hts _ kX0_become_9) (fun _ h9 => h9) rfl (by decide +kernel) rfl rfl (Nat.le_of_ble_eq_true rfl) (shX_mi (G := G) (B := B) hρ hj) dX0_become_5 (fun H_2 lo_3 hX hS => ?_)
  obtain ⟨x_1, ex_1⟩ : ∃ z, z = mst x (ρ + 1 + 1 + j) 0 (x (σ + 1 + 1 + k) 0) := ⟨_, rfl⟩
  rw [← ex_1] at hX
  refine lv_aload_n hx hb dX0_become_8 rfl (lv_at hl 0 rfl) ?_
  refine lv_aload_n hx hb dX0_become_9 rfl (lv_at hl 1 rfl) ?_
  refine x_get (w := (wX G B tt)) (a := σ + 1 + 1 + k) (v := .int (x_1 (σ + 1 + 1 + k) 1)) hx hb hts iX0_become_X0 hown hK hX (rg_ltm hσ hk) (shX_mi (G := G) (B := B) hσ hk) rfl 1 (by decide) (hts _ kX0_become_15) (fun _ h9 => h9) rfl dX0_become_10 ?_
  refine x_put (w := (wX G B tt)) (a := ρ + 1 + 1 + j) (v := x_1 (σ + 1 + 1 + k) 1) (ty := .int) hx hb hts iX0_become_X0 tyX0 tyX0_ok nmX0 hown hK hW hX hS (rg_ltm hρ hj) (shX_mi (G := G) (B := B) hρ hj) rfl 1 (by decide) (hts _ kX0_become_15) (fun _ h9 => h9) rfl (by decide +kernel) rfl rfl (Nat.le_of_ble_eq_true rfl) (shX_mi (G := G) (B := B) hρ hj) dX0_become_13 (fun H_5 lo_6 hX hS => ?_)
  obtain ⟨x_4, ex_4⟩ : ∃ z, z = mst x_1 (ρ + 1 + 1 + j) 1 (x_1 (σ + 1 + 1 + k) 1) := ⟨_, rfl⟩
  rw [← ex_4] at hX
  refine lv_aload_n hx hb dX0_become_16 rfl (lv_at hl 0 rfl) ?_
  refine lv_aload_n hx hb dX0_become_17 rfl (lv_at hl 1 rfl) ?_
  refine x_get (w := (wX G B tt)) (a := σ + 1 + 1 + k) (v := .int (x_4 (σ + 1 + 1 + k) 2)) hx hb hts iX0_become_X0 hown hK hX (rg_ltm hσ hk) (shX_mi (G := G) (B := B) hσ hk) rfl 2 (by decide) (hts _ kX0_become_31) (fun _ h9 => h9) rfl dX0_become_18 ?_
  refine x_put (w := (wX G B tt)) (a := ρ + 1 + 1 + j) (v := x_4 (σ + 1 + 1 + k) 2) (ty := .int) hx hb hts iX0_become_X0 tyX0 tyX0_ok nmX0 hown hK hW hX hS (rg_ltm hρ hj) (shX_mi (G := G) (B := B) hρ hj) rfl 2 (by decide) (hts _ kX0_become_31) (fun _ h9 => h9) rfl (by decide +kernel) rfl rfl (Nat.le_of_ble_eq_true rfl) (shX_mi (G := G) (B := B) hρ hj) dX0_become_21 (fun H_8 lo_9 hX hS => ?_)
  obtain ⟨x_7, ex_7⟩ : ∃ z, z = mst x_4 (ρ + 1 + 1 + j) 2 (x_4 (σ + 1 + 1 + k) 2) := ⟨_, rfl⟩
  rw [← ex_7] at hX
  refine lv_aload_n hx hb dX0_become_24 rfl (lv_at hl 0 rfl) ?_
  refine lv_aload_n hx hb dX0_become_25 rfl (lv_at hl 1 rfl) ?_
  refine x_get (w := (wX G B tt)) (a := σ + 1 + 1 + k) (v := .int (x_7 (σ + 1 + 1 + k) 3)) hx hb hts iX0_become_X0 hown hK hX (rg_ltm hσ hk) (shX_mi (G := G) (B := B) hσ hk) rfl 3 (by decide) (hts _ kX0_become_34) (fun _ h9 => h9) rfl dX0_become_26 ?_
  refine x_put (w := (wX G B tt)) (a := ρ + 1 + 1 + j) (v := x_7 (σ + 1 + 1 + k) 3) (ty := .int) hx hb hts iX0_become_X0 tyX0 tyX0_ok nmX0 hown hK hW hX hS (rg_ltm hρ hj) (shX_mi (G := G) (B := B) hρ hj) rfl 3 (by decide) (hts _ kX0_become_34) (fun _ h9 => h9) rfl (by decide +kernel) rfl rfl (Nat.le_of_ble_eq_true rfl) (shX_mi (G := G) (B := B) hρ hj) dX0_become_29 (fun H_11 lo_12 hX hS => ?_)
  obtain ⟨x_10, ex_10⟩ : ∃ z, z = mst x_7 (ρ + 1 + 1 + j) 3 (x_7 (σ + 1 + 1 + k) 3) := ⟨_, rfl⟩
  rw [← ex_10] at hX
  refine lv_aload_n hx hb dX0_become_32 rfl (lv_at hl 0 rfl) ?_
  refine lv_aload_n hx hb dX0_become_33 rfl (lv_at hl 1 rfl) ?_
  refine x_get (w := (wX G B tt)) (a := σ + 1 + 1 + k) (v := .int (x_10 (σ + 1 + 1 + k) 4)) hx hb hts iX0_become_X0 hown hK hX (rg_ltm hσ hk) (shX_mi (G := G) (B := B) hσ hk) rfl 4 (by decide) (hts _ kX0_become_37) (fun _ h9 => h9) rfl dX0_become_34 ?_
  refine x_put (w := (wX G B tt)) (a := ρ + 1 + 1 + j) (v := x_10 (σ + 1 + 1 + k) 4) (ty := .int) hx hb hts iX0_become_X0 tyX0 tyX0_ok nmX0 hown hK hW hX hS (rg_ltm hρ hj) (shX_mi (G := G) (B := B) hρ hj) rfl 4 (by decide) (hts _ kX0_become_37) (fun _ h9 => h9) rfl (by decide +kernel) rfl rfl (Nat.le_of_ble_eq_true rfl) (shX_mi (G := G) (B := B) hρ hj) dX0_become_37 (fun H_14 lo_15 hX hS => ?_)
  obtain ⟨x_13, ex_13⟩ : ∃ z, z = mst x_10 (ρ + 1 + 1 + j) 4 (x_10 (σ + 1 + 1 + k) 4) := ⟨_, rfl⟩
  rw [← ex_13] at hX
  refine lv_aload_n hx hb dX0_become_40 rfl (lv_at hl 0 rfl) ?_
  refine lv_aload_n hx hb dX0_become_41 rfl (lv_at hl 1 rfl) ?_
  refine x_get (w := (wX G B tt)) (a := σ + 1 + 1 + k) (v := .int (x_13 (σ + 1 + 1 + k) 5)) hx hb hts iX0_become_X0 hown hK hX (rg_ltm hσ hk) (shX_mi (G := G) (B := B) hσ hk) rfl 5 (by decide) (hts _ kX0_become_40) (fun _ h9 => h9) rfl dX0_become_42 ?_
  refine x_put (w := (wX G B tt)) (a := ρ + 1 + 1 + j) (v := x_13 (σ + 1 + 1 + k) 5) (ty := .int) hx hb hts iX0_become_X0 tyX0 tyX0_ok nmX0 hown hK hW hX hS (rg_ltm hρ hj) (shX_mi (G := G) (B := B) hρ hj) rfl 5 (by decide) (hts _ kX0_become_40) (fun _ h9 => h9) rfl (by decide +kernel) rfl rfl (Nat.le_of_ble_eq_true rfl) (shX_mi (G := G) (B := B) hρ hj) dX0_become_45 (fun H_17 lo_18 hX hS => ?_)
  obtain ⟨x_16, ex_16⟩ : ∃ z, z = mst x_13 (ρ + 1 + 1 + j) 5 (x_13 (σ + 1 + 1 + k) 5) := ⟨_, rfl⟩
  rw [← ex_16] at hX
  refine lv_aload_n hx hb dX0_become_48 rfl (lv_at hl 0 rfl) ?_
  refine lv_aload_n hx hb dX0_become_49 rfl (lv_at hl 1 rfl) ?_
  refine x_get (w := (wX G B tt)) (a := σ + 1 + 1 + k) (v := .int (x_16 (σ + 1 + 1 + k) 6)) hx hb hts iX0_become_X0 hown hK hX (rg_ltm hσ hk) (shX_mi (G := G) (B := B) hσ hk) rfl 6 (by decide) (hts _ kX0_become_43) (fun _ h9 => h9) rfl dX0_become_50 ?_
  refine x_put (w := (wX G B tt)) (a := ρ + 1 + 1 + j) (v := x_16 (σ + 1 + 1 + k) 6) (ty := .int) hx hb hts iX0_become_X0 tyX0 tyX0_ok nmX0 hown hK hW hX hS (rg_ltm hρ hj) (shX_mi (G := G) (B := B) hρ hj) rfl 6 (by decide) (hts _ kX0_become_43) (fun _ h9 => h9) rfl (by decide +kernel) rfl rfl (Nat.le_of_ble_eq_true rfl) (shX_mi (G := G) (B := B) hρ hj) dX0_become_53 (fun H_20 lo_21 hX hS => ?_)
  obtain ⟨x_19, ex_19⟩ : ∃ z, z = mst x_16 (ρ + 1 + 1 + j) 6 (x_16 (σ + 1 + 1 + k) 6) := ⟨_, rfl⟩
  rw [← ex_19] at hX
  refine lv_aload_n hx hb dX0_become_56 rfl (lv_at hl 0 rfl) ?_
  refine lv_aload_n hx hb dX0_become_57 rfl (lv_at hl 1 rfl) ?_
  refine x_get (w := (wX G B tt)) (a := σ + 1 + 1 + k) (v := .int (x_19 (σ + 1 + 1 + k) 7)) hx hb hts iX0_become_X0 hown hK hX (rg_ltm hσ hk) (shX_mi (G := G) (B := B) hσ hk) rfl 7 (by decide) (hts _ kX0_become_46) (fun _ h9 => h9) rfl dX0_become_58 ?_
  refine x_put (w := (wX G B tt)) (a := ρ + 1 + 1 + j) (v := x_19 (σ + 1 + 1 + k) 7) (ty := .int) hx hb hts iX0_become_X0 tyX0 tyX0_ok nmX0 hown hK hW hX hS (rg_ltm hρ hj) (shX_mi (G := G) (B := B) hρ hj) rfl 7 (by decide) (hts _ kX0_become_46) (fun _ h9 => h9) rfl (by decide +kernel) rfl rfl (Nat.le_of_ble_eq_true rfl) (shX_mi (G := G) (B := B) hρ hj) dX0_become_61 (fun H_23 lo_24 hX hS => ?_)
  obtain ⟨x_22, ex_22⟩ : ∃ z, z = mst x_19 (ρ + 1 + 1 + j) 7 (x_19 (σ + 1 + 1 + k) 7) := ⟨_, rfl⟩
  rw [← ex_22] at hX
  refine lv_aload_n hx hb dX0_become_64 rfl (lv_at hl 0 rfl) ?_
  refine lv_aload_n hx hb dX0_become_65 rfl (lv_at hl 1 rfl) ?_
  refine x_get (w := (wX G B tt)) (a := σ + 1 + 1 + k) (v := .int (x_22 (σ + 1 + 1 + k) 8)) hx hb hts iX0_become_X0 hown hK hX (rg_ltm hσ hk) (shX_mi (G := G) (B := B) hσ hk) rfl 8 (by decide) (hts _ kX0_become_18) (fun _ h9 => h9) rfl dX0_become_66 ?_
  refine x_put (w := (wX G B tt)) (a := ρ + 1 + 1 + j) (v := x_22 (σ + 1 + 1 + k) 8) (ty := .int) hx hb hts iX0_become_X0 tyX0 tyX0_ok nmX0 hown hK hW hX hS (rg_ltm hρ hj) (shX_mi (G := G) (B := B) hρ hj) rfl 8 (by decide) (hts _ kX0_become_18) (fun _ h9 => h9) rfl (by decide +kernel) rfl rfl (Nat.le_of_ble_eq_true rfl) (shX_mi (G := G) (B := B) hρ hj) dX0_become_69 (fun H_26 lo_27 hX hS => ?_)
  obtain ⟨x_25, ex_25⟩ : ∃ z, z = mst x_22 (ρ + 1 + 1 + j) 8 (x_22 (σ + 1 + 1 + k) 8) := ⟨_, rfl⟩
  rw [← ex_25] at hX
  refine lv_aload_n hx hb dX0_become_72 rfl (lv_at hl 0 rfl) ?_
  refine lv_aload_n hx hb dX0_become_73 rfl (lv_at hl 1 rfl) ?_
  refine x_get (w := (wX G B tt)) (a := σ + 1 + 1 + k) (v := .int (x_25 (σ + 1 + 1 + k) 9)) hx hb hts iX0_become_X0 hown hK hX (rg_ltm hσ hk) (shX_mi (G := G) (B := B) hσ hk) rfl 9 (by decide) (hts _ kX0_become_21) (fun _ h9 => h9) rfl dX0_become_74 ?_
  refine x_put (w := (wX G B tt)) (a := ρ + 1 + 1 + j) (v := x_25 (σ + 1 + 1 + k) 9) (ty := .int) hx hb hts iX0_become_X0 tyX0 tyX0_ok nmX0 hown hK hW hX hS (rg_ltm hρ hj) (shX_mi (G := G) (B := B) hρ hj) rfl 9 (by decide) (hts _ kX0_become_21) (fun _ h9 => h9) rfl (by decide +kernel) rfl rfl (Nat.le_of_ble_eq_true rfl) (shX_mi (G := G) (B := B) hρ hj) dX0_become_77 (fun H_29 lo_30 hX hS => ?_)
  obtain ⟨x_28, ex_28⟩ : ∃ z, z = mst x_25 (ρ + 1 + 1 + j) 9 (x_25 (σ + 1 + 1 + k) 9) := ⟨_, rfl⟩
  rw [← ex_28] at hX
  refine lv_aload_n hx hb dX0_become_80 rfl (lv_at hl 0 rfl) ?_
  refine lv_aload_n hx hb dX0_become_81 rfl (lv_at hl 1 rfl) ?_
  refine x_get (w := (wX G B tt)) (a := σ + 1 + 1 + k) (v := .int (x_28 (σ + 1 + 1 + k) 10)) hx hb hts iX0_become_X0 hown hK hX (rg_ltm hσ hk) (shX_mi (G := G) (B := B) hσ hk) rfl 10 (by decide) (hts _ kX0_become_24) (fun _ h9 => h9) rfl dX0_become_82 ?_
  refine x_put (w := (wX G B tt)) (a := ρ + 1 + 1 + j) (v := x_28 (σ + 1 + 1 + k) 10) (ty := .int) hx hb hts iX0_become_X0 tyX0 tyX0_ok nmX0 hown hK hW hX hS (rg_ltm hρ hj) (shX_mi (G := G) (B := B) hρ hj) rfl 10 (by decide) (hts _ kX0_become_24) (fun _ h9 => h9) rfl (by decide +kernel) rfl rfl (Nat.le_of_ble_eq_true rfl) (shX_mi (G := G) (B := B) hρ hj) dX0_become_85 (fun H_32 lo_33 hX hS => ?_)
  obtain ⟨x_31, ex_31⟩ : ∃ z, z = mst x_28 (ρ + 1 + 1 + j) 10 (x_28 (σ + 1 + 1 + k) 10) := ⟨_, rfl⟩
  rw [← ex_31] at hX
  refine lv_aload_n hx hb dX0_become_88 rfl (lv_at hl 0 rfl) ?_
  refine lv_aload_n hx hb dX0_become_89 rfl (lv_at hl 1 rfl) ?_
  refine x_get (w := (wX G B tt)) (a := σ + 1 + 1 + k) (v := .int (bI (decide (x_31 (σ + 1 + 1 + k) 11 ≠ 0)))) hx hb hts iX0_become_X0 hown hK hX (rg_ltm hσ hk) (shX_mi (G := G) (B := B) hσ hk) rfl 11 (by decide) (hts _ kX0_become_27) (fun _ h9 => h9) rfl dX0_become_90 ?_
  show W pp l ee rmX0_become ss mm aa bb mt cd H_32 lo_33 0 0 Q (F0 mm 93 ls (.int (bI (decide (x_31 (σ + 1 + 1 + k) 11 ≠ 0))) :: [.ref (B + (ρ + 1 + 1 + j))]))
  refine x_put (w := (wX G B tt)) (a := ρ + 1 + 1 + j) (v := bI (decide (x_31 (σ + 1 + 1 + k) 11 ≠ 0))) (ty := .boolean) hx hb hts iX0_become_X0 tyX0 tyX0_ok nmX0 hown hK hW hX hS (rg_ltm hρ hj) (shX_mi (G := G) (B := B) hρ hj) rfl 11 (by decide) (hts _ kX0_become_27) (fun _ h9 => h9) rfl (by decide +kernel) (bI_nar _) (bI_fit _) (Nat.le_of_ble_eq_true rfl) (shX_fu (G := G) (B := B) hρ hj _ _) dX0_become_93 (fun H_35 lo_36 hX hS => ?_)
  obtain ⟨x_34, ex_34⟩ : ∃ z, z = mst x_31 (ρ + 1 + 1 + j) 11 (bI (decide (x_31 (σ + 1 + 1 + k) 11 ≠ 0))) := ⟨_, rfl⟩
  rw [← ex_34] at hX
  rw [← hQ]
  refine x_vret hx hb hr hX hS hlocks dX0_become_96 ?_
  refine ⟨fun a h => by simp only [ex_34, ex_31, ex_28, ex_25, ex_22, ex_19, ex_16, ex_13, ex_10, ex_7, ex_4, ex_1, mst_ne h], fun hne => ?_⟩
  simp only [ex_34, ex_31, ex_28, ex_25, ex_22, ex_19, ex_16, ex_13, ex_10, ex_7, ex_4, ex_1, mst_eq, mst_ne (Ne.symm hne)]
  refine ⟨fun k9 hk => ?_, by simp [upd, bI]⟩
  have : k9 = 0 ∨ k9 = 1 ∨ k9 = 2 ∨ k9 = 3 ∨ k9 = 4 ∨ k9 = 5 ∨ k9 = 6 ∨ k9 = 7 ∨ k9 = 8 ∨ k9 = 9 ∨ k9 = 10 := by omega
  rcases this with rfl | rfl | rfl | rfl | rfl | rfl | rfl | rfl | rfl | rfl | rfl <;> simp [upd]

theorem kX3_isNone_18 : (.fieldLink RX3 18 "WindTaken$Ridge" "count" "I" : Cond) ∈ wsX3_isNone := by decide +kernel
theorem iX3_isNone_X3 : ∀ w ∈ wsX30, w ∈ wsX3_isNone := by decide +kernel
abbrev rmX3_isNone : Room := { frames := 0, cells := 0, slots := 0, locals := 0 }
set_option maxHeartbeats 4000000 in
set_option maxRecDepth 100000 in
theorem c_X3_isNone (l : Launch) (G : GG) (B : Nat) (tt : Nat → Nat) (hW : WOK (wX G B tt)) (x : Mem) {ρ : Nat} (hρ : isRg ρ) : Met l yX3_isNone wsX3_isNone rmX3_isNone (XP G (wX G B tt) [.ref (B + (ρ))] x) (va_Qi (fun r u => r = bI (decide (x ρ 1 = 0)) ∧ u = x) (XB G (wX G B tt)) (blkA B (B + 117))) 0 0 (blkA B (B + 117)) := by
  refine Met.ofW (cc := cX3_isNone) (maxL := 1) (ret := (some .boolean)) (by decide) rfl ?_
  intro pp ee ss mm aa bb mt cd s1 Bd hml hv
  obtain ⟨hae, hX, hK, hE⟩ := hv
  have hx := Bd.exec
  have hb := Bd.bytes
  have hr := Bd.returns
  have hts := atoms_spec (ws := wsX3_isNone) Bd.pre
  have hown : ss.vm.findClass RX3 = some mm.cls := findClass_of_methodNamed Bd.named
  have hlocks := Bd.notSynchronized
  have hS : va_S (blkA B (B + 117)) ss.heap ss.heap [] := va_S.rf
  have hl := lv_entry ([.ref (B + (ρ))]) (n := 1) (Nat.le_of_ble_eq_true rfl)
  subst hae
  rw [lg_entry_eq]
  generalize (lg_sl ([.ref (B + (ρ))]) ++ List.replicate (1 - (lg_sl ([.ref (B + (ρ))])).length) Slot.unset).toArray = ls at hl ⊢
  have hl : lv_has ls 1 [(0, .ref (B + (ρ)))] := hl
  generalize ([.ref (B + (ρ))] : List Value).toArray = aa at hts ⊢
  show W pp l ee rmX3_isNone ss mm aa bb mt cd ss.heap [] 0 0 _ (F0 mm 0 ls [])
  generalize hQ : MQ bb (va_Qi (fun r u => r = bI (decide (x ρ 1 = 0)) ∧ u = x) (XB G (wX G B tt)) (blkA B (B + 117))) aa ss 0 0 (blkA B (B + 117)) = Q
  refine lv_aload_n hx hb dX3_isNone_0 rfl (lv_at hl 0 rfl) ?_
  refine x_get (w := (wX G B tt)) (a := ρ) (v := .int (x (ρ) 1)) hx hb hts iX3_isNone_X3 hown hK hX (rg_lt hρ) (shX_ri (G := G) (B := B) hρ) rfl 1 (by decide) (hts _ kX3_isNone_18) (fun _ h9 => h9) rfl dX3_isNone_1 ?_
  have kJ_3 : ∀ (v_2 : Bool) (_ : v_2 = (if (x (ρ) 1) = 0 then true else false)) (H_4 : Heap) (lo_5 : List Loc) (_ : MR G (wX G B tt) x H_4) (_ : va_S (blkA B (B + 117)) ss.heap H_4 lo_5) (ls : Array Slot) (_ : lv_has ls 1 [(0, .ref (B + (ρ)))]), W pp l ee rmX3_isNone ss mm aa bb mt cd H_4 lo_5 0 0 Q (F0 mm 12 ls [.int (bI (v_2))]) := by
    intro v_2 ev_2 H_4 lo_5 hX hS ls hl
    rw [← hQ]
    refine x_zret (v := bI (v_2)) (ty := .boolean) hx hb hr (bI_nar _) hX hS hlocks dX3_isNone_12 ?_
    refine ⟨?_, rfl⟩
    first | rfl | simp [bI, ev_2]
  refine lv_if_ne (tgt := 11) hx hb dX3_isNone_4 (by decide) (fun c_1 => ?_) (fun c_1 => ?_)
  · refine lv_iconst (v := 0) hx hb dX3_isNone_11 (by decide) ?_
    exact kJ_3 (false) (by rw [if_neg c_1]) _ _ hX hS ls (lv_sub hl [0] rfl)
  · refine lv_iconst (v := 1) hx hb dX3_isNone_7 (by decide) ?_
    refine lv_goto (tgt := 12) hx hb dX3_isNone_8 (by decide) ?_
    exact kJ_3 (true) (by rw [if_pos c_1]) _ _ hX hS ls (lv_sub hl [0] rfl)

theorem kX3_has_18 : (.fieldLink RX3 18 "WindTaken$Ridge" "count" "I" : Cond) ∈ wsX3_has := by decide +kernel
theorem iX3_has_X3 : ∀ w ∈ wsX30, w ∈ wsX3_has := by decide +kernel
abbrev rmX3_has : Room := { frames := 0, cells := 0, slots := 0, locals := 0 }
set_option maxHeartbeats 4000000 in
set_option maxRecDepth 100000 in
theorem c_X3_has (l : Launch) (G : GG) (B : Nat) (tt : Nat → Nat) (hW : WOK (wX G B tt)) (x : Mem) {ρ : Nat} (hρ : isRg ρ) (v : Int32) : Met l yX3_has wsX3_has rmX3_has (XP G (wX G B tt) [.ref (B + (ρ)), .int (v)] x) (va_Qi (fun r u => r = bI (decide (0 ≤ v) && decide (v < x ρ 1)) ∧ u = x) (XB G (wX G B tt)) (blkA B (B + 117))) 0 0 (blkA B (B + 117)) := by
  refine Met.ofW (cc := cX3_has) (maxL := 2) (ret := (some .boolean)) (by decide) rfl ?_
  intro pp ee ss mm aa bb mt cd s1 Bd hml hv
  obtain ⟨hae, hX, hK, hE⟩ := hv
  have hx := Bd.exec
  have hb := Bd.bytes
  have hr := Bd.returns
  have hts := atoms_spec (ws := wsX3_has) Bd.pre
  have hown : ss.vm.findClass RX3 = some mm.cls := findClass_of_methodNamed Bd.named
  have hlocks := Bd.notSynchronized
  have hS : va_S (blkA B (B + 117)) ss.heap ss.heap [] := va_S.rf
  have hl := lv_entry ([.ref (B + (ρ)), .int (v)]) (n := 2) (Nat.le_of_ble_eq_true rfl)
  subst hae
  rw [lg_entry_eq]
  generalize (lg_sl ([.ref (B + (ρ)), .int (v)]) ++ List.replicate (2 - (lg_sl ([.ref (B + (ρ)), .int (v)])).length) Slot.unset).toArray = ls at hl ⊢
  have hl : lv_has ls 2 [(0, .ref (B + (ρ))), (1, .int (v))] := hl
  generalize ([.ref (B + (ρ)), .int (v)] : List Value).toArray = aa at hts ⊢
  show W pp l ee rmX3_has ss mm aa bb mt cd ss.heap [] 0 0 _ (F0 mm 0 ls [])
  generalize hQ : MQ bb (va_Qi (fun r u => r = bI (decide (0 ≤ v) && decide (v < x ρ 1)) ∧ u = x) (XB G (wX G B tt)) (blkA B (B + 117))) aa ss 0 0 (blkA B (B + 117)) = Q
  refine lv_iload_n hx hb dX3_has_0 rfl (lv_at hl 1 rfl) ?_
  have kJ_3 : ∀ (v_2 : Bool) (_ : v_2 = (if v < 0 then false else (if (x (ρ) 1) ≤ v then false else true))) (H_4 : Heap) (lo_5 : List Loc) (_ : MR G (wX G B tt) x H_4) (_ : va_S (blkA B (B + 117)) ss.heap H_4 lo_5) (ls : Array Slot) (_ : lv_has ls 2 [(0, .ref (B + (ρ))), (1, .int (v))]), W pp l ee rmX3_has ss mm aa bb mt cd H_4 lo_5 0 0 Q (F0 mm 17 ls [.int (bI (v_2))]) := by
    intro v_2 ev_2 H_4 lo_5 hX hS ls hl
    rw [← hQ]
    refine x_zret (v := bI (v_2)) (ty := .boolean) hx hb hr (bI_nar _) hX hS hlocks dX3_has_17 ?_
    refine ⟨?_, rfl⟩
    first | rfl | simp [bI, ev_2]
  refine lv_if_lt (tgt := 16) hx hb dX3_has_1 (by decide) (fun c_1 => ?_) (fun c_1 => ?_)
  · refine lv_iconst (v := 0) hx hb dX3_has_16 (by decide) ?_
    exact kJ_3 (false) (by rw [if_pos c_1]) _ _ hX hS ls (lv_sub hl [0, 1] rfl)
  · refine lv_iload_n hx hb dX3_has_4 rfl (lv_at hl 1 rfl) ?_
    refine lv_aload_n hx hb dX3_has_5 rfl (lv_at hl 0 rfl) ?_
    refine x_get (w := (wX G B tt)) (a := ρ) (v := .int (x (ρ) 1)) hx hb hts iX3_has_X3 hown hK hX (rg_lt hρ) (shX_ri (G := G) (B := B) hρ) rfl 1 (by decide) (hts _ kX3_has_18) (fun _ h9 => h9) rfl dX3_has_6 ?_
    refine lv_icmp_ge (tgt := 16) hx hb dX3_has_9 (by decide) (fun c_6 => ?_) (fun c_6 => ?_)
    · refine lv_iconst (v := 0) hx hb dX3_has_16 (by decide) ?_
      exact kJ_3 (false) (by rw [if_neg c_1, if_pos c_6]) _ _ hX hS ls (lv_sub hl [0, 1] rfl)
    · refine lv_iconst (v := 1) hx hb dX3_has_12 (by decide) ?_
      refine lv_goto (tgt := 17) hx hb dX3_has_13 (by decide) ?_
      exact kJ_3 (true) (by rw [if_neg c_1, if_neg c_6]) _ _ hX hS ls (lv_sub hl [0, 1] rfl)
