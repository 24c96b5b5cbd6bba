theorem kX5_append_9 : (.fieldLink RX5 9 "WindTaken$Tape" "bytes" "[B" : Cond) ∈ wsX5_append := by decide +kernel
theorem iX5_append_X5 : ∀ w ∈ wsX50, w ∈ wsX5_append := by decide +kernel
theorem kX5_append_15 : (.fieldLink RX5 15 "WindTaken$Tape" "length" "I" : Cond) ∈ wsX5_append := by decide +kernel
abbrev rmX5_append : Room := { frames := 0, cells := 0, slots := 0, locals := 0 }
set_option maxHeartbeats 4000000 in
set_option maxRecDepth 100000 in
theorem c_X5_append (l : Launch) (G : GG) (B : Nat) (tt : Nat → Nat) (hW : WOK (wX G B tt)) (x : Mem) (w : Int64) {n : Nat} {t : Nat} (ht9 : x 3 1 = nI t) (htn : t + n ≤ 400) : Met l yX5_append wsX5_append rmX5_append (XP G (wX G B tt) [.ref (B + (3)), .long (w), .int (nI n)] x) (va_Qv (fun u => u = apT w n t x) (XB G (wX G B tt)) (blkA B (B + 117))) 0 0 (blkA B (B + 117)) := by
  refine Met.ofW (cc := cX5_append) (maxL := 5) (ret := none) (by decide) rfl ?_
  intro pp ee ss mm aa bb mt cd s1 Bd hml hv
  obtain ⟨hae, hX, hK, hE⟩ := hv
  have hx := Bd.exec
  have hb := Bd.bytes
  have hr := Bd.returns
  have hts := atoms_spec (ws := wsX5_append) Bd.pre
  have hown : ss.vm.findClass RX5 = some mm.cls := findClass_of_methodNamed Bd.named
  have hlocks := Bd.notSynchronized
  have hS : va_S (blkA B (B + 117)) ss.heap ss.heap [] := va_S.rf
  have hl := lv_entry ([.ref (B + (3)), .long (w), .int (nI n)]) (n := 5) (Nat.le_of_ble_eq_true rfl)
  subst hae
  rw [lg_entry_eq]
  generalize (lg_sl ([.ref (B + (3)), .long (w), .int (nI n)]) ++ List.replicate (5 - (lg_sl ([.ref (B + (3)), .long (w), .int (nI n)])).length) Slot.unset).toArray = ls at hl ⊢
  have hl : lv_has ls 5 [(0, .ref (B + (3))), (1, .long (w)), (3, .int (nI n))] := hl
  generalize ([.ref (B + (3)), .long (w), .int (nI n)] : List Value).toArray = aa at hts ⊢
  show W pp l ee rmX5_append ss mm aa bb mt cd ss.heap [] 0 0 _ (F0 mm 0 ls [])
  generalize hQ : MQ bb (va_Qv (fun u => u = apT w n t x) (XB G (wX G B tt)) (blkA B (B + 117))) aa ss 0 0 (blkA B (B + 117)) = Q
  refine lv_iload_n hx hb dX5_append_0 rfl (lv_at hl 2 rfl) ?_
  refine lv_iconst (v := 1) hx hb dX5_append_1 (by decide) ?_
  refine lv_isub hx hb dX5_append_2 ?_
  refine lv_istore (lv' := [(4, .int (nI n - 1)), (0, .ref (B + (3))), (1, .long (w)), (3, .int (nI n))]) hx hb dX5_append_3 hl (by decide) rfl (fun ls hl => ?_)
  have L_1 : ∀ (n9 : Nat) (i : Int32) (k : Nat) (u : Mem) (_ : n9 = k) (_ : i = nI k - 1 ∧ k ≤ n ∧ u 3 1 = nI (t + (n - k)) ∧ apT w k (t + (n - k)) u = apT w n t x) (H_2 : Heap) (lo_3 : List Loc) (_ : MR G (wX G B tt) u H_2) (_ : va_S (blkA B (B + 117)) ss.heap H_2 lo_3) (ls : Array Slot) (_ : lv_has ls 5 [(4, .int (i)), (0, .ref (B + (3))), (1, .long (w)), (3, .int (nI n))]), W pp l ee rmX5_append ss mm aa bb mt cd H_2 lo_3 0 0 Q (F0 mm 5 ls []) := by
    intro n9
    induction n9 using Nat.strongRecOn with
    | _ n9 ih => 
      have ih_5 := ih
      intro i k u hn9 hI H_2 lo_3 hX hS ls hl
      obtain ⟨hi, hkn, hul, hu⟩ := hI
      refine lv_iload hx hb dX5_append_5 (lv_at hl 0 rfl) ?_
      refine lv_if_lt (tgt := 44) hx hb dX5_append_7 (by decide) (fun c_4 => ?_) (fun c_4 => ?_)
      · have hk0 := pred_neg hi (by omega) c_4
        subst hk0
        rw [← hQ]
        refine x_vret hx hb hr hX hS hlocks dX5_append_44 ?_
        exact hu
      · obtain ⟨k, rfl, rfl⟩ := pred_pos hi c_4
        refine lv_aload_n hx hb dX5_append_10 rfl (lv_at hl 1 rfl) ?_
        refine x_get (w := (wX G B tt)) (a := 3) (v := .ref (B + (4))) hx hb hts iX5_append_X5 hown hK hX (Nat.le_of_ble_eq_true rfl) (shX_tp (G := G) (B := B)) rfl 0 (by decide) (hts _ kX5_append_9) (fun _ h9 => h9) rfl dX5_append_11 ?_
        refine lv_aload_n hx hb dX5_append_14 rfl (lv_at hl 1 rfl) ?_
        refine x_get (w := (wX G B tt)) (a := 3) (v := .int (u (3) 1)) hx hb hts iX5_append_X5 hown hK hX (Nat.le_of_ble_eq_true rfl) (shX_tp (G := G) (B := B)) rfl 1 (by decide) (hts _ kX5_append_15) (fun _ h9 => h9) rfl dX5_append_15 ?_
        refine lv_lload_n hx hb dX5_append_18 rfl (lv_at hl 2 rfl) ?_
        refine lv_bipush (v := 8) hx hb dX5_append_19 (by decide) ?_
        refine lv_iload hx hb dX5_append_21 (lv_at hl 0 rfl) ?_
        refine lv_imul hx hb dX5_append_23 ?_
        refine lv_lshr (v := w >>> ((8 * nI k : Int32).toInt64 &&& 63)) hx hb dX5_append_24 rfl ?_
        refine lv_l2i (v := (w >>> ((8 * nI k : Int32).toInt64 &&& 63) : Int64).toInt32) hx hb dX5_append_25 rfl ?_
        refine lv_i2b (v := ((w >>> ((8 * nI k : Int32).toInt64 &&& 63) : Int64).toInt32 : Int32).toInt8.toInt32) hx hb dX5_append_26 rfl ?_
        refine x_bast (w := (wX G B tt)) (a := 4) (n := 400) (j := t + (n - (k + 1))) hx hb hK hW hX hS (Nat.le_of_ble_eq_true rfl) (fun f => (shX_tb (G := G) (B := B) (f := f))) hul (by omega) (by decide) dX5_append_27 (fun H_6 lo_7 hX hS => ?_)
        obtain ⟨x_5, ex_5⟩ : ∃ z, z = mst u (4) (t + (n - (k + 1))) ((((w >>> ((8 * nI k : Int32).toInt64 &&& 63) : Int64).toInt32 : Int32).toInt8.toInt32 : Int32).toInt8.toInt32) := ⟨_, rfl⟩
        rw [← ex_5] at hX
        have z_8 : x_5 (3) 1 = nI (t + (n - (k + 1))) := by rw [ex_5, mst_ne (by first | decide | omega)]; exact hul
        refine lv_aload_n hx hb dX5_append_28 rfl (lv_at hl 1 rfl) ?_
        refine lv_dup hx hb dX5_append_29 rfl ?_
        refine x_get (w := (wX G B tt)) (a := 3) (v := .int (x_5 (3) 1)) hx hb hts iX5_append_X5 hown hK hX (Nat.le_of_ble_eq_true rfl) (shX_tp (G := G) (B := B)) rfl 1 (by decide) (hts _ kX5_append_15) (fun _ h9 => h9) rfl dX5_append_30 ?_
        refine lv_iconst (v := 1) hx hb dX5_append_33 (by decide) ?_
        refine lv_iadd hx hb dX5_append_34 ?_
        refine x_put (w := (wX G B tt)) (a := 3) (v := (x_5 (3) 1) + 1) (ty := .int) hx hb hts iX5_append_X5 tyX5 tyX5_ok nmX5 hown hK hW hX hS (Nat.le_of_ble_eq_true rfl) (shX_tp (G := G) (B := B)) rfl 1 (by decide) (hts _ kX5_append_15) (fun _ h9 => h9) rfl (by decide +kernel) rfl rfl (Nat.le_of_ble_eq_true rfl) (shX_tp (G := G) (B := B)) dX5_append_35 (fun H_10 lo_11 hX hS => ?_)
        obtain ⟨x_9, ex_9⟩ : ∃ z, z = mst x_5 (3) 1 ((x_5 (3) 1) + 1) := ⟨_, rfl⟩
        rw [← ex_9] at hX
        have z_13 : x_9 (3) 1 = nI (t + (n - (k + 1)) + 1) := by rw [ex_9, mst_self]; first | done | exact (n_add z_8 rfl)
        refine lv_iinc (v := nI k + Int32.ofInt (-1)) (lv' := [(4, .int (nI k + Int32.ofInt (-1))), (0, .ref (B + (3))), (1, .long (w)), (3, .int (nI n))]) hx hb dX5_append_38 hl (k := 0) rfl rfl (by decide) rfl (fun ls hl => ?_)
        refine lv_goto (tgt := 5) hx hb dX5_append_41 (by decide) ?_
        have hl9 : x_5 3 1 = nI (t + (n - (k + 1))) := by rw [ex_5, mst_ne (by decide)]; exact hul
        have hT : t + (n - k) = t + (n - (k + 1)) + 1 := by omega
        exact ih_5 _ (by omega) (nI k + Int32.ofInt (-1)) (k) (x_9) rfl ⟨add_m1 _, by omega, by rw [ex_9, mst_self, hl9, hT]; exact n_add rfl rfl, by rw [← hu, hT, ex_9, hl9, n_add (y := 1) (b := 1) rfl rfl, ex_5, apT]; exact congrArg (fun z => apT w k _ (mst (mst u 4 _ z) 3 1 _)) rfl⟩ _ _ hX hS ls (lv_sub hl [0, 1, 2, 3] rfl)
  exact L_1 _ (nI n - 1) (n) (x) rfl ⟨rfl, Nat.le_refl n, by rw [Nat.sub_self]; exact ht9, by rw [Nat.sub_self]; rfl⟩ _ _ hX hS ls (lv_sub hl [0, 1, 2, 3] rfl)

def PT_X7_feed (x : Mem) (w : Int64) (n : Int32) (t : Nat) (r : Int32) (u : Mem) : Prop := (if (decide (((1 : Int32)) ≤ n) && decide (n ≤ ((8 : Int32)))) = true then (if ((x (3) 1) + n) ≤ 400 then (r = nI (t + tn n) ∧ u = apT w (tn n) t x) else (r = (-1000003) ∧ u = x)) else (r = (-1000001) ∧ u = x))
theorem kX7_feed_18 : (.fieldLink RX7 18 "WindTaken" "reader" "LWindTaken$Reader;" : Cond) ∈ wsX7_feed := by decide +kernel
theorem iX7_feed_X7 : ∀ w ∈ wsX70, w ∈ wsX7_feed := by decide +kernel
theorem kX7_feed_100 : (.fieldLink RX7 100 "WindTaken$Reader" "tape" "LWindTaken$Tape;" : Cond) ∈ wsX7_feed := by decide +kernel
theorem iX7_feed_X2 : ∀ w ∈ wsX20, w ∈ wsX7_feed := by decide +kernel
theorem kX7_feed_104 : (.fieldLink RX7 104 "WindTaken$Tape" "length" "I" : Cond) ∈ wsX7_feed := by decide +kernel
theorem iX7_feed_X5 : ∀ w ∈ wsX50, w ∈ wsX7_feed := by decide +kernel
theorem kX7_feed_109 : (.constant RX7 109 (-1000003) : Cond) ∈ wsX7_feed := by decide +kernel
theorem kX7_feed_59 : (.constant RX7 59 (-1000001) : Cond) ∈ wsX7_feed := by decide +kernel
abbrev rmX7_feed : Room := { frames := 1, cells := 0, slots := 0, locals := 24 }
set_option maxHeartbeats 4000000 in
set_option maxRecDepth 100000 in
theorem c_X7_feed (l : Launch) (G : GG) (B : Nat) (tt : Nat → Nat) (hW : WOK (wX G B tt)) (x : Mem) (w : Int64) (n : Int32) {t : Nat} (ht9 : x 3 1 = nI t) (ht400 : t ≤ 400) : Met l yX7_feed wsX7_feed rmX7_feed (XP G (wX G B tt) [.ref (B + (0)), .long (w), .int (n)] x) (va_Qi (fun r u => PT_X7_feed x w n t r u) (XB G (wX G B tt)) (blkA B (B + 117))) 0 0 (blkA B (B + 117)) := by
  refine Met.ofW (cc := cX7_feed) (maxL := 4) (ret := (some .int)) (by decide) rfl ?_
  intro pp ee ss mm aa bb mt cd s1 Bd hml hv
  obtain ⟨hae, hX, hK, hE⟩ := hv
  have hx := Bd.exec
  have hb := Bd.bytes
  have hr := Bd.returns
  have hts := atoms_spec (ws := wsX7_feed) Bd.pre
  have hown : ss.vm.findClass RX7 = some mm.cls := findClass_of_methodNamed Bd.named
  have hlocks := Bd.notSynchronized
  have hS : va_S (blkA B (B + 117)) ss.heap ss.heap [] := va_S.rf
  have hl := lv_entry ([.ref (B + (0)), .long (w), .int (n)]) (n := 4) (Nat.le_of_ble_eq_true rfl)
  subst hae
  rw [lg_entry_eq]
  generalize (lg_sl ([.ref (B + (0)), .long (w), .int (n)]) ++ List.replicate (4 - (lg_sl ([.ref (B + (0)), .long (w), .int (n)])).length) Slot.unset).toArray = ls at hl ⊢
  have hl : lv_has ls 4 [(0, .ref (B + (0))), (1, .long (w)), (3, .int (n))] := hl
  generalize ([.ref (B + (0)), .long (w), .int (n)] : List Value).toArray = aa at hts ⊢
  show W pp l ee rmX7_feed ss mm aa bb mt cd ss.heap [] 0 0 _ (F0 mm 0 ls [])
  generalize hQ : MQ bb (va_Qi (fun r u => PT_X7_feed x w n t r u) (XB G (wX G B tt)) (blkA B (B + 117))) aa ss 0 0 (blkA B (B + 117)) = Q
  refine lv_iload_n hx hb dX7_feed_0 rfl (lv_at hl 2 rfl) ?_
  refine lv_iconst (v := 1) hx hb dX7_feed_1 (by decide) ?_
  refine lv_bipush (v := 8) hx hb dX7_feed_2 (by decide) ?_
  refine x_ip (w := (wX G B tt)) (x := x) (v := bI (decide (((1 : Int32)) ≤ n) && decide (n ≤ ((8 : Int32))))) (va_runS (As := [.int (n), .int (1), .int (8)]) (rest := []) ⟨hx, hb, hml, hown, hts⟩ (c_X7_isWithin (l := l) (G := G) (B := B) (tt := tt) (hW := hW) (x := x) (v := n) (lo := 1) (hi := 8)) (va_cwS 3 hts gX7_feed_X7_isWithin rfl rfl rfl (by decide +kernel) ⟨Nat.le_of_ble_eq_true rfl, Nat.le_of_ble_eq_true rfl⟩) (x_ps (w := (wX G B tt)) hW hX hK hE hS [.int (n), .int (1), .int (8)]) rfl rfl hl.1 rfl (lv_room (Nat.le_of_ble_eq_true rfl)) dX7_feed_4 ⟨Nat.zero_le _, Nat.zero_le _⟩) hS (fun H_1 lo_2 hX hS => ?_)
  refine x_ifne (tgt := 13) hx hb dX7_feed_7 (by decide) (fun c_3 => ?_) (fun c_3 => ?_)
  · obtain ⟨hne, hn1, hn8⟩ := within1 (k := 8) rfl (by decide) c_3
    refine lv_aload_n hx hb dX7_feed_13 rfl (lv_at hl 0 rfl) ?_
    refine x_get (w := (wX G B tt)) (a := 0) (v := .ref (B + (2))) hx hb hts iX7_feed_X7 hown hK hX (Nat.le_of_ble_eq_true rfl) (shX_mn (G := G) (B := B)) rfl 1 (by decide) (hts _ kX7_feed_18) (fun _ h9 => h9) rfl dX7_feed_14 ?_
    refine x_get (w := (wX G B tt)) (a := 2) (v := .ref (B + (3))) hx hb hts iX7_feed_X2 hown hK hX (Nat.le_of_ble_eq_true rfl) (shX_rd (G := G) (B := B)) rfl 0 (by decide) (hts _ kX7_feed_100) (fun _ h9 => h9) rfl dX7_feed_17 ?_
    refine x_get (w := (wX G B tt)) (a := 3) (v := .int (x (3) 1)) hx hb hts iX7_feed_X5 hown hK hX (Nat.le_of_ble_eq_true rfl) (shX_tp (G := G) (B := B)) rfl 1 (by decide) (hts _ kX7_feed_104) (fun _ h9 => h9) rfl dX7_feed_20 ?_
    refine lv_iload_n hx hb dX7_feed_23 rfl (lv_at hl 2 rfl) ?_
    refine lv_iadd hx hb dX7_feed_24 ?_
    refine lv_sipush (v := 400) hx hb dX7_feed_25 (by decide) ?_
    refine lv_icmp_le (tgt := 34) hx hb dX7_feed_28 (by decide) (fun c_4 => ?_) (fun c_4 => ?_)
    · have nc_4 := (n_le (a := t + (tn n)) (b := 400) (n_add ht9 hne) rfl (by omega) (by omega)).mp c_4
      refine lv_aload_n hx hb dX7_feed_34 rfl (lv_at hl 0 rfl) ?_
      refine x_get (w := (wX G B tt)) (a := 0) (v := .ref (B + (2))) hx hb hts iX7_feed_X7 hown hK hX (Nat.le_of_ble_eq_true rfl) (shX_mn (G := G) (B := B)) rfl 1 (by decide) (hts _ kX7_feed_18) (fun _ h9 => h9) rfl dX7_feed_35 ?_
      refine x_get (w := (wX G B tt)) (a := 2) (v := .ref (B + (3))) hx hb hts iX7_feed_X2 hown hK hX (Nat.le_of_ble_eq_true rfl) (shX_rd (G := G) (B := B)) rfl 0 (by decide) (hts _ kX7_feed_100) (fun _ h9 => h9) rfl dX7_feed_38 ?_
      refine lv_lload_n hx hb dX7_feed_41 rfl (lv_at hl 1 rfl) ?_
      refine lv_iload_n hx hb dX7_feed_42 rfl (lv_at hl 2 rfl) ?_
      refine W.eq (g2 := F0 mm 43 ls [.int (nI (tn n)), .long (w), .ref (B + (3))]) (congrArg (fun z9 : Int32 => F0 mm 43 ls [.int (z9), .long (w), .ref (B + (3))]) hne) ?_
      refine x_vf (w := (wX G B tt)) (va_runV (As := [.long (w), .int (nI (tn n))]) (rest := []) ⟨hx, hb, hml, hown, hts⟩ (c_X5_append (l := l) (G := G) (B := B) (tt := tt) (hW := hW) (x := x) (w := w) (n := tn n) (t := t) (ht9 := ht9) (htn := (by omega))) (cwV 2 hts gX7_feed_X5_append rfl rfl rfl (by decide +kernel) ⟨Nat.le_of_ble_eq_true rfl, Nat.le_of_ble_eq_true rfl⟩) (x_pv (w := (wX G B tt)) (a := 3) hW hX hK hE hS [.long (w), .int (nI (tn n))] (Nat.le_of_ble_eq_true rfl) (shX_tp (G := G) (B := B)) rfl) rfl rfl hl.1 rfl (lv_room (Nat.le_of_ble_eq_true rfl)) dX7_feed_43 ⟨Nat.zero_le _, Nat.zero_le _⟩) hS (fun x_7 H_5 lo_6 h_43 hX hS => ?_)
      try dsimp only at h_43
      refine lv_aload_n hx hb dX7_feed_46 rfl (lv_at hl 0 rfl) ?_
      refine x_get (w := (wX G B tt)) (a := 0) (v := .ref (B + (2))) hx hb hts iX7_feed_X7 hown hK hX (Nat.le_of_ble_eq_true rfl) (shX_mn (G := G) (B := B)) rfl 1 (by decide) (hts _ kX7_feed_18) (fun _ h9 => h9) rfl dX7_feed_47 ?_
      refine x_get (w := (wX G B tt)) (a := 2) (v := .ref (B + (3))) hx hb hts iX7_feed_X2 hown hK hX (Nat.le_of_ble_eq_true rfl) (shX_rd (G := G) (B := B)) rfl 0 (by decide) (hts _ kX7_feed_100) (fun _ h9 => h9) rfl dX7_feed_50 ?_
      refine x_get (w := (wX G B tt)) (a := 3) (v := .int (x_7 (3) 1)) hx hb hts iX7_feed_X5 hown hK hX (Nat.le_of_ble_eq_true rfl) (shX_tp (G := G) (B := B)) rfl 1 (by decide) (hts _ kX7_feed_104) (fun _ h9 => h9) rfl dX7_feed_53 ?_
      rw [← hQ]
      refine x_iret (v := x_7 (3) 1) hx hb hr hX hS hlocks dX7_feed_56 ?_
      show PT_X7_feed _ _ _ _ _ _
      unfold PT_X7_feed
      rw [if_pos c_3, if_pos c_4]
      exact ⟨by rw [h_43]; exact apT_len w (tn n) t x ht9, h_43⟩
    · have nc_4 := Nat.not_le.mp (fun q => c_4 ((n_le (a := t + (tn n)) (b := 400) (n_add ht9 hne) rfl (by omega) (by omega)).mpr q))
      refine lv_ldc (v := (-1000003)) hx hb hown (hts _ kX7_feed_109) dX7_feed_31 ?_
      rw [← hQ]
      refine x_iret (v := (-1000003)) hx hb hr hX hS hlocks dX7_feed_33 ?_
      show PT_X7_feed _ _ _ _ _ _
      unfold PT_X7_feed
      rw [if_pos c_3, if_neg c_4]
      exact ⟨rfl, rfl⟩
  · refine lv_ldc (v := (-1000001)) hx hb hown (hts _ kX7_feed_59) dX7_feed_10 ?_
    rw [← hQ]
    refine x_iret (v := (-1000001)) hx hb hr hX hS hlocks dX7_feed_12 ?_
    show PT_X7_feed _ _ _ _ _ _
    unfold PT_X7_feed
    rw [if_neg (ne_of_false c_3)]
    exact ⟨rfl, rfl⟩
