theorem kX8_byteAt_82 : (.fieldLink RX8 82 "WindTakenModel" "tapeLong" "I" : Cond) ∈ wsX8_byteAt := by decide +kernel
theorem iX8_byteAt_X8 : ∀ w ∈ wsX80, w ∈ wsX8_byteAt := by decide +kernel
theorem kX8_byteAt_19 : (.fieldLink RX8 19 "WindTakenModel" "tape" "[I" : Cond) ∈ wsX8_byteAt := by decide +kernel
abbrev rmX8_byteAt : Room := { frames := 0, cells := 0, slots := 0, locals := 0 }
set_option maxHeartbeats 4000000 in
set_option maxRecDepth 100000 in
theorem c_X8_byteAt (l : Launch) (G : GG) (B : Nat) (hW : WOK (wM G B)) (x : Mem) {k9 : Nat} {t : Nat} (ht9 : x 0 4 = nI t) (ht400 : t ≤ 400) (hk400 : k9 ≤ 400) : Met l yX8_byteAt wsX8_byteAt rmX8_byteAt (XP G (wM G B) [.ref (B + (0)), .int (nI k9)] x) (va_Qi (fun r u => r = (bA (x 4) t k9) ∧ u = x) (XB G (wM G B)) (blkA B (B + 13))) 0 0 (blkA B (B + 13)) := by
  refine Met.ofW (cc := cX8_byteAt) (maxL := 2) (ret := (some .int)) (by decide) rfl ?_
  intro pp ee ss mm aa bb mt cd s1 Bd hml hv
  obtain ⟨hae, hX, hK, hE⟩ := hv
  have hx := Bd.exec
  have hb := Bd.bytes
  have hr := Bd.returns
  have hts := atoms_spec (ws := wsX8_byteAt) Bd.pre
  have hown : ss.vm.findClass RX8 = some mm.cls := findClass_of_methodNamed Bd.named
  have hlocks := Bd.notSynchronized
  have hS : va_S (blkA B (B + 13)) ss.heap ss.heap [] := va_S.rf
  have hl := lv_entry ([.ref (B + (0)), .int (nI k9)]) (n := 2) (Nat.le_of_ble_eq_true rfl)
  subst hae
  rw [lg_entry_eq]
  generalize (lg_sl ([.ref (B + (0)), .int (nI k9)]) ++ List.replicate (2 - (lg_sl ([.ref (B + (0)), .int (nI k9)])).length) Slot.unset).toArray = ls at hl ⊢
  have hl : lv_has ls 2 [(0, .ref (B + (0))), (1, .int (nI k9))] := hl
  generalize ([.ref (B + (0)), .int (nI k9)] : List Value).toArray = aa at hts ⊢
  show W pp l ee rmX8_byteAt ss mm aa bb mt cd ss.heap [] 0 0 _ (F0 mm 0 ls [])
  generalize hQ : MQ bb (va_Qi (fun r u => r = (bA (x 4) t k9) ∧ u = x) (XB G (wM G B)) (blkA B (B + 13))) aa ss 0 0 (blkA B (B + 13)) = Q
  refine lv_iload_n hx hb dX8_byteAt_0 rfl (lv_at hl 1 rfl) ?_
  refine lv_aload_n hx hb dX8_byteAt_1 rfl (lv_at hl 0 rfl) ?_
  refine x_get (w := (wM G B)) (a := 0) (v := .int (x (0) 4)) hx hb hts iX8_byteAt_X8 hown hK hX (Nat.le_of_ble_eq_true rfl) (shM_0 (G := G) (B := B)) rfl 4 (by decide) (hts _ kX8_byteAt_82) (fun _ h9 => h9) rfl dX8_byteAt_2 ?_
  refine lv_icmp_ge (tgt := 17) hx hb dX8_byteAt_5 (by decide) (fun c_1 => ?_) (fun c_1 => ?_)
  · have nc_1 := (n_le (a := t) (b := k9) ht9 rfl (by omega) (by omega)).mp c_1
    refine lv_iconst (v := 0) hx hb dX8_byteAt_17 (by decide) ?_
    rw [← hQ]
    refine x_iret (v := 0) hx hb hr hX hS hlocks dX8_byteAt_18 ?_
    refine ⟨?_, rfl⟩
    unfold bA
    first | (rw [if_pos (by omega)]; done) | (rw [if_neg (by omega)]; done)
  · have nc_1 := Nat.not_le.mp (fun q => c_1 ((n_le (a := t) (b := k9) ht9 rfl (by omega) (by omega)).mpr q))
    refine lv_aload_n hx hb dX8_byteAt_8 rfl (lv_at hl 0 rfl) ?_
    refine x_get (w := (wM G B)) (a := 0) (v := .ref (B + (4))) hx hb hts iX8_byteAt_X8 hown hK hX (Nat.le_of_ble_eq_true rfl) (shM_0 (G := G) (B := B)) rfl 5 (by decide) (hts _ kX8_byteAt_19) (fun _ h9 => h9) rfl dX8_byteAt_9 ?_
    refine lv_iload_n hx hb dX8_byteAt_12 rfl (lv_at hl 1 rfl) ?_
    refine x_iald (w := (wM G B)) (a := 4) (n := 400) (j := k9) hx hb hK hX (Nat.le_of_ble_eq_true rfl) (shM_a (G := G) (B := B) (a := 4) (f := x (4)) (by decide)) rfl (by omega) (by decide) dX8_byteAt_13 ?_
    refine lv_goto (tgt := 18) hx hb dX8_byteAt_14 (by decide) ?_
    rw [← hQ]
    refine x_iret (v := x (4) k9) hx hb hr hX hS hlocks dX8_byteAt_18 ?_
    refine ⟨?_, rfl⟩
    unfold bA
    first | (rw [if_pos (by omega)]; done) | (rw [if_neg (by omega)]; done)

def PT_X8_feed (x : Mem) (w : Int64) (n : Int32) (t : Nat) (r : Int32) (u : Mem) : Prop := (if (decide (((1 : Int32)) ≤ ((n : Int32))) && decide (((n : Int32)) ≤ ((8 : Int32)))) = true then (if ((x (0) 4) + n) ≤ 400 then (r = nI (t + tn n) ∧ u = apY w (tn n) t x) else (r = (-1000003) ∧ u = x)) else (r = (-1000001) ∧ u = x))
theorem kX8_feed_80 : (.constantLong RX8 80 (8) : Cond) ∈ wsX8_feed := by decide +kernel
theorem kX8_feed_82 : (.fieldLink RX8 82 "WindTakenModel" "tapeLong" "I" : Cond) ∈ wsX8_feed := by decide +kernel
theorem iX8_feed_X8 : ∀ w ∈ wsX80, w ∈ wsX8_feed := by decide +kernel
theorem kX8_feed_19 : (.fieldLink RX8 19 "WindTakenModel" "tape" "[I" : Cond) ∈ wsX8_feed := by decide +kernel
theorem kX8_feed_86 : (.constantLong RX8 86 (255) : Cond) ∈ wsX8_feed := by decide +kernel
theorem kX8_feed_85 : (.constant RX8 85 (-1000003) : Cond) ∈ wsX8_feed := by decide +kernel
theorem kX8_feed_63 : (.constant RX8 63 (-1000001) : Cond) ∈ wsX8_feed := by decide +kernel
abbrev rmX8_feed : Room := { frames := 1, cells := 0, slots := 0, locals := 25 }
set_option maxHeartbeats 4000000 in
set_option maxRecDepth 100000 in
theorem c_X8_feed (l : Launch) (G : GG) (B : Nat) (hW : WOK (wM G B)) (x : Mem) (w : Int64) (n : Int32) {t : Nat} (ht9 : x 0 4 = nI t) (ht400 : t ≤ 400) : Met l yX8_feed wsX8_feed rmX8_feed (XP G (wM G B) [.ref (B + (0)), .long (w), .int (n)] x) (va_Qi (fun r u => PT_X8_feed x w n t r u) (XB G (wM G B)) (blkA B (B + 13))) 0 0 (blkA B (B + 13)) := by
  refine Met.ofW (cc := cX8_feed) (maxL := 5) (ret := (some .int)) (by decide) rfl ?_
  intro pp ee ss mm aa bb mt cd s1 Bd hml hv
  obtain ⟨hae, hX, hK, hE⟩ := hv
  have hx := Bd.exec
  have hb := Bd.bytes
  have hr := Bd.returns
  have hts := atoms_spec (ws := wsX8_feed) Bd.pre
  have hown : ss.vm.findClass RX8 = some mm.cls := findClass_of_methodNamed Bd.named
  have hlocks := Bd.notSynchronized
  have hS : va_S (blkA B (B + 13)) ss.heap ss.heap [] := va_S.rf
  have hl := lv_entry ([.ref (B + (0)), .long (w), .int (n)]) (n := 5) (Nat.le_of_ble_eq_true rfl)
  subst hae
  rw [lg_entry_eq]
  generalize (lg_sl ([.ref (B + (0)), .long (w), .int (n)]) ++ List.replicate (5 - (lg_sl ([.ref (B + (0)), .long (w), .int (n)])).length) Slot.unset).toArray = ls at hl ⊢
  have hl : lv_has ls 5 [(0, .ref (B + (0))), (1, .long (w)), (3, .int (n))] := hl
  generalize ([.ref (B + (0)), .long (w), .int (n)] : List Value).toArray = aa at hts ⊢
  show W pp l ee rmX8_feed ss mm aa bb mt cd ss.heap [] 0 0 _ (F0 mm 0 ls [])
  generalize hQ : MQ bb (va_Qi (fun r u => PT_X8_feed x w n t r u) (XB G (wM G B)) (blkA B (B + 13))) aa ss 0 0 (blkA B (B + 13)) = Q
  refine lv_iload_n hx hb dX8_feed_0 rfl (lv_at hl 2 rfl) ?_
  refine lv_i2l (v := (n : Int32).toInt64) hx hb dX8_feed_1 rfl ?_
  refine lv_lconst (v := 1) hx hb dX8_feed_2 (by decide) ?_
  refine lv_ldc2 (v := 8) hx hb hown (hts _ kX8_feed_80) dX8_feed_3 ?_
  refine x_ip (w := (wM G B)) (x := x) (v := bI (decide (((1 : Int32)) ≤ ((n : Int32))) && decide (((n : Int32)) ≤ ((8 : Int32))))) (va_runS (As := [.long ((n : Int32).toInt64), .long (1), .long (8)]) (rest := []) ⟨hx, hb, hml, hown, hts⟩ (c_X8_in (l := l) (G := G) (B := B) (hW := hW) (x := x) (va := (n : Int32).toInt64) (vb := 1) (vc := 8) (v1 := (n : Int32)) (lo1 := (1 : Int32)) (hi1 := (8 : Int32)) (hv := (by first | rfl | decide)) (hlo := (by first | rfl | decide)) (hhi := (by first | rfl | decide))) (va_cwS 3 hts gX8_feed_X8_in rfl rfl rfl (by decide +kernel) ⟨Nat.le_of_ble_eq_true rfl, Nat.le_of_ble_eq_true rfl⟩) (x_ps (w := (wM G B)) hW hX hK hE hS [.long ((n : Int32).toInt64), .long (1), .long (8)]) rfl rfl hl.1 rfl (lv_room (Nat.le_of_ble_eq_true rfl)) dX8_feed_6 ⟨Nat.zero_le _, Nat.zero_le _⟩) hS (fun H_1 lo_2 hX hS => ?_)
  refine x_ifne (tgt := 15) hx hb dX8_feed_9 (by decide) (fun c_3 => ?_) (fun c_3 => ?_)
  · obtain ⟨hne, hn1, hn8⟩ := within1 (k := 8) rfl (by decide) c_3
    refine lv_aload_n hx hb dX8_feed_15 rfl (lv_at hl 0 rfl) ?_
    refine x_get (w := (wM G B)) (a := 0) (v := .int (x (0) 4)) hx hb hts iX8_feed_X8 hown hK hX (Nat.le_of_ble_eq_true rfl) (shM_0 (G := G) (B := B)) rfl 4 (by decide) (hts _ kX8_feed_82) (fun _ h9 => h9) rfl dX8_feed_16 ?_
    refine lv_iload_n hx hb dX8_feed_19 rfl (lv_at hl 2 rfl) ?_
    refine lv_iadd hx hb dX8_feed_20 ?_
    refine lv_sipush (v := 400) hx hb dX8_feed_21 (by decide) ?_
    refine lv_icmp_le (tgt := 30) hx hb dX8_feed_24 (by decide) (fun c_4 => ?_) (fun c_4 => ?_)
    · have nc_4 := (n_le (a := t + (tn n)) (b := 400) (n_add ht9 hne) rfl (by omega) (by omega)).mp c_4
      refine lv_iload_n hx hb dX8_feed_30 rfl (lv_at hl 2 rfl) ?_
      refine lv_iconst (v := 1) hx hb dX8_feed_31 (by decide) ?_
      refine lv_isub hx hb dX8_feed_32 ?_
      refine lv_istore (lv' := [(4, .int (n - 1)), (0, .ref (B + (0))), (1, .long (w)), (3, .int (n))]) hx hb dX8_feed_33 hl (by decide) rfl (fun ls hl => ?_)
      have L_5 : ∀ (n9 : Nat) (i : Int32) (k : Nat) (u : Mem) (_ : n9 = k) (_ : i = nI k - 1 ∧ k ≤ tn n ∧ u 0 4 = nI (t + (tn n - k)) ∧ apY w k (t + (tn n - k)) u = apY w (tn n) t x) (H_6 : Heap) (lo_7 : List Loc) (_ : MR G (wM G B) u H_6) (_ : va_S (blkA B (B + 13)) ss.heap H_6 lo_7) (ls : Array Slot) (_ : lv_has ls 5 [(4, .int (i)), (0, .ref (B + (0))), (1, .long (w)), (3, .int (n))]), W pp l ee rmX8_feed ss mm aa bb mt cd H_6 lo_7 0 0 Q (F0 mm 35 ls []) := by
        intro n9
        induction n9 using Nat.strongRecOn with
        | _ n9 ih => 
          have ih_35 := ih
          intro i k u hn9 hI H_6 lo_7 hX hS ls hl
          obtain ⟨hi, hkn, hul, hu⟩ := hI
          refine lv_iload hx hb dX8_feed_35 (lv_at hl 0 rfl) ?_
          refine lv_if_lt (tgt := 77) hx hb dX8_feed_37 (by decide) (fun c_8 => ?_) (fun c_8 => ?_)
          · have hk0 := pred_neg hi (by omega) c_8
            subst hk0
            refine lv_aload_n hx hb dX8_feed_77 rfl (lv_at hl 1 rfl) ?_
            refine x_get (w := (wM G B)) (a := 0) (v := .int (u (0) 4)) hx hb hts iX8_feed_X8 hown hK hX (Nat.le_of_ble_eq_true rfl) (shM_0 (G := G) (B := B)) rfl 4 (by decide) (hts _ kX8_feed_82) (fun _ h9 => h9) rfl dX8_feed_78 ?_
            rw [← hQ]
            refine x_iret (v := u (0) 4) hx hb hr hX hS hlocks dX8_feed_81 ?_
            show PT_X8_feed _ _ _ _ _ _
            unfold PT_X8_feed
            rw [if_pos c_3, if_pos c_4]
            have hu9 : u = apY w (tn n) t x := hu
            exact ⟨by rw [hu9]; exact apY_len w (tn n) t x ht9, hu9⟩
          · obtain ⟨k, rfl, rfl⟩ := pred_pos hi c_8
            refine lv_aload_n hx hb dX8_feed_40 rfl (lv_at hl 1 rfl) ?_
            refine x_get (w := (wM G B)) (a := 0) (v := .ref (B + (4))) hx hb hts iX8_feed_X8 hown hK hX (Nat.le_of_ble_eq_true rfl) (shM_0 (G := G) (B := B)) rfl 5 (by decide) (hts _ kX8_feed_19) (fun _ h9 => h9) rfl dX8_feed_41 ?_
            refine lv_aload_n hx hb dX8_feed_44 rfl (lv_at hl 1 rfl) ?_
            refine x_get (w := (wM G B)) (a := 0) (v := .int (u (0) 4)) hx hb hts iX8_feed_X8 hown hK hX (Nat.le_of_ble_eq_true rfl) (shM_0 (G := G) (B := B)) rfl 4 (by decide) (hts _ kX8_feed_82) (fun _ h9 => h9) rfl dX8_feed_45 ?_
            refine lv_lload_n hx hb dX8_feed_48 rfl (lv_at hl 2 rfl) ?_
            refine lv_bipush (v := 8) hx hb dX8_feed_49 (by decide) ?_
            refine lv_iload hx hb dX8_feed_51 (lv_at hl 0 rfl) ?_
            refine lv_imul hx hb dX8_feed_53 ?_
            refine lv_lshr (v := w >>> ((8 * nI k : Int32).toInt64 &&& 63)) hx hb dX8_feed_54 rfl ?_
            refine lv_ldc2 (v := 255) hx hb hown (hts _ kX8_feed_86) dX8_feed_55 ?_
            refine lv_land hx hb dX8_feed_58 ?_
            refine lv_l2i (v := ((w >>> ((8 * nI k : Int32).toInt64 &&& 63)) &&& 255 : Int64).toInt32) hx hb dX8_feed_59 rfl ?_
            refine x_iast (w := (wM G B)) (a := 4) (n := 400) (j := t + (tn n - (k + 1))) hx hb hK hW hX hS (Nat.le_of_ble_eq_true rfl) (fun f => (shM_a (G := G) (B := B) (a := 4) (f := f) (by decide))) hul (by omega) (by decide) dX8_feed_60 (fun H_10 lo_11 hX hS => ?_)
            obtain ⟨x_9, ex_9⟩ : ∃ z, z = mst u (4) (t + (tn n - (k + 1))) (((w >>> ((8 * nI k : Int32).toInt64 &&& 63)) &&& 255 : Int64).toInt32) := ⟨_, rfl⟩
            rw [← ex_9] at hX
            have z_12 : x_9 (0) 4 = nI (t + (tn n - (k + 1))) := by rw [ex_9, mst_ne (by first | decide | omega)]; exact hul
            refine lv_aload_n hx hb dX8_feed_61 rfl (lv_at hl 1 rfl) ?_
            refine lv_dup hx hb dX8_feed_62 rfl ?_
            refine x_get (w := (wM G B)) (a := 0) (v := .int (x_9 (0) 4)) hx hb hts iX8_feed_X8 hown hK hX (Nat.le_of_ble_eq_true rfl) (shM_0 (G := G) (B := B)) rfl 4 (by decide) (hts _ kX8_feed_82) (fun _ h9 => h9) rfl dX8_feed_63 ?_
            refine lv_iconst (v := 1) hx hb dX8_feed_66 (by decide) ?_
            refine lv_iadd hx hb dX8_feed_67 ?_
            refine x_put (w := (wM G B)) (a := 0) (v := (x_9 (0) 4) + 1) (ty := .int) hx hb hts iX8_feed_X8 tyX8 tyX8_ok nmX8 hown hK hW hX hS (Nat.le_of_ble_eq_true rfl) (shM_0 (G := G) (B := B)) rfl 4 (by decide) (hts _ kX8_feed_82) (fun _ h9 => h9) rfl (by decide +kernel) rfl rfl (Nat.le_of_ble_eq_true rfl) (shM_0 (G := G) (B := B)) dX8_feed_68 (fun H_14 lo_15 hX hS => ?_)
            obtain ⟨x_13, ex_13⟩ : ∃ z, z = mst x_9 (0) 4 ((x_9 (0) 4) + 1) := ⟨_, rfl⟩
            rw [← ex_13] at hX
            have z_17 : x_13 (0) 4 = nI (t + (tn n - (k + 1)) + 1) := by rw [ex_13, mst_self]; first | done | exact (n_add z_12 rfl)
            refine lv_iinc (v := nI k + Int32.ofInt (-1)) (lv' := [(4, .int (nI k + Int32.ofInt (-1))), (0, .ref (B + (0))), (1, .long (w)), (3, .int (n))]) hx hb dX8_feed_71 hl (k := 0) rfl rfl (by decide) rfl (fun ls hl => ?_)
            refine lv_goto (tgt := 35) hx hb dX8_feed_74 (by decide) ?_
            have hl9 : x_9 0 4 = nI (t + (tn n - (k + 1))) := by rw [ex_9, mst_ne (by decide)]; exact hul
            have hT : t + (tn n - k) = t + (tn n - (k + 1)) + 1 := by omega
            exact ih_35 _ (by omega) (nI k + Int32.ofInt (-1)) (k) (x_13) rfl ⟨add_m1 _, by omega, by rw [ex_13, mst_self, hl9, hT]; exact n_add rfl rfl, by rw [← hu, hT, ex_13, hl9, n_add (y := 1) (b := 1) rfl rfl, ex_9, apY]; exact congrArg (fun z => apY w k _ (mst (mst u 4 _ z) 0 4 _)) rfl⟩ _ _ hX hS ls (lv_sub hl [0, 1, 2, 3] rfl)
      exact L_5 _ (n - 1) (tn n) (x) rfl ⟨by rw [← hne], Nat.le_refl _, by rw [Nat.sub_self]; exact ht9, by rw [Nat.sub_self]; rfl⟩ _ _ hX hS ls (lv_sub hl [0, 1, 2, 3] rfl)
    · have nc_4 := Nat.not_le.mp (fun q => c_4 ((n_le (a := t + (tn n)) (b := 400) (n_add ht9 hne) rfl (by omega) (by omega)).mpr q))
      refine lv_ldc (v := (-1000003)) hx hb hown (hts _ kX8_feed_85) dX8_feed_27 ?_
      rw [← hQ]
      refine x_iret (v := (-1000003)) hx hb hr hX hS hlocks dX8_feed_29 ?_
      show PT_X8_feed _ _ _ _ _ _
      unfold PT_X8_feed
      rw [if_pos c_3, if_neg c_4]
      exact ⟨rfl, rfl⟩
  · refine lv_ldc (v := (-1000001)) hx hb hown (hts _ kX8_feed_63) dX8_feed_12 ?_
    rw [← hQ]
    refine x_iret (v := (-1000001)) hx hb hr hX hS hlocks dX8_feed_14 ?_
    show PT_X8_feed _ _ _ _ _ _
    unfold PT_X8_feed
    rw [if_neg (ne_of_false c_3)]
    exact ⟨rfl, rfl⟩

theorem kX8_nextToken_91 : (.fieldLink RX8 91 "WindTakenModel" "begins" "I" : Cond) ∈ wsX8_nextToken := by decide +kernel
theorem iX8_nextToken_X8 : ∀ w ∈ wsX80, w ∈ wsX8_nextToken := by decide +kernel
theorem kX8_nextToken_88 : (.fieldLink RX8 88 "WindTakenModel" "behind" "I" : Cond) ∈ wsX8_nextToken := by decide +kernel
theorem kX8_nextToken_98 : (.fieldLink RX8 98 "WindTakenModel" "worth" "J" : Cond) ∈ wsX8_nextToken := by decide +kernel
theorem kX8_nextToken_82 : (.fieldLink RX8 82 "WindTakenModel" "tapeLong" "I" : Cond) ∈ wsX8_nextToken := by decide +kernel
theorem kX8_nextToken_105 : (.constantLong RX8 105 (97) : Cond) ∈ wsX8_nextToken := by decide +kernel
theorem kX8_nextToken_107 : (.constantLong RX8 107 (122) : Cond) ∈ wsX8_nextToken := by decide +kernel
theorem kX8_nextToken_115 : (.constantLong RX8 115 (48) : Cond) ∈ wsX8_nextToken := by decide +kernel
theorem kX8_nextToken_117 : (.constantLong RX8 117 (57) : Cond) ∈ wsX8_nextToken := by decide +kernel
theorem kX8_nextToken_102 : (.fieldLink RX8 102 "WindTakenModel" "kind" "I" : Cond) ∈ wsX8_nextToken := by decide +kernel
theorem kX8_nextToken_119 : (.constantLong RX8 119 (10) : Cond) ∈ wsX8_nextToken := by decide +kernel
theorem kX8_nextToken_113 : (.constantLong RX8 113 (-1) : Cond) ∈ wsX8_nextToken := by decide +kernel
theorem kX8_nextToken_109 : (.constantLong RX8 109 (27) : Cond) ∈ wsX8_nextToken := by decide +kernel
theorem kX8_nextToken_111 : (.constantLong RX8 111 (96) : Cond) ∈ wsX8_nextToken := by decide +kernel
abbrev rmX8_nextToken : Room := { frames := 1, cells := 0, slots := 0, locals := 25 }
set_option maxHeartbeats 4000000 in
set_option maxRecDepth 100000 in
theorem c_X8_nextToken (l : Launch) (G : GG) (B : Nat) (hW : WOK (wM G B)) (x : Mem) {t : Nat} {p : Nat} (ht9 : x 0 4 = nI t) (ht400 : t ≤ 400) (hp : x 0 15 = nI p) (hpt : p ≤ t) : Met l yX8_nextToken wsX8_nextToken rmX8_nextToken (XP G (wM G B) [.ref (B + (0))] x) (va_Qv (fun u => NF x u ∧ NT (x 4) t p u) (XB G (wM G B)) (blkA B (B + 13))) 0 0 (blkA B (B + 13)) := by
  refine Met.ofW (cc := cX8_nextToken) (maxL := 2) (ret := none) (by decide) rfl ?_
  intro pp ee ss mm aa bb mt cd s1 Bd hml hv
  obtain ⟨hae, hX, hK, hE⟩ := hv
  have hx := Bd.exec
  have hb := Bd.bytes
  have hr := Bd.returns
  have hts := atoms_spec (ws := wsX8_nextToken) Bd.pre
  have hown : ss.vm.findClass RX8 = some mm.cls := findClass_of_methodNamed Bd.named
  have hlocks := Bd.notSynchronized
  have hS : va_S (blkA B (B + 13)) ss.heap ss.heap [] := va_S.rf
  have hl := lv_entry ([.ref (B + (0))]) (n := 2) (Nat.le_of_ble_eq_true rfl)
  subst hae
  rw [lg_entry_eq]
  generalize (lg_sl ([.ref (B + (0))]) ++ List.replicate (2 - (lg_sl ([.ref (B + (0))])).length) Slot.unset).toArray = ls at hl ⊢
  have hl : lv_has ls 2 [(0, .ref (B + (0)))] := hl
  generalize ([.ref (B + (0))] : List Value).toArray = aa at hts ⊢
  show W pp l ee rmX8_nextToken ss mm aa bb mt cd ss.heap [] 0 0 _ (F0 mm 0 ls [])
  generalize hQ : MQ bb (va_Qv (fun u => NF x u ∧ NT (x 4) t p u) (XB G (wM G B)) (blkA B (B + 13))) aa ss 0 0 (blkA B (B + 13)) = Q
  have K_1 : ∀   (u2 : Mem) (_ : NF x u2 ∧ u2 0 14 = nI (tsN (x 4) t p)) (H_2 : Heap) (lo_3 : List Loc) (_ : MR G (wM G B) u2 H_2) (_ : va_S (blkA B (B + 13)) ss.heap H_2 lo_3) (ls : Array Slot) (_ : lv_has ls 2 [(0, .ref (B + (0)))]), W pp l ee rmX8_nextToken ss mm aa bb mt cd H_2 lo_3 0 0 Q (F0 mm 58 ls []) := by
    intro u2 hI H_2 lo_3 hX hS ls hl
    obtain ⟨hF2, h14⟩ := hI
    have hs9 := tsN_le (f := x 4) hpt
    have hT2 : u2 0 4 = nI t := by rw [hF2.2 4 (by decide) (by decide) (by decide) (by decide) (by decide)]; exact ht9
    refine lv_aload_n hx hb dX8_nextToken_58 rfl (lv_at hl 0 rfl) ?_
    refine lv_aload_n hx hb dX8_nextToken_59 rfl (lv_at hl 0 rfl) ?_
    refine x_get (w := (wM G B)) (a := 0) (v := .int (u2 (0) 14)) hx hb hts iX8_nextToken_X8 hown hK hX (Nat.le_of_ble_eq_true rfl) (shM_0 (G := G) (B := B)) rfl 14 (by decide) (hts _ kX8_nextToken_91) (fun _ h9 => h9) rfl dX8_nextToken_60 ?_
    refine x_put (w := (wM G B)) (a := 0) (v := u2 (0) 14) (ty := .int) hx hb hts iX8_nextToken_X8 tyX8 tyX8_ok nmX8 hown hK hW hX hS (Nat.le_of_ble_eq_true rfl) (shM_0 (G := G) (B := B)) rfl 15 (by decide) (hts _ kX8_nextToken_88) (fun _ h9 => h9) rfl (by decide +kernel) rfl rfl (Nat.le_of_ble_eq_true rfl) (shM_0 (G := G) (B := B)) dX8_nextToken_63 (fun H_5 lo_6 hX hS => ?_)
    obtain ⟨x_4, ex_4⟩ : ∃ z, z = mst u2 (0) 15 (u2 (0) 14) := ⟨_, rfl⟩
    rw [← ex_4] at hX
    have z_7 : x_4 (0) 14 = nI (tsN (x 4) t p) := by rw [ex_4, mst_eq, upd_ne (by first | decide | omega)]; exact h14
    have z_8 : x_4 (0) 4 = nI (t) := by rw [ex_4, mst_eq, upd_ne (by first | decide | omega)]; exact hT2
    have z_9 : x_4 (0) 15 = nI (tsN (x 4) t p) := by rw [ex_4, mst_self]; first | done | exact h14
    refine lv_aload_n hx hb dX8_nextToken_66 rfl (lv_at hl 0 rfl) ?_
    refine lv_lconst (v := 0) hx hb dX8_nextToken_67 (by decide) ?_
    refine x_putL (B := B) hx hb hts iX8_nextToken_X8 hown hK hX hS (hts _ kX8_nextToken_98) dX8_nextToken_68 (fun H_11 lo_12 hX hS => ?_)
    obtain ⟨x_10, ex_10⟩ : ∃ z, z = mst (mst x_4 0 17 (hiL (0))) 0 21 (loL (0)) := ⟨_, rfl⟩
    rw [← ex_10] at hX
    have z_13 : x_10 (0) 14 = nI (tsN (x 4) t p) := by rw [ex_10, mst_eq, upd_ne (by decide), mst_eq, upd_ne (by decide)]; exact z_7
    have z_14 : x_10 (0) 4 = nI (t) := by rw [ex_10, mst_eq, upd_ne (by decide), mst_eq, upd_ne (by decide)]; exact z_8
    have z_15 : x_10 (0) 15 = nI (tsN (x 4) t p) := by rw [ex_10, mst_eq, upd_ne (by decide), mst_eq, upd_ne (by decide)]; exact z_9
    have hA4 : x_10 4 = x 4 := by rw [ex_10, mst_ne (by decide), mst_ne (by decide), ex_4, mst_ne (by decide)]; exact hF2.1 4 (by decide)
    have hFA : NF x x_10 := by rw [ex_10, ex_4]; exact ((hF2.st (by decide)).st (by decide)).st (by decide)
    have hA14 : x_10 0 14 = nI (tsN (x 4) t p) := by rw [ex_10, mst_eq, upd_ne (by decide), mst_eq, upd_ne (by decide), ex_4, mst_eq, upd_ne (by decide)]; exact h14
    have hA15 : x_10 0 15 = nI (tsN (x 4) t p) := by rw [ex_10, mst_eq, upd_ne (by decide), mst_eq, upd_ne (by decide), ex_4, mst_self]; exact h14
    have hAw : wth x_10 = 0 := by rw [ex_10]; exact wth_put
    have hAT : x_10 0 4 = nI t := by rw [hFA.2 4 (by decide) (by decide) (by decide) (by decide) (by decide)]; exact ht9
    refine lv_aload_n hx hb dX8_nextToken_71 rfl (lv_at hl 0 rfl) ?_
    refine lv_aload_n hx hb dX8_nextToken_72 rfl (lv_at hl 0 rfl) ?_
    refine x_get (w := (wM G B)) (a := 0) (v := .int (x_10 (0) 14)) hx hb hts iX8_nextToken_X8 hown hK hX (Nat.le_of_ble_eq_true rfl) (shM_0 (G := G) (B := B)) rfl 14 (by decide) (hts _ kX8_nextToken_91) (fun _ h9 => h9) rfl dX8_nextToken_73 ?_
    refine W.eq (g2 := F0 mm 76 ls [.int (nI (tsN (x 4) t p)), .ref (B + (0))]) (congrArg (fun z9 : Int32 => F0 mm 76 ls [.int (z9), .ref (B + (0))]) z_13) ?_
    refine x_ip (w := (wM G B)) (x := x_10) (v := bA (x_10 4) t (tsN (x 4) t p)) (va_runV (As := [.int (nI (tsN (x 4) t p))]) (rest := []) ⟨hx, hb, hml, hown, hts⟩ (c_X8_byteAt (l := l) (G := G) (B := B) (hW := hW) (x := x_10) (k9 := tsN (x 4) t p) (t := t) (ht9 := hAT) (ht400 := ht400) (hk400 := (by omega))) (cwV 1 hts gX8_nextToken_X8_byteAt rfl rfl rfl (by decide +kernel) ⟨Nat.le_of_ble_eq_true rfl, Nat.le_of_ble_eq_true rfl⟩) (x_pv (w := (wM G B)) (a := 0) hW hX hK hE hS [.int (nI (tsN (x 4) t p))] (Nat.le_of_ble_eq_true rfl) (shM_0 (G := G) (B := B)) rfl) rfl rfl hl.1 rfl (lv_room (Nat.le_of_ble_eq_true rfl)) dX8_nextToken_76 ⟨Nat.zero_le _, Nat.zero_le _⟩) hS (fun H_16 lo_17 hX hS => ?_)
    refine lv_istore_n (lv' := [(1, .int (bA (x_10 4) t (tsN (x 4) t p))), (0, .ref (B + (0)))]) hx hb dX8_nextToken_79 rfl hl (by decide) rfl (fun ls hl => ?_)
    refine lv_aload_n hx hb dX8_nextToken_80 rfl (lv_at hl 1 rfl) ?_
    refine x_get (w := (wM G B)) (a := 0) (v := .int (x_10 (0) 14)) hx hb hts iX8_nextToken_X8 hown hK hX (Nat.le_of_ble_eq_true rfl) (shM_0 (G := G) (B := B)) rfl 14 (by decide) (hts _ kX8_nextToken_91) (fun _ h9 => h9) rfl dX8_nextToken_81 ?_
    refine lv_aload_n hx hb dX8_nextToken_84 rfl (lv_at hl 1 rfl) ?_
    refine x_get (w := (wM G B)) (a := 0) (v := .int (x_10 (0) 4)) hx hb hts iX8_nextToken_X8 hown hK hX (Nat.le_of_ble_eq_true rfl) (shM_0 (G := G) (B := B)) rfl 4 (by decide) (hts _ kX8_nextToken_82) (fun _ h9 => h9) rfl dX8_nextToken_85 ?_
    refine lv_icmp_lt (tgt := 99) hx hb dX8_nextToken_88 (by decide) (fun c_18 => ?_) (fun c_18 => ?_)
    · have nc_18 := (n_lt (a := tsN (x 4) t p) (b := t) z_13 z_14 (by omega) (by omega)).mp c_18
      have hin9 : tsN (x 4) t p < t := by omega
      have hfi : bA (x_10 4) t (tsN (x 4) t p) = x 4 (tsN (x 4) t p) := by rw [hA4]; exact if_pos hin9
      refine lv_iload_n hx hb dX8_nextToken_99 rfl (lv_at hl 0 rfl) ?_
      refine lv_i2l (v := (bA (x_10 4) t (tsN (x 4) t p) : Int32).toInt64) hx hb dX8_nextToken_100 rfl ?_
      refine lv_ldc2 (v := 97) hx hb hown (hts _ kX8_nextToken_105) dX8_nextToken_101 ?_
      refine lv_ldc2 (v := 122) hx hb hown (hts _ kX8_nextToken_107) dX8_nextToken_104 ?_
      refine x_ip (w := (wM G B)) (x := x_10) (v := bI (decide (((97 : Int32)) ≤ ((bA (x_10 4) t (tsN (x 4) t p) : Int32))) && decide (((bA (x_10 4) t (tsN (x 4) t p) : Int32)) ≤ ((122 : Int32))))) (va_runS (As := [.long ((bA (x_10 4) t (tsN (x 4) t p) : Int32).toInt64), .long (97), .long (122)]) (rest := []) ⟨hx, hb, hml, hown, hts⟩ (c_X8_in (l := l) (G := G) (B := B) (hW := hW) (x := x_10) (va := (bA (x_10 4) t (tsN (x 4) t p) : Int32).toInt64) (vb := 97) (vc := 122) (v1 := (bA (x_10 4) t (tsN (x 4) t p) : Int32)) (lo1 := (97 : Int32)) (hi1 := (122 : Int32)) (hv := (by first | rfl | decide)) (hlo := (by first | rfl | decide)) (hhi := (by first | rfl | decide))) (va_cwS 3 hts gX8_nextToken_X8_in rfl rfl rfl (by decide +kernel) ⟨Nat.le_of_ble_eq_true rfl, Nat.le_of_ble_eq_true rfl⟩) (x_ps (w := (wM G B)) hW hX hK hE hS [.long ((bA (x_10 4) t (tsN (x 4) t p) : Int32).toInt64), .long (97), .long (122)]) rfl rfl hl.1 rfl (lv_room (Nat.le_of_ble_eq_true rfl)) dX8_nextToken_107 ⟨Nat.zero_le _, Nat.zero_le _⟩) hS (fun H_19 lo_20 hX hS => ?_)
      refine x_ifeq (tgt := 198) hx hb dX8_nextToken_110 (by decide) (fun c_21 => ?_) (fun c_21 => ?_)
      · have hle0 : leP (x 4) (tsN (x 4) t p) = false := by show (decide (97 ≤ x 4 (tsN (x 4) t p)) && decide (x 4 (tsN (x 4) t p) ≤ 122)) = false; rw [← hfi]; exact c_21
        refine lv_iload_n hx hb dX8_nextToken_198 rfl (lv_at hl 0 rfl) ?_
        refine lv_i2l (v := (bA (x_10 4) t (tsN (x 4) t p) : Int32).toInt64) hx hb dX8_nextToken_199 rfl ?_
        refine lv_ldc2 (v := 48) hx hb hown (hts _ kX8_nextToken_115) dX8_nextToken_200 ?_
        refine lv_ldc2 (v := 57) hx hb hown (hts _ kX8_nextToken_117) dX8_nextToken_203 ?_
        refine x_ip (w := (wM G B)) (x := x_10) (v := bI (decide (((48 : Int32)) ≤ ((bA (x_10 4) t (tsN (x 4) t p) : Int32))) && decide (((bA (x_10 4) t (tsN (x 4) t p) : Int32)) ≤ ((57 : Int32))))) (va_runS (As := [.long ((bA (x_10 4) t (tsN (x 4) t p) : Int32).toInt64), .long (48), .long (57)]) (rest := []) ⟨hx, hb, hml, hown, hts⟩ (c_X8_in (l := l) (G := G) (B := B) (hW := hW) (x := x_10) (va := (bA (x_10 4) t (tsN (x 4) t p) : Int32).toInt64) (vb := 48) (vc := 57) (v1 := (bA (x_10 4) t (tsN (x 4) t p) : Int32)) (lo1 := (48 : Int32)) (hi1 := (57 : Int32)) (hv := (by first | rfl | decide)) (hlo := (by first | rfl | decide)) (hhi := (by first | rfl | decide))) (va_cwS 3 hts gX8_nextToken_X8_in rfl rfl rfl (by decide +kernel) ⟨Nat.le_of_ble_eq_true rfl, Nat.le_of_ble_eq_true rfl⟩) (x_ps (w := (wM G B)) hW hX hK hE hS [.long ((bA (x_10 4) t (tsN (x 4) t p) : Int32).toInt64), .long (48), .long (57)]) rfl rfl hl.1 rfl (lv_room (Nat.le_of_ble_eq_true rfl)) dX8_nextToken_206 ⟨Nat.zero_le _, Nat.zero_le _⟩) hS (fun H_22 lo_23 hX hS => ?_)
        refine x_ifeq (tgt := 314) hx hb dX8_nextToken_209 (by decide) (fun c_24 => ?_) (fun c_24 => ?_)
        · have hfi0 : fiP (x 4) (tsN (x 4) t p) = false := by show (decide (48 ≤ x 4 (tsN (x 4) t p)) && decide (x 4 (tsN (x 4) t p) ≤ 57)) = false; rw [← hfi]; exact c_24
          refine lv_aload_n hx hb dX8_nextToken_314 rfl (lv_at hl 1 rfl) ?_
          refine lv_iload_n hx hb dX8_nextToken_315 rfl (lv_at hl 0 rfl) ?_
          refine lv_bipush (v := 59) hx hb dX8_nextToken_316 (by decide) ?_
          have kJ_27 : ∀ (v_26 : Int32) (_ : v_26 = (if (bA (x_10 4) t (tsN (x 4) t p)) = 59 then (3 : Int32) else (4 : Int32))) (H_28 : Heap) (lo_29 : List Loc) (_ : MR G (wM G B) x_10 H_28) (_ : va_S (blkA B (B + 13)) ss.heap H_28 lo_29) (ls : Array Slot) (_ : lv_has ls 2 [(1, .int (bA (x_10 4) t (tsN (x 4) t p))), (0, .ref (B + (0)))]), W pp l ee rmX8_nextToken ss mm aa bb mt cd H_28 lo_29 0 0 Q (F0 mm 326 ls [.int (v_26), .ref (B + (0))]) := by
            intro v_26 ev_26 H_28 lo_29 hX hS ls hl
            refine x_put (w := (wM G B)) (a := 0) (v := v_26) (ty := .int) hx hb hts iX8_nextToken_X8 tyX8 tyX8_ok nmX8 hown hK hW hX hS (Nat.le_of_ble_eq_true rfl) (shM_0 (G := G) (B := B)) rfl 16 (by decide) (hts _ kX8_nextToken_102) (fun _ h9 => h9) rfl (by decide +kernel) rfl rfl (Nat.le_of_ble_eq_true rfl) (shM_0 (G := G) (B := B)) dX8_nextToken_326 (fun H_31 lo_32 hX hS => ?_)
            obtain ⟨x_30, ex_30⟩ : ∃ z, z = mst x_10 (0) 16 (v_26) := ⟨_, rfl⟩
            rw [← ex_30] at hX
            have z_33 : x_30 (0) 14 = nI (tsN (x 4) t p) := by rw [ex_30, mst_eq, upd_ne (by first | decide | omega)]; exact z_13
            have z_34 : x_30 (0) 4 = nI (t) := by rw [ex_30, mst_eq, upd_ne (by first | decide | omega)]; exact z_14
            have z_35 : x_30 (0) 15 = nI (tsN (x 4) t p) := by rw [ex_30, mst_eq, upd_ne (by first | decide | omega)]; exact z_15
            refine lv_aload_n hx hb dX8_nextToken_329 rfl (lv_at hl 1 rfl) ?_
            refine lv_dup hx hb dX8_nextToken_330 rfl ?_
            refine x_get (w := (wM G B)) (a := 0) (v := .int (x_30 (0) 15)) hx hb hts iX8_nextToken_X8 hown hK hX (Nat.le_of_ble_eq_true rfl) (shM_0 (G := G) (B := B)) rfl 15 (by decide) (hts _ kX8_nextToken_88) (fun _ h9 => h9) rfl dX8_nextToken_331 ?_
            refine lv_iconst (v := 1) hx hb dX8_nextToken_334 (by decide) ?_
            refine lv_iadd hx hb dX8_nextToken_335 ?_
            refine x_put (w := (wM G B)) (a := 0) (v := (x_30 (0) 15) + 1) (ty := .int) hx hb hts iX8_nextToken_X8 tyX8 tyX8_ok nmX8 hown hK hW hX hS (Nat.le_of_ble_eq_true rfl) (shM_0 (G := G) (B := B)) rfl 15 (by decide) (hts _ kX8_nextToken_88) (fun _ h9 => h9) rfl (by decide +kernel) rfl rfl (Nat.le_of_ble_eq_true rfl) (shM_0 (G := G) (B := B)) dX8_nextToken_336 (fun H_37 lo_38 hX hS => ?_)
            obtain ⟨x_36, ex_36⟩ : ∃ z, z = mst x_30 (0) 15 ((x_30 (0) 15) + 1) := ⟨_, rfl⟩
            rw [← ex_36] at hX
            have z_39 : x_36 (0) 14 = nI (tsN (x 4) t p) := by rw [ex_36, mst_eq, upd_ne (by first | decide | omega)]; exact z_33
            have z_40 : x_36 (0) 4 = nI (t) := by rw [ex_36, mst_eq, upd_ne (by first | decide | omega)]; exact z_34
            have z_42 : x_36 (0) 15 = nI (tsN (x 4) t p + 1) := by rw [ex_36, mst_self]; first | done | exact (n_add z_35 rfl)
            rw [← hQ]
            refine x_vret hx hb hr hX hS hlocks dX8_nextToken_339 ?_
            first | exact ⟨by rw [ex_36]; exact hFA.st (by decide), nt0 (by omega) (by rw [ex_36, mst_eq, upd_ne (by decide)]; exact hA14) (by rw [ex_36, mst_self])⟩ | exact ⟨hF3, nt1 hin9 hle1 h314 h316 (by rw [h315, ← hrn3, en_le c_24 h34]) (by rw [hw3, ← hrn3, en_le c_24 h34])⟩ | exact ⟨by rw [ex_36]; exact hF4.st (by decide), nt2 hpt hin9 hle0 hfi1 (by rw [ex_36, mst_eq, upd_ne (by decide)]; exact h414) (by rw [ex_36, mst_self, ev_26, h415, h414, ← hrn4, en_fi c_24 h44, pk_sub hTe]) ht400 (by rw [ex_36, mst_eq, upd_ne (by decide), h415, ← hrn4, en_fi c_24 h44]) (by rw [ex_36, wth_off (by decide) (by decide), hw4, ← hrn4, en_fi c_24 h44])⟩ | exact ⟨by rw [ex_36, ex_30]; exact (hFA.st (by decide)).st (by decide), nt3 hin9 hle0 hfi0 (by rw [ex_36, mst_eq, upd_ne (by decide), ex_30, mst_eq, upd_ne (by decide)]; exact hA14) (by rw [ex_36, mst_eq, upd_ne (by decide), ex_30, mst_self, ev_26, hfi]) (by rw [ex_36, mst_self, ex_30, mst_eq, upd_ne (by decide)]; exact n_add hA15 rfl)⟩
          refine lv_icmp_ne (tgt := 325) hx hb dX8_nextToken_318 (by decide) (fun c_25 => ?_) (fun c_25 => ?_)
          · refine lv_iconst (v := 4) hx hb dX8_nextToken_325 (by decide) ?_
            exact kJ_27 (4) (by rw [if_neg c_25]) _ _ hX hS ls (lv_sub hl [0, 1] rfl)
          · refine lv_iconst (v := 3) hx hb dX8_nextToken_321 (by decide) ?_
            refine lv_goto (tgt := 326) hx hb dX8_nextToken_322 (by decide) ?_
            exact kJ_27 (3) (by rw [if_pos c_25]) _ _ hX hS ls (lv_sub hl [0, 1] rfl)
        · have hfi1 : fiP (x 4) (tsN (x 4) t p) = true := by show (decide (48 ≤ x 4 (tsN (x 4) t p)) && decide (x 4 (tsN (x 4) t p) ≤ 57)) = true; rw [← hfi]; exact c_24
          have L_43 : ∀ (n9 : Nat)  (e : Nat) (u4 : Mem) (_ : n9 = t - e) (_ : tsN (x 4) t p ≤ e ∧ e ≤ t ∧ NF x u4 ∧ u4 0 14 = nI (tsN (x 4) t p) ∧ u4 0 15 = nI e ∧ runE (fiP (x 4)) t e = fiN (x 4) t p ∧ wth u4 = vsL (x 4) (tsN (x 4) t p) (e - tsN (x 4) t p)) (H_44 : Heap) (lo_45 : List Loc) (_ : MR G (wM G B) u4 H_44) (_ : va_S (blkA B (B + 13)) ss.heap H_44 lo_45) (ls : Array Slot) (_ : lv_has ls 2 [(1, .int (bA (x_10 4) t (tsN (x 4) t p))), (0, .ref (B + (0)))]), W pp l ee rmX8_nextToken ss mm aa bb mt cd H_44 lo_45 0 0 Q (F0 mm 212 ls []) := by
            intro n9
            induction n9 using Nat.strongRecOn with
            | _ n9 ih => 
              have ih_212 := ih
              intro e u4 hn9 hI H_44 lo_45 hX hS ls hl
              obtain ⟨hTe, het0, hF4, h414, h415, hrn4, hw4⟩ := hI
              have h44 : u4 4 = x 4 := hF4.1 4 (by decide)
              have hT4 : u4 0 4 = nI t := by rw [hF4.2 4 (by decide) (by decide) (by decide) (by decide) (by decide)]; exact ht9
              refine lv_aload_n hx hb dX8_nextToken_212 rfl (lv_at hl 1 rfl) ?_
              refine lv_aload_n hx hb dX8_nextToken_213 rfl (lv_at hl 1 rfl) ?_
              refine x_get (w := (wM G B)) (a := 0) (v := .int (u4 (0) 15)) hx hb hts iX8_nextToken_X8 hown hK hX (Nat.le_of_ble_eq_true rfl) (shM_0 (G := G) (B := B)) rfl 15 (by decide) (hts _ kX8_nextToken_88) (fun _ h9 => h9) rfl dX8_nextToken_214 ?_
              refine W.eq (g2 := F0 mm 217 ls [.int (nI (e)), .ref (B + (0))]) (congrArg (fun z9 : Int32 => F0 mm 217 ls [.int (z9), .ref (B + (0))]) h415) ?_
              refine x_ip (w := (wM G B)) (x := u4) (v := bA (u4 4) t e) (va_runV (As := [.int (nI (e))]) (rest := []) ⟨hx, hb, hml, hown, hts⟩ (c_X8_byteAt (l := l) (G := G) (B := B) (hW := hW) (x := u4) (k9 := e) (t := t) (ht9 := hT4) (ht400 := ht400) (hk400 := (by omega))) (cwV 1 hts gX8_nextToken_X8_byteAt rfl rfl rfl (by decide +kernel) ⟨Nat.le_of_ble_eq_true rfl, Nat.le_of_ble_eq_true rfl⟩) (x_pv (w := (wM G B)) (a := 0) hW hX hK hE hS [.int (nI (e))] (Nat.le_of_ble_eq_true rfl) (shM_0 (G := G) (B := B)) rfl) rfl rfl hl.1 rfl (lv_room (Nat.le_of_ble_eq_true rfl)) dX8_nextToken_217 ⟨Nat.zero_le _, Nat.zero_le _⟩) hS (fun H_46 lo_47 hX hS => ?_)
              refine lv_i2l (v := (bA (u4 4) t e : Int32).toInt64) hx hb dX8_nextToken_220 rfl ?_
              refine lv_ldc2 (v := 48) hx hb hown (hts _ kX8_nextToken_115) dX8_nextToken_221 ?_
              refine lv_ldc2 (v := 57) hx hb hown (hts _ kX8_nextToken_117) dX8_nextToken_224 ?_
              refine x_ip (w := (wM G B)) (x := u4) (v := bI (decide (((48 : Int32)) ≤ ((bA (u4 4) t e : Int32))) && decide (((bA (u4 4) t e : Int32)) ≤ ((57 : Int32))))) (va_runS (As := [.long ((bA (u4 4) t e : Int32).toInt64), .long (48), .long (57)]) (rest := []) ⟨hx, hb, hml, hown, hts⟩ (c_X8_in (l := l) (G := G) (B := B) (hW := hW) (x := u4) (va := (bA (u4 4) t e : Int32).toInt64) (vb := 48) (vc := 57) (v1 := (bA (u4 4) t e : Int32)) (lo1 := (48 : Int32)) (hi1 := (57 : Int32)) (hv := (by first | rfl | decide)) (hlo := (by first | rfl | decide)) (hhi := (by first | rfl | decide))) (va_cwS 3 hts gX8_nextToken_X8_in rfl rfl rfl (by decide +kernel) ⟨Nat.le_of_ble_eq_true rfl, Nat.le_of_ble_eq_true rfl⟩) (x_ps (w := (wM G B)) hW hX hK hE hS [.long ((bA (u4 4) t e : Int32).toInt64), .long (48), .long (57)]) rfl rfl hl.1 rfl (lv_room (Nat.le_of_ble_eq_true rfl)) dX8_nextToken_227 ⟨Nat.zero_le _, Nat.zero_le _⟩) hS (fun H_48 lo_49 hX hS => ?_)
              refine x_ifeq (tgt := 289) hx hb dX8_nextToken_230 (by decide) (fun c_50 => ?_) (fun c_50 => ?_)
              · refine lv_aload_n hx hb dX8_nextToken_289 rfl (lv_at hl 1 rfl) ?_
                refine lv_aload_n hx hb dX8_nextToken_290 rfl (lv_at hl 1 rfl) ?_
                refine x_get (w := (wM G B)) (a := 0) (v := .int (u4 (0) 15)) hx hb hts iX8_nextToken_X8 hown hK hX (Nat.le_of_ble_eq_true rfl) (shM_0 (G := G) (B := B)) rfl 15 (by decide) (hts _ kX8_nextToken_88) (fun _ h9 => h9) rfl dX8_nextToken_291 ?_
                refine lv_aload_n hx hb dX8_nextToken_294 rfl (lv_at hl 1 rfl) ?_
                refine x_get (w := (wM G B)) (a := 0) (v := .int (u4 (0) 14)) hx hb hts iX8_nextToken_X8 hown hK hX (Nat.le_of_ble_eq_true rfl) (shM_0 (G := G) (B := B)) rfl 14 (by decide) (hts _ kX8_nextToken_91) (fun _ h9 => h9) rfl dX8_nextToken_295 ?_
                refine lv_isub hx hb dX8_nextToken_298 ?_
                refine lv_iconst (v := 3) hx hb dX8_nextToken_299 (by decide) ?_
                have kJ_53 : ∀ (v_52 : Int32) (_ : v_52 = (if ((u4 (0) 15) - (u4 (0) 14)) ≤ 3 then (2 : Int32) else (4 : Int32))) (H_54 : Heap) (lo_55 : List Loc) (_ : MR G (wM G B) u4 H_54) (_ : va_S (blkA B (B + 13)) ss.heap H_54 lo_55) (ls : Array Slot) (_ : lv_has ls 2 [(1, .int (bA (x_10 4) t (tsN (x 4) t p))), (0, .ref (B + (0)))]), W pp l ee rmX8_nextToken ss mm aa bb mt cd H_54 lo_55 0 0 Q (F0 mm 308 ls [.int (v_52), .ref (B + (0))]) := by
                  intro v_52 ev_52 H_54 lo_55 hX hS ls hl
                  refine x_put (w := (wM G B)) (a := 0) (v := v_52) (ty := .int) hx hb hts iX8_nextToken_X8 tyX8 tyX8_ok nmX8 hown hK hW hX hS (Nat.le_of_ble_eq_true rfl) (shM_0 (G := G) (B := B)) rfl 16 (by decide) (hts _ kX8_nextToken_102) (fun _ h9 => h9) rfl (by decide +kernel) rfl rfl (Nat.le_of_ble_eq_true rfl) (shM_0 (G := G) (B := B)) dX8_nextToken_308 (fun H_57 lo_58 hX hS => ?_)
                  obtain ⟨x_56, ex_56⟩ : ∃ z, z = mst u4 (0) 16 (v_52) := ⟨_, rfl⟩
                  rw [← ex_56] at hX
                  have z_59 : x_56 (0) 14 = nI (tsN (x 4) t p) := by rw [ex_56, mst_eq, upd_ne (by first | decide | omega)]; exact h414
                  have z_60 : x_56 (0) 15 = nI (e) := by rw [ex_56, mst_eq, upd_ne (by first | decide | omega)]; exact h415
                  have z_61 : x_56 (0) 4 = nI (t) := by rw [ex_56, mst_eq, upd_ne (by first | decide | omega)]; exact hT4
                  refine lv_goto (tgt := 339) hx hb dX8_nextToken_311 (by decide) ?_
                  rw [← hQ]
                  refine x_vret hx hb hr hX hS hlocks dX8_nextToken_339 ?_
                  first | exact ⟨by rw [ex_56]; exact hFA.st (by decide), nt0 (by omega) (by rw [ex_56, mst_eq, upd_ne (by decide)]; exact hA14) (by rw [ex_56, mst_self])⟩ | exact ⟨hF3, nt1 hin9 hle1 h314 h316 (by rw [h315, ← hrn3, en_le c_50 h34]) (by rw [hw3, ← hrn3, en_le c_50 h34])⟩ | exact ⟨by rw [ex_56]; exact hF4.st (by decide), nt2 hpt hin9 hle0 hfi1 (by rw [ex_56, mst_eq, upd_ne (by decide)]; exact h414) (by rw [ex_56, mst_self, ev_52, h415, h414, ← hrn4, en_fi c_50 h44, pk_sub hTe]) ht400 (by rw [ex_56, mst_eq, upd_ne (by decide), h415, ← hrn4, en_fi c_50 h44]) (by rw [ex_56, wth_off (by decide) (by decide), hw4, ← hrn4, en_fi c_50 h44])⟩ | exact ⟨by rw [ex_56, ex_10]; exact (hFA.st (by decide)).st (by decide), nt3 hin9 hle0 hfi0 (by rw [ex_56, mst_eq, upd_ne (by decide), ex_10, mst_eq, upd_ne (by decide)]; exact hA14) (by rw [ex_56, mst_eq, upd_ne (by decide), ex_10, mst_self, ev_52, hfi]) (by rw [ex_56, mst_self, ex_10, mst_eq, upd_ne (by decide)]; exact n_add hA15 rfl)⟩
                refine lv_icmp_le (tgt := 307) hx hb dX8_nextToken_300 (by decide) (fun c_51 => ?_) (fun c_51 => ?_)
                · refine lv_iconst (v := 2) hx hb dX8_nextToken_307 (by decide) ?_
                  exact kJ_53 (2) (by rw [if_pos c_51]) _ _ hX hS ls (lv_sub hl [0, 1] rfl)
                · refine lv_iconst (v := 4) hx hb dX8_nextToken_303 (by decide) ?_
                  refine lv_goto (tgt := 308) hx hb dX8_nextToken_304 (by decide) ?_
                  exact kJ_53 (4) (by rw [if_neg c_51]) _ _ hX hS ls (lv_sub hl [0, 1] rfl)
              · obtain ⟨het, heb⟩ := bA_in c_50 (by decide)
                have hfi2 : fiP (x 4) e = true := by show (decide (48 ≤ x 4 e) && decide (x 4 e ≤ 57)) = true; rw [← h44, ← heb]; exact c_50
                refine lv_aload_n hx hb dX8_nextToken_233 rfl (lv_at hl 1 rfl) ?_
                refine lv_aload_n hx hb dX8_nextToken_234 rfl (lv_at hl 1 rfl) ?_
                refine x_get (w := (wM G B)) (a := 0) (v := .int (u4 (0) 15)) hx hb hts iX8_nextToken_X8 hown hK hX (Nat.le_of_ble_eq_true rfl) (shM_0 (G := G) (B := B)) rfl 15 (by decide) (hts _ kX8_nextToken_88) (fun _ h9 => h9) rfl dX8_nextToken_235 ?_
                refine lv_aload_n hx hb dX8_nextToken_238 rfl (lv_at hl 1 rfl) ?_
                refine x_get (w := (wM G B)) (a := 0) (v := .int (u4 (0) 14)) hx hb hts iX8_nextToken_X8 hown hK hX (Nat.le_of_ble_eq_true rfl) (shM_0 (G := G) (B := B)) rfl 14 (by decide) (hts _ kX8_nextToken_91) (fun _ h9 => h9) rfl dX8_nextToken_239 ?_
                refine lv_isub hx hb dX8_nextToken_242 ?_
                refine lv_iconst (v := 3) hx hb dX8_nextToken_243 (by decide) ?_
                refine lv_icmp_ge (tgt := 272) hx hb dX8_nextToken_244 (by decide) (fun c_62 => ?_) (fun c_62 => ?_)
                · have nc_62 := (n_le (a := 3) (b := e - (tsN (x 4) t p)) rfl (n_sub h415 h414 (by omega)) (by omega) (by omega)).mp c_62
                  refine lv_lconst (v := 0) hx hb dX8_nextToken_272 (by decide) ?_
                  refine x_putL (B := B) hx hb hts iX8_nextToken_X8 hown hK hX hS (hts _ kX8_nextToken_98) dX8_nextToken_273 (fun H_64 lo_65 hX hS => ?_)
                  obtain ⟨x_63, ex_63⟩ : ∃ z, z = mst (mst u4 0 17 (hiL (0))) 0 21 (loL (0)) := ⟨_, rfl⟩
                  rw [← ex_63] at hX
                  have z_66 : x_63 (0) 14 = nI (tsN (x 4) t p) := by rw [ex_63, mst_eq, upd_ne (by decide), mst_eq, upd_ne (by decide)]; exact h414
                  have z_67 : x_63 (0) 15 = nI (e) := by rw [ex_63, mst_eq, upd_ne (by decide), mst_eq, upd_ne (by decide)]; exact h415
                  have z_68 : x_63 (0) 4 = nI (t) := by rw [ex_63, mst_eq, upd_ne (by decide), mst_eq, upd_ne (by decide)]; exact hT4
                  refine lv_aload_n hx hb dX8_nextToken_276 rfl (lv_at hl 1 rfl) ?_
                  refine lv_dup hx hb dX8_nextToken_277 rfl ?_
                  refine x_get (w := (wM G B)) (a := 0) (v := .int (x_63 (0) 15)) hx hb hts iX8_nextToken_X8 hown hK hX (Nat.le_of_ble_eq_true rfl) (shM_0 (G := G) (B := B)) rfl 15 (by decide) (hts _ kX8_nextToken_88) (fun _ h9 => h9) rfl dX8_nextToken_278 ?_
                  refine lv_iconst (v := 1) hx hb dX8_nextToken_281 (by decide) ?_
                  refine lv_iadd hx hb dX8_nextToken_282 ?_
                  refine x_put (w := (wM G B)) (a := 0) (v := (x_63 (0) 15) + 1) (ty := .int) hx hb hts iX8_nextToken_X8 tyX8 tyX8_ok nmX8 hown hK hW hX hS (Nat.le_of_ble_eq_true rfl) (shM_0 (G := G) (B := B)) rfl 15 (by decide) (hts _ kX8_nextToken_88) (fun _ h9 => h9) rfl (by decide +kernel) rfl rfl (Nat.le_of_ble_eq_true rfl) (shM_0 (G := G) (B := B)) dX8_nextToken_283 (fun H_70 lo_71 hX hS => ?_)
                  obtain ⟨x_69, ex_69⟩ : ∃ z, z = mst x_63 (0) 15 ((x_63 (0) 15) + 1) := ⟨_, rfl⟩
                  rw [← ex_69] at hX
                  have z_72 : x_69 (0) 14 = nI (tsN (x 4) t p) := by rw [ex_69, mst_eq, upd_ne (by first | decide | omega)]; exact z_66
                  have z_74 : x_69 (0) 4 = nI (t) := by rw [ex_69, mst_eq, upd_ne (by first | decide | omega)]; exact z_68
                  have z_75 : x_69 (0) 15 = nI (e + 1) := by rw [ex_69, mst_self]; first | done | exact (n_add z_67 rfl)
                  refine lv_goto (tgt := 212) hx hb dX8_nextToken_286 (by decide) ?_
                  have hd9 : e + 1 - tsN (x 4) t p = (e - tsN (x 4) t p) + 1 := by omega
                  have hd8 : tsN (x 4) t p + (e - tsN (x 4) t p) = e := by omega
                  have hwq : wth u4 = mkL (u4 0 17) (u4 0 21) := rfl
                  exact ih_212 _ (by omega) (e + 1) (x_69) rfl ⟨by omega, by omega, by rw [ex_69, ex_63]; exact ((hF4.st (by decide)).st (by decide)).st (by decide), by rw [ex_69, mst_eq, upd_ne (by decide), ex_63, mst_eq, upd_ne (by decide), mst_eq, upd_ne (by decide)]; exact h414, by rw [ex_69, mst_self, ex_63, mst_eq, upd_ne (by decide), mst_eq, upd_ne (by decide)]; exact n_add h415 rfl, by rw [← runE_on (p := fiP (x 4)) het hfi2]; exact hrn4, by rw [ex_69, wth_off (by decide) (by decide), ex_63, wth_put, hd9, vsL, hd8]; first | (rw [if_pos (by omega), ← hw4, hwq, heb, h44]; done) | (rw [if_neg (by omega)]; done)⟩ _ _ hX hS ls (lv_sub hl [0, 1] rfl)
                · have nc_62 := Nat.not_le.mp (fun q => c_62 ((n_le (a := 3) (b := e - (tsN (x 4) t p)) rfl (n_sub h415 h414 (by omega)) (by omega) (by omega)).mpr q))
                  refine lv_ldc2 (v := 10) hx hb hown (hts _ kX8_nextToken_119) dX8_nextToken_247 ?_
                  refine lv_aload_n hx hb dX8_nextToken_250 rfl (lv_at hl 1 rfl) ?_
                  refine x_get (w := (wM G B)) (a := 0) (v := .long (mkL (u4 0 17) (u4 0 21))) hx hb hts iX8_nextToken_X8 hown hK hX (Nat.le_of_ble_eq_true rfl) (shM_0 (G := G) (B := B)) rfl 17 (by decide) (hts _ kX8_nextToken_98) (fun _ h9 => h9) rfl dX8_nextToken_251 ?_
                  refine lv_lmul hx hb dX8_nextToken_254 ?_
                  refine lv_aload_n hx hb dX8_nextToken_255 rfl (lv_at hl 1 rfl) ?_
                  refine lv_aload_n hx hb dX8_nextToken_256 rfl (lv_at hl 1 rfl) ?_
                  refine x_get (w := (wM G B)) (a := 0) (v := .int (u4 (0) 15)) hx hb hts iX8_nextToken_X8 hown hK hX (Nat.le_of_ble_eq_true rfl) (shM_0 (G := G) (B := B)) rfl 15 (by decide) (hts _ kX8_nextToken_88) (fun _ h9 => h9) rfl dX8_nextToken_257 ?_
                  refine W.eq (g2 := F0 mm 260 ls [.int (nI (e)), .ref (B + (0)), .long (10 * (mkL (u4 0 17) (u4 0 21))), .ref (B + (0))]) (congrArg (fun z9 : Int32 => F0 mm 260 ls [.int (z9), .ref (B + (0)), .long (10 * (mkL (u4 0 17) (u4 0 21))), .ref (B + (0))]) h415) ?_
                  refine x_ip (w := (wM G B)) (x := u4) (v := bA (u4 4) t e) (va_runV (As := [.int (nI (e))]) (rest := [.long (10 * (mkL (u4 0 17) (u4 0 21))), .ref (B + (0))]) ⟨hx, hb, hml, hown, hts⟩ (c_X8_byteAt (l := l) (G := G) (B := B) (hW := hW) (x := u4) (k9 := e) (t := t) (ht9 := hT4) (ht400 := ht400) (hk400 := (by omega))) (cwV 1 hts gX8_nextToken_X8_byteAt rfl rfl rfl (by decide +kernel) ⟨Nat.le_of_ble_eq_true rfl, Nat.le_of_ble_eq_true rfl⟩) (x_pv (w := (wM G B)) (a := 0) hW hX hK hE hS [.int (nI (e))] (Nat.le_of_ble_eq_true rfl) (shM_0 (G := G) (B := B)) rfl) rfl rfl hl.1 rfl (lv_room (Nat.le_of_ble_eq_true rfl)) dX8_nextToken_260 ⟨Nat.zero_le _, Nat.zero_le _⟩) hS (fun H_76 lo_77 hX hS => ?_)
                  refine lv_i2l (v := (bA (u4 4) t e : Int32).toInt64) hx hb dX8_nextToken_263 rfl ?_
                  refine lv_ladd hx hb dX8_nextToken_264 ?_
                  refine lv_ldc2 (v := 48) hx hb hown (hts _ kX8_nextToken_115) dX8_nextToken_265 ?_
                  refine lv_lsub hx hb dX8_nextToken_268 ?_
                  refine lv_goto (tgt := 273) hx hb dX8_nextToken_269 (by decide) ?_
                  refine x_putL (B := B) hx hb hts iX8_nextToken_X8 hown hK hX hS (hts _ kX8_nextToken_98) dX8_nextToken_273 (fun H_79 lo_80 hX hS => ?_)
                  obtain ⟨x_78, ex_78⟩ : ∃ z, z = mst (mst u4 0 17 (hiL (((10 * (mkL (u4 0 17) (u4 0 21))) + ((bA (u4 4) t e : Int32).toInt64)) - 48))) 0 21 (loL (((10 * (mkL (u4 0 17) (u4 0 21))) + ((bA (u4 4) t e : Int32).toInt64)) - 48)) := ⟨_, rfl⟩
                  rw [← ex_78] at hX
                  have z_81 : x_78 (0) 14 = nI (tsN (x 4) t p) := by rw [ex_78, mst_eq, upd_ne (by decide), mst_eq, upd_ne (by decide)]; exact h414
                  have z_82 : x_78 (0) 15 = nI (e) := by rw [ex_78, mst_eq, upd_ne (by decide), mst_eq, upd_ne (by decide)]; exact h415
                  have z_83 : x_78 (0) 4 = nI (t) := by rw [ex_78, mst_eq, upd_ne (by decide), mst_eq, upd_ne (by decide)]; exact hT4
                  refine lv_aload_n hx hb dX8_nextToken_276 rfl (lv_at hl 1 rfl) ?_
                  refine lv_dup hx hb dX8_nextToken_277 rfl ?_
                  refine x_get (w := (wM G B)) (a := 0) (v := .int (x_78 (0) 15)) hx hb hts iX8_nextToken_X8 hown hK hX (Nat.le_of_ble_eq_true rfl) (shM_0 (G := G) (B := B)) rfl 15 (by decide) (hts _ kX8_nextToken_88) (fun _ h9 => h9) rfl dX8_nextToken_278 ?_
                  refine lv_iconst (v := 1) hx hb dX8_nextToken_281 (by decide) ?_
                  refine lv_iadd hx hb dX8_nextToken_282 ?_
                  refine x_put (w := (wM G B)) (a := 0) (v := (x_78 (0) 15) + 1) (ty := .int) hx hb hts iX8_nextToken_X8 tyX8 tyX8_ok nmX8 hown hK hW hX hS (Nat.le_of_ble_eq_true rfl) (shM_0 (G := G) (B := B)) rfl 15 (by decide) (hts _ kX8_nextToken_88) (fun _ h9 => h9) rfl (by decide +kernel) rfl rfl (Nat.le_of_ble_eq_true rfl) (shM_0 (G := G) (B := B)) dX8_nextToken_283 (fun H_85 lo_86 hX hS => ?_)
                  obtain ⟨x_84, ex_84⟩ : ∃ z, z = mst x_78 (0) 15 ((x_78 (0) 15) + 1) := ⟨_, rfl⟩
                  rw [← ex_84] at hX
                  have z_87 : x_84 (0) 14 = nI (tsN (x 4) t p) := by rw [ex_84, mst_eq, upd_ne (by first | decide | omega)]; exact z_81
                  have z_89 : x_84 (0) 4 = nI (t) := by rw [ex_84, mst_eq, upd_ne (by first | decide | omega)]; exact z_83
                  have z_90 : x_84 (0) 15 = nI (e + 1) := by rw [ex_84, mst_self]; first | done | exact (n_add z_82 rfl)
                  refine lv_goto (tgt := 212) hx hb dX8_nextToken_286 (by decide) ?_
                  have hd9 : e + 1 - tsN (x 4) t p = (e - tsN (x 4) t p) + 1 := by omega
                  have hd8 : tsN (x 4) t p + (e - tsN (x 4) t p) = e := by omega
                  have hwq : wth u4 = mkL (u4 0 17) (u4 0 21) := rfl
                  exact ih_212 _ (by omega) (e + 1) (x_84) rfl ⟨by omega, by omega, by rw [ex_84, ex_78]; exact ((hF4.st (by decide)).st (by decide)).st (by decide), by rw [ex_84, mst_eq, upd_ne (by decide), ex_78, mst_eq, upd_ne (by decide), mst_eq, upd_ne (by decide)]; exact h414, by rw [ex_84, mst_self, ex_78, mst_eq, upd_ne (by decide), mst_eq, upd_ne (by decide)]; exact n_add h415 rfl, by rw [← runE_on (p := fiP (x 4)) het hfi2]; exact hrn4, by rw [ex_84, wth_off (by decide) (by decide), ex_78, wth_put, hd9, vsL, hd8]; first | (rw [if_pos (by omega), ← hw4, hwq, heb, h44]; done) | (rw [if_neg (by omega)]; done)⟩ _ _ hX hS ls (lv_sub hl [0, 1] rfl)
          exact L_43 _ (tsN (x 4) t p) (x_10) rfl ⟨Nat.le_refl _, hs9.2, hFA, hA14, hA15, rfl, by rw [hAw, Nat.sub_self]; rfl⟩ _ _ hX hS ls (lv_sub hl [0, 1] rfl)
      · have hle1 : leP (x 4) (tsN (x 4) t p) = true := by show (decide (97 ≤ x 4 (tsN (x 4) t p)) && decide (x 4 (tsN (x 4) t p) ≤ 122)) = true; rw [← hfi]; exact c_21
        refine lv_aload_n hx hb dX8_nextToken_113 rfl (lv_at hl 1 rfl) ?_
        refine lv_iconst (v := 1) hx hb dX8_nextToken_114 (by decide) ?_
        refine x_put (w := (wM G B)) (a := 0) (v := 1) (ty := .int) hx hb hts iX8_nextToken_X8 tyX8 tyX8_ok nmX8 hown hK hW hX hS (Nat.le_of_ble_eq_true rfl) (shM_0 (G := G) (B := B)) rfl 16 (by decide) (hts _ kX8_nextToken_102) (fun _ h9 => h9) rfl (by decide +kernel) rfl rfl (Nat.le_of_ble_eq_true rfl) (shM_0 (G := G) (B := B)) dX8_nextToken_115 (fun H_92 lo_93 hX hS => ?_)
        obtain ⟨x_91, ex_91⟩ : ∃ z, z = mst x_10 (0) 16 (1) := ⟨_, rfl⟩
        rw [← ex_91] at hX
        have z_94 : x_91 (0) 14 = nI (tsN (x 4) t p) := by rw [ex_91, mst_eq, upd_ne (by first | decide | omega)]; exact z_13
        have z_95 : x_91 (0) 4 = nI (t) := by rw [ex_91, mst_eq, upd_ne (by first | decide | omega)]; exact z_14
        have z_96 : x_91 (0) 15 = nI (tsN (x 4) t p) := by rw [ex_91, mst_eq, upd_ne (by first | decide | omega)]; exact z_15
        have z_97 : x_91 (0) 16 = nI (1) := by rw [ex_91, mst_self]; first | done | exact rfl
        have L_98 : ∀ (n9 : Nat)  (e : Nat) (u3 : Mem) (_ : n9 = t - e) (_ : tsN (x 4) t p ≤ e ∧ e ≤ t ∧ NF x u3 ∧ u3 0 14 = nI (tsN (x 4) t p) ∧ u3 0 15 = nI e ∧ u3 0 16 = 1 ∧ runE (leP (x 4)) t e = leN (x 4) t p ∧ wth u3 = hsL (x 4) (tsN (x 4) t p) (e - tsN (x 4) t p)) (H_99 : Heap) (lo_100 : List Loc) (_ : MR G (wM G B) u3 H_99) (_ : va_S (blkA B (B + 13)) ss.heap H_99 lo_100) (ls : Array Slot) (_ : lv_has ls 2 [(1, .int (bA (x_10 4) t (tsN (x 4) t p))), (0, .ref (B + (0)))]), W pp l ee rmX8_nextToken ss mm aa bb mt cd H_99 lo_100 0 0 Q (F0 mm 118 ls []) := by
          intro n9
          induction n9 using Nat.strongRecOn with
          | _ n9 ih => 
            have ih_118 := ih
            intro e u3 hn9 hI H_99 lo_100 hX hS ls hl
            obtain ⟨hTe, het0, hF3, h314, h315, h316, hrn3, hw3⟩ := hI
            have h34 : u3 4 = x 4 := hF3.1 4 (by decide)
            have hT3 : u3 0 4 = nI t := by rw [hF3.2 4 (by decide) (by decide) (by decide) (by decide) (by decide)]; exact ht9
            refine lv_aload_n hx hb dX8_nextToken_118 rfl (lv_at hl 1 rfl) ?_
            refine lv_aload_n hx hb dX8_nextToken_119 rfl (lv_at hl 1 rfl) ?_
            refine x_get (w := (wM G B)) (a := 0) (v := .int (u3 (0) 15)) hx hb hts iX8_nextToken_X8 hown hK hX (Nat.le_of_ble_eq_true rfl) (shM_0 (G := G) (B := B)) rfl 15 (by decide) (hts _ kX8_nextToken_88) (fun _ h9 => h9) rfl dX8_nextToken_120 ?_
            refine W.eq (g2 := F0 mm 123 ls [.int (nI (e)), .ref (B + (0))]) (congrArg (fun z9 : Int32 => F0 mm 123 ls [.int (z9), .ref (B + (0))]) h315) ?_
            refine x_ip (w := (wM G B)) (x := u3) (v := bA (u3 4) t e) (va_runV (As := [.int (nI (e))]) (rest := []) ⟨hx, hb, hml, hown, hts⟩ (c_X8_byteAt (l := l) (G := G) (B := B) (hW := hW) (x := u3) (k9 := e) (t := t) (ht9 := hT3) (ht400 := ht400) (hk400 := (by omega))) (cwV 1 hts gX8_nextToken_X8_byteAt rfl rfl rfl (by decide +kernel) ⟨Nat.le_of_ble_eq_true rfl, Nat.le_of_ble_eq_true rfl⟩) (x_pv (w := (wM G B)) (a := 0) hW hX hK hE hS [.int (nI (e))] (Nat.le_of_ble_eq_true rfl) (shM_0 (G := G) (B := B)) rfl) rfl rfl hl.1 rfl (lv_room (Nat.le_of_ble_eq_true rfl)) dX8_nextToken_123 ⟨Nat.zero_le _, Nat.zero_le _⟩) hS (fun H_101 lo_102 hX hS => ?_)
            refine lv_i2l (v := (bA (u3 4) t e : Int32).toInt64) hx hb dX8_nextToken_126 rfl ?_
            refine lv_ldc2 (v := 97) hx hb hown (hts _ kX8_nextToken_105) dX8_nextToken_127 ?_
            refine lv_ldc2 (v := 122) hx hb hown (hts _ kX8_nextToken_107) dX8_nextToken_130 ?_
            refine x_ip (w := (wM G B)) (x := u3) (v := bI (decide (((97 : Int32)) ≤ ((bA (u3 4) t e : Int32))) && decide (((bA (u3 4) t e : Int32)) ≤ ((122 : Int32))))) (va_runS (As := [.long ((bA (u3 4) t e : Int32).toInt64), .long (97), .long (122)]) (rest := []) ⟨hx, hb, hml, hown, hts⟩ (c_X8_in (l := l) (G := G) (B := B) (hW := hW) (x := u3) (va := (bA (u3 4) t e : Int32).toInt64) (vb := 97) (vc := 122) (v1 := (bA (u3 4) t e : Int32)) (lo1 := (97 : Int32)) (hi1 := (122 : Int32)) (hv := (by first | rfl | decide)) (hlo := (by first | rfl | decide)) (hhi := (by first | rfl | decide))) (va_cwS 3 hts gX8_nextToken_X8_in rfl rfl rfl (by decide +kernel) ⟨Nat.le_of_ble_eq_true rfl, Nat.le_of_ble_eq_true rfl⟩) (x_ps (w := (wM G B)) hW hX hK hE hS [.long ((bA (u3 4) t e : Int32).toInt64), .long (97), .long (122)]) rfl rfl hl.1 rfl (lv_room (Nat.le_of_ble_eq_true rfl)) dX8_nextToken_133 ⟨Nat.zero_le _, Nat.zero_le _⟩) hS (fun H_103 lo_104 hX hS => ?_)
            refine x_ifeq (tgt := 339) hx hb dX8_nextToken_136 (by decide) (fun c_105 => ?_) (fun c_105 => ?_)
            · rw [← hQ]
              refine x_vret hx hb hr hX hS hlocks dX8_nextToken_339 ?_
              first | exact ⟨by rw [ex_91]; exact hFA.st (by decide), nt0 (by omega) (by rw [ex_91, mst_eq, upd_ne (by decide)]; exact hA14) (by rw [ex_91, mst_self])⟩ | exact ⟨hF3, nt1 hin9 hle1 h314 h316 (by rw [h315, ← hrn3, en_le c_105 h34]) (by rw [hw3, ← hrn3, en_le c_105 h34])⟩ | exact ⟨by rw [ex_91]; exact hF4.st (by decide), nt2 hpt hin9 hle0 hfi1 (by rw [ex_91, mst_eq, upd_ne (by decide)]; exact h414) (by rw [ex_91, mst_self, rfl, h415, h414, ← hrn4, en_fi c_105 h44, pk_sub hTe]) ht400 (by rw [ex_91, mst_eq, upd_ne (by decide), h415, ← hrn4, en_fi c_105 h44]) (by rw [ex_91, wth_off (by decide) (by decide), hw4, ← hrn4, en_fi c_105 h44])⟩ | exact ⟨by rw [ex_91, ex_10]; exact (hFA.st (by decide)).st (by decide), nt3 hin9 hle0 hfi0 (by rw [ex_91, mst_eq, upd_ne (by decide), ex_10, mst_eq, upd_ne (by decide)]; exact hA14) (by rw [ex_91, mst_eq, upd_ne (by decide), ex_10, mst_self, rfl, hfi]) (by rw [ex_91, mst_self, ex_10, mst_eq, upd_ne (by decide)]; exact n_add hA15 rfl)⟩
            · obtain ⟨het, heb⟩ := bA_in c_105 (by decide)
              have hle2 : leP (x 4) e = true := by show (decide (97 ≤ x 4 e) && decide (x 4 e ≤ 122)) = true; rw [← h34, ← heb]; exact c_105
              refine lv_aload_n hx hb dX8_nextToken_139 rfl (lv_at hl 1 rfl) ?_
              refine lv_aload_n hx hb dX8_nextToken_140 rfl (lv_at hl 1 rfl) ?_
              refine x_get (w := (wM G B)) (a := 0) (v := .int (u3 (0) 15)) hx hb hts iX8_nextToken_X8 hown hK hX (Nat.le_of_ble_eq_true rfl) (shM_0 (G := G) (B := B)) rfl 15 (by decide) (hts _ kX8_nextToken_88) (fun _ h9 => h9) rfl dX8_nextToken_141 ?_
              refine lv_aload_n hx hb dX8_nextToken_144 rfl (lv_at hl 1 rfl) ?_
              refine x_get (w := (wM G B)) (a := 0) (v := .int (u3 (0) 14)) hx hb hts iX8_nextToken_X8 hown hK hX (Nat.le_of_ble_eq_true rfl) (shM_0 (G := G) (B := B)) rfl 14 (by decide) (hts _ kX8_nextToken_91) (fun _ h9 => h9) rfl dX8_nextToken_145 ?_
              refine lv_isub hx hb dX8_nextToken_148 ?_
              refine lv_bipush (v := 7) hx hb dX8_nextToken_149 (by decide) ?_
              refine lv_icmp_ge (tgt := 179) hx hb dX8_nextToken_151 (by decide) (fun c_106 => ?_) (fun c_106 => ?_)
              · have nc_106 := (n_le (a := 7) (b := e - (tsN (x 4) t p)) rfl (n_sub h315 h314 (by omega)) (by omega) (by omega)).mp c_106
                refine lv_ldc2 (v := (-1)) hx hb hown (hts _ kX8_nextToken_113) dX8_nextToken_179 ?_
                refine x_putL (B := B) hx hb hts iX8_nextToken_X8 hown hK hX hS (hts _ kX8_nextToken_98) dX8_nextToken_182 (fun H_108 lo_109 hX hS => ?_)
                obtain ⟨x_107, ex_107⟩ : ∃ z, z = mst (mst u3 0 17 (hiL ((-1)))) 0 21 (loL ((-1))) := ⟨_, rfl⟩
                rw [← ex_107] at hX
                have z_110 : x_107 (0) 14 = nI (tsN (x 4) t p) := by rw [ex_107, mst_eq, upd_ne (by decide), mst_eq, upd_ne (by decide)]; exact h314
                have z_111 : x_107 (0) 15 = nI (e) := by rw [ex_107, mst_eq, upd_ne (by decide), mst_eq, upd_ne (by decide)]; exact h315
                have z_112 : x_107 (0) 4 = nI (t) := by rw [ex_107, mst_eq, upd_ne (by decide), mst_eq, upd_ne (by decide)]; exact hT3
                refine lv_aload_n hx hb dX8_nextToken_185 rfl (lv_at hl 1 rfl) ?_
                refine lv_dup hx hb dX8_nextToken_186 rfl ?_
                refine x_get (w := (wM G B)) (a := 0) (v := .int (x_107 (0) 15)) hx hb hts iX8_nextToken_X8 hown hK hX (Nat.le_of_ble_eq_true rfl) (shM_0 (G := G) (B := B)) rfl 15 (by decide) (hts _ kX8_nextToken_88) (fun _ h9 => h9) rfl dX8_nextToken_187 ?_
                refine lv_iconst (v := 1) hx hb dX8_nextToken_190 (by decide) ?_
                refine lv_iadd hx hb dX8_nextToken_191 ?_
                refine x_put (w := (wM G B)) (a := 0) (v := (x_107 (0) 15) + 1) (ty := .int) hx hb hts iX8_nextToken_X8 tyX8 tyX8_ok nmX8 hown hK hW hX hS (Nat.le_of_ble_eq_true rfl) (shM_0 (G := G) (B := B)) rfl 15 (by decide) (hts _ kX8_nextToken_88) (fun _ h9 => h9) rfl (by decide +kernel) rfl rfl (Nat.le_of_ble_eq_true rfl) (shM_0 (G := G) (B := B)) dX8_nextToken_192 (fun H_114 lo_115 hX hS => ?_)
                obtain ⟨x_113, ex_113⟩ : ∃ z, z = mst x_107 (0) 15 ((x_107 (0) 15) + 1) := ⟨_, rfl⟩
                rw [← ex_113] at hX
                have z_116 : x_113 (0) 14 = nI (tsN (x 4) t p) := by rw [ex_113, mst_eq, upd_ne (by first | decide | omega)]; exact z_110
                have z_118 : x_113 (0) 4 = nI (t) := by rw [ex_113, mst_eq, upd_ne (by first | decide | omega)]; exact z_112
                have z_119 : x_113 (0) 15 = nI (e + 1) := by rw [ex_113, mst_self]; first | done | exact (n_add z_111 rfl)
                refine lv_goto (tgt := 118) hx hb dX8_nextToken_195 (by decide) ?_
                have hd9 : e + 1 - tsN (x 4) t p = (e - tsN (x 4) t p) + 1 := by omega
                have hd8 : tsN (x 4) t p + (e - tsN (x 4) t p) = e := by omega
                have hwq : wth u3 = mkL (u3 0 17) (u3 0 21) := rfl
                exact ih_118 _ (by omega) (e + 1) (x_113) rfl ⟨by omega, by omega, by rw [ex_113, ex_107]; exact ((hF3.st (by decide)).st (by decide)).st (by decide), by rw [ex_113, mst_eq, upd_ne (by decide), ex_107, mst_eq, upd_ne (by decide), mst_eq, upd_ne (by decide)]; exact h314, by rw [ex_113, mst_self, ex_107, mst_eq, upd_ne (by decide), mst_eq, upd_ne (by decide)]; exact n_add h315 rfl, by rw [ex_113, mst_eq, upd_ne (by decide), ex_107, mst_eq, upd_ne (by decide), mst_eq, upd_ne (by decide)]; exact h316, by rw [← runE_on (p := leP (x 4)) het hle2]; exact hrn3, by rw [ex_113, wth_off (by decide) (by decide), ex_107, wth_put, hd9, hsL, hd8]; first | (rw [if_pos (by omega), ← hw3, hwq, heb, h34]; done) | (rw [if_neg (by omega)]; done)⟩ _ _ hX hS ls (lv_sub hl [0, 1] rfl)
              · have nc_106 := Nat.not_le.mp (fun q => c_106 ((n_le (a := 7) (b := e - (tsN (x 4) t p)) rfl (n_sub h315 h314 (by omega)) (by omega) (by omega)).mpr q))
                refine lv_ldc2 (v := 27) hx hb hown (hts _ kX8_nextToken_109) dX8_nextToken_154 ?_
                refine lv_aload_n hx hb dX8_nextToken_157 rfl (lv_at hl 1 rfl) ?_
                refine x_get (w := (wM G B)) (a := 0) (v := .long (mkL (u3 0 17) (u3 0 21))) hx hb hts iX8_nextToken_X8 hown hK hX (Nat.le_of_ble_eq_true rfl) (shM_0 (G := G) (B := B)) rfl 17 (by decide) (hts _ kX8_nextToken_98) (fun _ h9 => h9) rfl dX8_nextToken_158 ?_
                refine lv_lmul hx hb dX8_nextToken_161 ?_
                refine lv_aload_n hx hb dX8_nextToken_162 rfl (lv_at hl 1 rfl) ?_
                refine lv_aload_n hx hb dX8_nextToken_163 rfl (lv_at hl 1 rfl) ?_
                refine x_get (w := (wM G B)) (a := 0) (v := .int (u3 (0) 15)) hx hb hts iX8_nextToken_X8 hown hK hX (Nat.le_of_ble_eq_true rfl) (shM_0 (G := G) (B := B)) rfl 15 (by decide) (hts _ kX8_nextToken_88) (fun _ h9 => h9) rfl dX8_nextToken_164 ?_
                refine W.eq (g2 := F0 mm 167 ls [.int (nI (e)), .ref (B + (0)), .long (27 * (mkL (u3 0 17) (u3 0 21))), .ref (B + (0))]) (congrArg (fun z9 : Int32 => F0 mm 167 ls [.int (z9), .ref (B + (0)), .long (27 * (mkL (u3 0 17) (u3 0 21))), .ref (B + (0))]) h315) ?_
                refine x_ip (w := (wM G B)) (x := u3) (v := bA (u3 4) t e) (va_runV (As := [.int (nI (e))]) (rest := [.long (27 * (mkL (u3 0 17) (u3 0 21))), .ref (B + (0))]) ⟨hx, hb, hml, hown, hts⟩ (c_X8_byteAt (l := l) (G := G) (B := B) (hW := hW) (x := u3) (k9 := e) (t := t) (ht9 := hT3) (ht400 := ht400) (hk400 := (by omega))) (cwV 1 hts gX8_nextToken_X8_byteAt rfl rfl rfl (by decide +kernel) ⟨Nat.le_of_ble_eq_true rfl, Nat.le_of_ble_eq_true rfl⟩) (x_pv (w := (wM G B)) (a := 0) hW hX hK hE hS [.int (nI (e))] (Nat.le_of_ble_eq_true rfl) (shM_0 (G := G) (B := B)) rfl) rfl rfl hl.1 rfl (lv_room (Nat.le_of_ble_eq_true rfl)) dX8_nextToken_167 ⟨Nat.zero_le _, Nat.zero_le _⟩) hS (fun H_120 lo_121 hX hS => ?_)
                refine lv_i2l (v := (bA (u3 4) t e : Int32).toInt64) hx hb dX8_nextToken_170 rfl ?_
                refine lv_ladd hx hb dX8_nextToken_171 ?_
                refine lv_ldc2 (v := 96) hx hb hown (hts _ kX8_nextToken_111) dX8_nextToken_172 ?_
                refine lv_lsub hx hb dX8_nextToken_175 ?_
                refine lv_goto (tgt := 182) hx hb dX8_nextToken_176 (by decide) ?_
                refine x_putL (B := B) hx hb hts iX8_nextToken_X8 hown hK hX hS (hts _ kX8_nextToken_98) dX8_nextToken_182 (fun H_123 lo_124 hX hS => ?_)
                obtain ⟨x_122, ex_122⟩ : ∃ z, z = mst (mst u3 0 17 (hiL (((27 * (mkL (u3 0 17) (u3 0 21))) + ((bA (u3 4) t e : Int32).toInt64)) - 96))) 0 21 (loL (((27 * (mkL (u3 0 17) (u3 0 21))) + ((bA (u3 4) t e : Int32).toInt64)) - 96)) := ⟨_, rfl⟩
                rw [← ex_122] at hX
                have z_125 : x_122 (0) 14 = nI (tsN (x 4) t p) := by rw [ex_122, mst_eq, upd_ne (by decide), mst_eq, upd_ne (by decide)]; exact h314
                have z_126 : x_122 (0) 15 = nI (e) := by rw [ex_122, mst_eq, upd_ne (by decide), mst_eq, upd_ne (by decide)]; exact h315
                have z_127 : x_122 (0) 4 = nI (t) := by rw [ex_122, mst_eq, upd_ne (by decide), mst_eq, upd_ne (by decide)]; exact hT3
                refine lv_aload_n hx hb dX8_nextToken_185 rfl (lv_at hl 1 rfl) ?_
                refine lv_dup hx hb dX8_nextToken_186 rfl ?_
                refine x_get (w := (wM G B)) (a := 0) (v := .int (x_122 (0) 15)) hx hb hts iX8_nextToken_X8 hown hK hX (Nat.le_of_ble_eq_true rfl) (shM_0 (G := G) (B := B)) rfl 15 (by decide) (hts _ kX8_nextToken_88) (fun _ h9 => h9) rfl dX8_nextToken_187 ?_
                refine lv_iconst (v := 1) hx hb dX8_nextToken_190 (by decide) ?_
                refine lv_iadd hx hb dX8_nextToken_191 ?_
                refine x_put (w := (wM G B)) (a := 0) (v := (x_122 (0) 15) + 1) (ty := .int) hx hb hts iX8_nextToken_X8 tyX8 tyX8_ok nmX8 hown hK hW hX hS (Nat.le_of_ble_eq_true rfl) (shM_0 (G := G) (B := B)) rfl 15 (by decide) (hts _ kX8_nextToken_88) (fun _ h9 => h9) rfl (by decide +kernel) rfl rfl (Nat.le_of_ble_eq_true rfl) (shM_0 (G := G) (B := B)) dX8_nextToken_192 (fun H_129 lo_130 hX hS => ?_)
                obtain ⟨x_128, ex_128⟩ : ∃ z, z = mst x_122 (0) 15 ((x_122 (0) 15) + 1) := ⟨_, rfl⟩
                rw [← ex_128] at hX
                have z_131 : x_128 (0) 14 = nI (tsN (x 4) t p) := by rw [ex_128, mst_eq, upd_ne (by first | decide | omega)]; exact z_125
                have z_133 : x_128 (0) 4 = nI (t) := by rw [ex_128, mst_eq, upd_ne (by first | decide | omega)]; exact z_127
                have z_134 : x_128 (0) 15 = nI (e + 1) := by rw [ex_128, mst_self]; first | done | exact (n_add z_126 rfl)
                refine lv_goto (tgt := 118) hx hb dX8_nextToken_195 (by decide) ?_
                have hd9 : e + 1 - tsN (x 4) t p = (e - tsN (x 4) t p) + 1 := by omega
                have hd8 : tsN (x 4) t p + (e - tsN (x 4) t p) = e := by omega
                have hwq : wth u3 = mkL (u3 0 17) (u3 0 21) := rfl
                exact ih_118 _ (by omega) (e + 1) (x_128) rfl ⟨by omega, by omega, by rw [ex_128, ex_122]; exact ((hF3.st (by decide)).st (by decide)).st (by decide), by rw [ex_128, mst_eq, upd_ne (by decide), ex_122, mst_eq, upd_ne (by decide), mst_eq, upd_ne (by decide)]; exact h314, by rw [ex_128, mst_self, ex_122, mst_eq, upd_ne (by decide), mst_eq, upd_ne (by decide)]; exact n_add h315 rfl, by rw [ex_128, mst_eq, upd_ne (by decide), ex_122, mst_eq, upd_ne (by decide), mst_eq, upd_ne (by decide)]; exact h316, by rw [← runE_on (p := leP (x 4)) het hle2]; exact hrn3, by rw [ex_128, wth_off (by decide) (by decide), ex_122, wth_put, hd9, hsL, hd8]; first | (rw [if_pos (by omega), ← hw3, hwq, heb, h34]; done) | (rw [if_neg (by omega)]; done)⟩ _ _ hX hS ls (lv_sub hl [0, 1] rfl)
        exact L_98 _ (tsN (x 4) t p) (x_91) rfl ⟨Nat.le_refl _, hs9.2, by rw [ex_91]; exact hFA.st (by decide), by rw [ex_91, mst_eq, upd_ne (by decide)]; exact hA14, by rw [ex_91, mst_eq, upd_ne (by decide)]; exact hA15, by rw [ex_91, mst_self], rfl, by rw [ex_91, wth_off (by decide) (by decide), hAw, Nat.sub_self]; rfl⟩ _ _ hX hS ls (lv_sub hl [0, 1] rfl)
    · have nc_18 := Nat.not_lt.mp (fun q => c_18 ((n_lt (a := tsN (x 4) t p) (b := t) z_13 z_14 (by omega) (by omega)).mpr q))
      refine lv_aload_n hx hb dX8_nextToken_91 rfl (lv_at hl 1 rfl) ?_
      refine lv_iconst (v := 0) hx hb dX8_nextToken_92 (by decide) ?_
      refine x_put (w := (wM G B)) (a := 0) (v := 0) (ty := .int) hx hb hts iX8_nextToken_X8 tyX8 tyX8_ok nmX8 hown hK hW hX hS (Nat.le_of_ble_eq_true rfl) (shM_0 (G := G) (B := B)) rfl 16 (by decide) (hts _ kX8_nextToken_102) (fun _ h9 => h9) rfl (by decide +kernel) rfl rfl (Nat.le_of_ble_eq_true rfl) (shM_0 (G := G) (B := B)) dX8_nextToken_93 (fun H_136 lo_137 hX hS => ?_)
      obtain ⟨x_135, ex_135⟩ : ∃ z, z = mst x_10 (0) 16 (0) := ⟨_, rfl⟩
      rw [← ex_135] at hX
      have z_138 : x_135 (0) 14 = nI (tsN (x 4) t p) := by rw [ex_135, mst_eq, upd_ne (by first | decide | omega)]; exact z_13
      have z_139 : x_135 (0) 4 = nI (t) := by rw [ex_135, mst_eq, upd_ne (by first | decide | omega)]; exact z_14
      have z_140 : x_135 (0) 15 = nI (tsN (x 4) t p) := by rw [ex_135, mst_eq, upd_ne (by first | decide | omega)]; exact z_15
      have z_141 : x_135 (0) 16 = nI (0) := by rw [ex_135, mst_self]; first | done | exact rfl
      refine lv_goto (tgt := 339) hx hb dX8_nextToken_96 (by decide) ?_
      rw [← hQ]
      refine x_vret hx hb hr hX hS hlocks dX8_nextToken_339 ?_
      first | exact ⟨by rw [ex_135]; exact hFA.st (by decide), nt0 (by omega) (by rw [ex_135, mst_eq, upd_ne (by decide)]; exact hA14) (by rw [ex_135, mst_self])⟩ | exact ⟨hF3, nt1 hin9 hle1 h314 h316 (by rw [h315, ← hrn3, en_le c_18 h34]) (by rw [hw3, ← hrn3, en_le c_18 h34])⟩ | exact ⟨by rw [ex_135]; exact hF4.st (by decide), nt2 hpt hin9 hle0 hfi1 (by rw [ex_135, mst_eq, upd_ne (by decide)]; exact h414) (by rw [ex_135, mst_self, rfl, h415, h414, ← hrn4, en_fi c_18 h44, pk_sub hTe]) ht400 (by rw [ex_135, mst_eq, upd_ne (by decide), h415, ← hrn4, en_fi c_18 h44]) (by rw [ex_135, wth_off (by decide) (by decide), hw4, ← hrn4, en_fi c_18 h44])⟩ | exact ⟨by rw [ex_135, ex_10]; exact (hFA.st (by decide)).st (by decide), nt3 hin9 hle0 hfi0 (by rw [ex_135, mst_eq, upd_ne (by decide), ex_10, mst_eq, upd_ne (by decide)]; exact hA14) (by rw [ex_135, mst_eq, upd_ne (by decide), ex_10, mst_self, rfl, hfi]) (by rw [ex_135, mst_self, ex_10, mst_eq, upd_ne (by decide)]; exact n_add hA15 rfl)⟩
  refine lv_aload_n hx hb dX8_nextToken_0 rfl (lv_at hl 0 rfl) ?_
  refine lv_aload_n hx hb dX8_nextToken_1 rfl (lv_at hl 0 rfl) ?_
  refine x_get (w := (wM G B)) (a := 0) (v := .int (x (0) 15)) hx hb hts iX8_nextToken_X8 hown hK hX (Nat.le_of_ble_eq_true rfl) (shM_0 (G := G) (B := B)) rfl 15 (by decide) (hts _ kX8_nextToken_88) (fun _ h9 => h9) rfl dX8_nextToken_2 ?_
  refine x_put (w := (wM G B)) (a := 0) (v := x (0) 15) (ty := .int) hx hb hts iX8_nextToken_X8 tyX8 tyX8_ok nmX8 hown hK hW hX hS (Nat.le_of_ble_eq_true rfl) (shM_0 (G := G) (B := B)) rfl 14 (by decide) (hts _ kX8_nextToken_91) (fun _ h9 => h9) rfl (by decide +kernel) rfl rfl (Nat.le_of_ble_eq_true rfl) (shM_0 (G := G) (B := B)) dX8_nextToken_5 (fun H_143 lo_144 hX hS => ?_)
  obtain ⟨x_142, ex_142⟩ : ∃ z, z = mst x (0) 14 (x (0) 15) := ⟨_, rfl⟩
  rw [← ex_142] at hX
  have z_145 : x_142 (0) 4 = nI (t) := by rw [ex_142, mst_eq, upd_ne (by first | decide | omega)]; exact ht9
  have z_146 : x_142 (0) 15 = nI (p) := by rw [ex_142, mst_eq, upd_ne (by first | decide | omega)]; exact hp
  have z_147 : x_142 (0) 14 = nI (p) := by rw [ex_142, mst_self]; first | done | exact hp
  have L_148 : ∀ (n9 : Nat)  (b : Nat) (u1 : Mem) (_ : n9 = t - b) (_ : p ≤ b ∧ b ≤ t ∧ NF x u1 ∧ u1 0 14 = nI b ∧ runE (blP (x 4)) t b = tsN (x 4) t p) (H_149 : Heap) (lo_150 : List Loc) (_ : MR G (wM G B) u1 H_149) (_ : va_S (blkA B (B + 13)) ss.heap H_149 lo_150) (ls : Array Slot) (_ : lv_has ls 2 [(0, .ref (B + (0)))]), W pp l ee rmX8_nextToken ss mm aa bb mt cd H_149 lo_150 0 0 Q (F0 mm 8 ls []) := by
    intro n9
    induction n9 using Nat.strongRecOn with
    | _ n9 ih => 
      have ih_8 := ih
      intro b u1 hn9 hI H_149 lo_150 hX hS ls hl
      obtain ⟨hpb, hbt, hF1, hb14, hrn⟩ := hI
      have h4 : u1 4 = x 4 := hF1.1 4 (by decide)
      have hT1 : u1 0 4 = nI t := by rw [hF1.2 4 (by decide) (by decide) (by decide) (by decide) (by decide)]; exact ht9
      refine lv_aload_n hx hb dX8_nextToken_8 rfl (lv_at hl 0 rfl) ?_
      refine x_get (w := (wM G B)) (a := 0) (v := .int (u1 (0) 14)) hx hb hts iX8_nextToken_X8 hown hK hX (Nat.le_of_ble_eq_true rfl) (shM_0 (G := G) (B := B)) rfl 14 (by decide) (hts _ kX8_nextToken_91) (fun _ h9 => h9) rfl dX8_nextToken_9 ?_
      refine lv_aload_n hx hb dX8_nextToken_12 rfl (lv_at hl 0 rfl) ?_
      refine x_get (w := (wM G B)) (a := 0) (v := .int (u1 (0) 4)) hx hb hts iX8_nextToken_X8 hown hK hX (Nat.le_of_ble_eq_true rfl) (shM_0 (G := G) (B := B)) rfl 4 (by decide) (hts _ kX8_nextToken_82) (fun _ h9 => h9) rfl dX8_nextToken_13 ?_
      refine lv_icmp_ge (tgt := 58) hx hb dX8_nextToken_16 (by decide) (fun c_151 => ?_) (fun c_151 => ?_)
      · have nc_151 := (n_le (a := t) (b := b) hT1 hb14 (by omega) (by omega)).mp c_151
        exact K_1 (u1) (by first | exact ⟨hF1, by rw [hb14, ← hrn, runE_end (by omega)]⟩ | exact ⟨hF1, by rw [hb14, ← hrn, runE_off (p := blP (x 4)) (by show (decide (x 4 b = 32) || decide (x 4 b = 10)) = false; rw [← hbA]; simp [rfl, c_151])]⟩) _ _ hX hS ls (lv_sub hl [0] rfl)
      · have nc_151 := Nat.not_le.mp (fun q => c_151 ((n_le (a := t) (b := b) hT1 hb14 (by omega) (by omega)).mpr q))
        have hbA : bA (u1 4) t b = x 4 b := by rw [h4]; exact if_pos (by omega)
        refine lv_aload_n hx hb dX8_nextToken_19 rfl (lv_at hl 0 rfl) ?_
        refine lv_aload_n hx hb dX8_nextToken_20 rfl (lv_at hl 0 rfl) ?_
        refine x_get (w := (wM G B)) (a := 0) (v := .int (u1 (0) 14)) hx hb hts iX8_nextToken_X8 hown hK hX (Nat.le_of_ble_eq_true rfl) (shM_0 (G := G) (B := B)) rfl 14 (by decide) (hts _ kX8_nextToken_91) (fun _ h9 => h9) rfl dX8_nextToken_21 ?_
        refine W.eq (g2 := F0 mm 24 ls [.int (nI (b)), .ref (B + (0))]) (congrArg (fun z9 : Int32 => F0 mm 24 ls [.int (z9), .ref (B + (0))]) hb14) ?_
        refine x_ip (w := (wM G B)) (x := u1) (v := bA (u1 4) t b) (va_runV (As := [.int (nI (b))]) (rest := []) ⟨hx, hb, hml, hown, hts⟩ (c_X8_byteAt (l := l) (G := G) (B := B) (hW := hW) (x := u1) (k9 := b) (t := t) (ht9 := hT1) (ht400 := ht400) (hk400 := (by omega))) (cwV 1 hts gX8_nextToken_X8_byteAt rfl rfl rfl (by decide +kernel) ⟨Nat.le_of_ble_eq_true rfl, Nat.le_of_ble_eq_true rfl⟩) (x_pv (w := (wM G B)) (a := 0) hW hX hK hE hS [.int (nI (b))] (Nat.le_of_ble_eq_true rfl) (shM_0 (G := G) (B := B)) rfl) rfl rfl hl.1 rfl (lv_room (Nat.le_of_ble_eq_true rfl)) dX8_nextToken_24 ⟨Nat.zero_le _, Nat.zero_le _⟩) hS (fun H_152 lo_153 hX hS => ?_)
        refine lv_bipush (v := 32) hx hb dX8_nextToken_27 (by decide) ?_
        refine lv_icmp_eq (tgt := 45) hx hb dX8_nextToken_29 (by decide) (fun c_154 => ?_) (fun c_154 => ?_)
        · refine lv_aload_n hx hb dX8_nextToken_45 rfl (lv_at hl 0 rfl) ?_
          refine lv_dup hx hb dX8_nextToken_46 rfl ?_
          refine x_get (w := (wM G B)) (a := 0) (v := .int (u1 (0) 14)) hx hb hts iX8_nextToken_X8 hown hK hX (Nat.le_of_ble_eq_true rfl) (shM_0 (G := G) (B := B)) rfl 14 (by decide) (hts _ kX8_nextToken_91) (fun _ h9 => h9) rfl dX8_nextToken_47 ?_
          refine lv_iconst (v := 1) hx hb dX8_nextToken_50 (by decide) ?_
          refine lv_iadd hx hb dX8_nextToken_51 ?_
          refine x_put (w := (wM G B)) (a := 0) (v := (u1 (0) 14) + 1) (ty := .int) hx hb hts iX8_nextToken_X8 tyX8 tyX8_ok nmX8 hown hK hW hX hS (Nat.le_of_ble_eq_true rfl) (shM_0 (G := G) (B := B)) rfl 14 (by decide) (hts _ kX8_nextToken_91) (fun _ h9 => h9) rfl (by decide +kernel) rfl rfl (Nat.le_of_ble_eq_true rfl) (shM_0 (G := G) (B := B)) dX8_nextToken_52 (fun H_156 lo_157 hX hS => ?_)
          obtain ⟨x_155, ex_155⟩ : ∃ z, z = mst u1 (0) 14 ((u1 (0) 14) + 1) := ⟨_, rfl⟩
          rw [← ex_155] at hX
          have z_159 : x_155 (0) 4 = nI (t) := by rw [ex_155, mst_eq, upd_ne (by first | decide | omega)]; exact hT1
          have z_160 : x_155 (0) 14 = nI (b + 1) := by rw [ex_155, mst_self]; first | done | exact (n_add hb14 rfl)
          refine lv_goto (tgt := 8) hx hb dX8_nextToken_55 (by decide) ?_
          exact ih_8 _ (by omega) (b + 1) (x_155) rfl ⟨by omega, by omega, by rw [ex_155]; exact hF1.st (by decide), by rw [ex_155, mst_self]; exact n_add hb14 rfl, by rw [← runE_on (p := blP (x 4)) (by omega) (by show (decide (x 4 b = 32) || decide (x 4 b = 10)) = true; rw [← hbA]; simp [c_154])]; exact hrn⟩ _ _ hX hS ls (lv_sub hl [0] rfl)
        · refine lv_aload_n hx hb dX8_nextToken_32 rfl (lv_at hl 0 rfl) ?_
          refine lv_aload_n hx hb dX8_nextToken_33 rfl (lv_at hl 0 rfl) ?_
          refine x_get (w := (wM G B)) (a := 0) (v := .int (u1 (0) 14)) hx hb hts iX8_nextToken_X8 hown hK hX (Nat.le_of_ble_eq_true rfl) (shM_0 (G := G) (B := B)) rfl 14 (by decide) (hts _ kX8_nextToken_91) (fun _ h9 => h9) rfl dX8_nextToken_34 ?_
          refine W.eq (g2 := F0 mm 37 ls [.int (nI (b)), .ref (B + (0))]) (congrArg (fun z9 : Int32 => F0 mm 37 ls [.int (z9), .ref (B + (0))]) hb14) ?_
          refine x_ip (w := (wM G B)) (x := u1) (v := bA (u1 4) t b) (va_runV (As := [.int (nI (b))]) (rest := []) ⟨hx, hb, hml, hown, hts⟩ (c_X8_byteAt (l := l) (G := G) (B := B) (hW := hW) (x := u1) (k9 := b) (t := t) (ht9 := hT1) (ht400 := ht400) (hk400 := (by omega))) (cwV 1 hts gX8_nextToken_X8_byteAt rfl rfl rfl (by decide +kernel) ⟨Nat.le_of_ble_eq_true rfl, Nat.le_of_ble_eq_true rfl⟩) (x_pv (w := (wM G B)) (a := 0) hW hX hK hE hS [.int (nI (b))] (Nat.le_of_ble_eq_true rfl) (shM_0 (G := G) (B := B)) rfl) rfl rfl hl.1 rfl (lv_room (Nat.le_of_ble_eq_true rfl)) dX8_nextToken_37 ⟨Nat.zero_le _, Nat.zero_le _⟩) hS (fun H_161 lo_162 hX hS => ?_)
          refine lv_bipush (v := 10) hx hb dX8_nextToken_40 (by decide) ?_
          refine lv_icmp_ne (tgt := 58) hx hb dX8_nextToken_42 (by decide) (fun c_163 => ?_) (fun c_163 => ?_)
          · exact K_1 (u1) (by first | exact ⟨hF1, by rw [hb14, ← hrn, runE_end (by omega)]⟩ | exact ⟨hF1, by rw [hb14, ← hrn, runE_off (p := blP (x 4)) (by show (decide (x 4 b = 32) || decide (x 4 b = 10)) = false; rw [← hbA]; simp [c_154, c_163])]⟩) _ _ hX hS ls (lv_sub hl [0] rfl)
          · refine lv_aload_n hx hb dX8_nextToken_45 rfl (lv_at hl 0 rfl) ?_
            refine lv_dup hx hb dX8_nextToken_46 rfl ?_
            refine x_get (w := (wM G B)) (a := 0) (v := .int (u1 (0) 14)) hx hb hts iX8_nextToken_X8 hown hK hX (Nat.le_of_ble_eq_true rfl) (shM_0 (G := G) (B := B)) rfl 14 (by decide) (hts _ kX8_nextToken_91) (fun _ h9 => h9) rfl dX8_nextToken_47 ?_
            refine lv_iconst (v := 1) hx hb dX8_nextToken_50 (by decide) ?_
            refine lv_iadd hx hb dX8_nextToken_51 ?_
            refine x_put (w := (wM G B)) (a := 0) (v := (u1 (0) 14) + 1) (ty := .int) hx hb hts iX8_nextToken_X8 tyX8 tyX8_ok nmX8 hown hK hW hX hS (Nat.le_of_ble_eq_true rfl) (shM_0 (G := G) (B := B)) rfl 14 (by decide) (hts _ kX8_nextToken_91) (fun _ h9 => h9) rfl (by decide +kernel) rfl rfl (Nat.le_of_ble_eq_true rfl) (shM_0 (G := G) (B := B)) dX8_nextToken_52 (fun H_165 lo_166 hX hS => ?_)
            obtain ⟨x_164, ex_164⟩ : ∃ z, z = mst u1 (0) 14 ((u1 (0) 14) + 1) := ⟨_, rfl⟩
            rw [← ex_164] at hX
            have z_168 : x_164 (0) 4 = nI (t) := by rw [ex_164, mst_eq, upd_ne (by first | decide | omega)]; exact hT1
            have z_169 : x_164 (0) 14 = nI (b + 1) := by rw [ex_164, mst_self]; first | done | exact (n_add hb14 rfl)
            refine lv_goto (tgt := 8) hx hb dX8_nextToken_55 (by decide) ?_
            exact ih_8 _ (by omega) (b + 1) (x_164) rfl ⟨by omega, by omega, by rw [ex_164]; exact hF1.st (by decide), by rw [ex_164, mst_self]; exact n_add hb14 rfl, by rw [← runE_on (p := blP (x 4)) (by omega) (by show (decide (x 4 b = 32) || decide (x 4 b = 10)) = true; rw [← hbA]; simp [c_163])]; exact hrn⟩ _ _ hX hS ls (lv_sub hl [0] rfl)
  exact L_148 _ (p) (x_142) rfl ⟨Nat.le_refl _, hpt, by rw [ex_142]; exact NF.rf.st (by decide), by rw [ex_142, mst_self]; exact hp, rfl⟩ _ _ hX hS ls (lv_sub hl [0] rfl)
