abbrev rmJ3_n : Room := { frames := 0, cells := 0, slots := 0, locals := 0 }
set_option maxHeartbeats 4000000 in
set_option maxRecDepth 100000 in
theorem c_J3_n (l : Launch) (G : GG) (B : Nat) (tt : Nat → Nat) (hW : WOK (wX G B tt)) (x : Mem) (a : Int32) (b : Int32) (ha : ¬ a < 0) (hab : a < b) : Met l yJ3_checkIndex_8e157 wsJ3_checkIndex_8e157 rmJ3_n (XP G (wX G B tt) [.int (a), .int (b), .null] x) (va_Qi (fun r u => r = (a) ∧ u = x) (XB G (wX G B tt)) (blkA B (B + 117))) 0 0 (blkA B (B + 117)) := by
  refine Met.ofW (cc := cJ3_checkIndex_8e157) (maxL := 3) (ret := (some .int)) (by decide) rfl ?_
  intro pp ee ss mm aa bb mt cd s1 Bd hml hv
  obtain ⟨hae, hX, hK, hE⟩ := hv
  have hx := Bd.exec
  have hb := Bd.bytes
  have hr := Bd.returns
  have hts := atoms_spec (ws := wsJ3_checkIndex_8e157) Bd.pre
  have hown : ss.vm.findClass RJ3 = some mm.cls := findClass_of_methodNamed Bd.named
  have hlocks := Bd.notSynchronized
  have hS : va_S (blkA B (B + 117)) ss.heap ss.heap [] := va_S.rf
  have hl := lv_entry ([.int (a), .int (b), .null]) (n := 3) (Nat.le_of_ble_eq_true rfl)
  subst hae
  rw [lg_entry_eq]
  generalize (lg_sl ([.int (a), .int (b), .null]) ++ List.replicate (3 - (lg_sl ([.int (a), .int (b), .null])).length) Slot.unset).toArray = ls at hl ⊢
  have hl : lv_has ls 3 [(0, .int (a)), (1, .int (b)), (2, .null)] := hl
  generalize ([.int (a), .int (b), .null] : List Value).toArray = aa at hts ⊢
  show W pp l ee rmJ3_n ss mm aa bb mt cd ss.heap [] 0 0 _ (F0 mm 0 ls [])
  generalize hQ : MQ bb (va_Qi (fun r u => r = (a) ∧ u = x) (XB G (wX G B tt)) (blkA B (B + 117))) aa ss 0 0 (blkA B (B + 117)) = Q
  refine lv_iload_n hx hb dJ3_checkIndex_8e157_0 rfl (lv_at hl 0 rfl) ?_
  refine lv_if_lt (tgt := 9) hx hb dJ3_checkIndex_8e157_1 (by decide) (fun c_1 => ?_) (fun c_1 => ?_)
  · exact absurd c_1 ha
  · refine lv_iload_n hx hb dJ3_checkIndex_8e157_4 rfl (lv_at hl 0 rfl) ?_
    refine lv_iload_n hx hb dJ3_checkIndex_8e157_5 rfl (lv_at hl 1 rfl) ?_
    refine lv_icmp_lt (tgt := 16) hx hb dJ3_checkIndex_8e157_6 (by decide) (fun c_2 => ?_) (fun c_2 => ?_)
    · refine lv_iload_n hx hb dJ3_checkIndex_8e157_16 rfl (lv_at hl 0 rfl) ?_
      rw [← hQ]
      refine x_iret (v := a) hx hb hr hX hS hlocks dJ3_checkIndex_8e157_17 ?_
      refine ⟨?_, rfl⟩
      first | rfl | simp [c_1, c_2]
    · exact absurd hab c_2

abbrev rmJ3_r : Room := { frames := 0, cells := 0, slots := 0, locals := 0 }
set_option maxHeartbeats 4000000 in
set_option maxRecDepth 100000 in
theorem c_J3_r (l : Launch) (G : GG) (B : Nat) (tt : Nat → Nat) (hW : WOK (wX G B tt)) (x : Mem) (a : Int32) (b : Int32) {t : Nat} (ha : ¬ a < 0) (hab : a < b) : Met l yJ3_checkIndex_8e157 wsJ3_checkIndex_8e157 rmJ3_r (XP G (wX G B tt) [.int (a), .int (b), .ref (t)] x) (va_Qi (fun r u => r = (a) ∧ u = x) (XB G (wX G B tt)) (blkA B (B + 117))) 0 0 (blkA B (B + 117)) := by
  refine Met.ofW (cc := cJ3_checkIndex_8e157) (maxL := 3) (ret := (some .int)) (by decide) rfl ?_
  intro pp ee ss mm aa bb mt cd s1 Bd hml hv
  obtain ⟨hae, hX, hK, hE⟩ := hv
  have hx := Bd.exec
  have hb := Bd.bytes
  have hr := Bd.returns
  have hts := atoms_spec (ws := wsJ3_checkIndex_8e157) Bd.pre
  have hown : ss.vm.findClass RJ3 = some mm.cls := findClass_of_methodNamed Bd.named
  have hlocks := Bd.notSynchronized
  have hS : va_S (blkA B (B + 117)) ss.heap ss.heap [] := va_S.rf
  have hl := lv_entry ([.int (a), .int (b), .ref (t)]) (n := 3) (Nat.le_of_ble_eq_true rfl)
  subst hae
  rw [lg_entry_eq]
  generalize (lg_sl ([.int (a), .int (b), .ref (t)]) ++ List.replicate (3 - (lg_sl ([.int (a), .int (b), .ref (t)])).length) Slot.unset).toArray = ls at hl ⊢
  have hl : lv_has ls 3 [(0, .int (a)), (1, .int (b)), (2, .ref (t))] := hl
  generalize ([.int (a), .int (b), .ref (t)] : List Value).toArray = aa at hts ⊢
  show W pp l ee rmJ3_r ss mm aa bb mt cd ss.heap [] 0 0 _ (F0 mm 0 ls [])
  generalize hQ : MQ bb (va_Qi (fun r u => r = (a) ∧ u = x) (XB G (wX G B tt)) (blkA B (B + 117))) aa ss 0 0 (blkA B (B + 117)) = Q
  refine lv_iload_n hx hb dJ3_checkIndex_8e157_0 rfl (lv_at hl 0 rfl) ?_
  refine lv_if_lt (tgt := 9) hx hb dJ3_checkIndex_8e157_1 (by decide) (fun c_1 => ?_) (fun c_1 => ?_)
  · exact absurd c_1 ha
  · refine lv_iload_n hx hb dJ3_checkIndex_8e157_4 rfl (lv_at hl 0 rfl) ?_
    refine lv_iload_n hx hb dJ3_checkIndex_8e157_5 rfl (lv_at hl 1 rfl) ?_
    refine lv_icmp_lt (tgt := 16) hx hb dJ3_checkIndex_8e157_6 (by decide) (fun c_2 => ?_) (fun c_2 => ?_)
    · refine lv_iload_n hx hb dJ3_checkIndex_8e157_16 rfl (lv_at hl 0 rfl) ?_
      rw [← hQ]
      refine x_iret (v := a) hx hb hr hX hS hlocks dJ3_checkIndex_8e157_17 ?_
      refine ⟨?_, rfl⟩
      first | rfl | simp [c_1, c_2]
    · exact absurd hab c_2

theorem kJ0_checkIndex_df160_1053 : (.fieldLink RJ0 1053 "jdk/internal/util/Preconditions" "SIOOBE_FORMATTER" "Ljava/util/function/BiFunction;" : Cond) ∈ wsJ0_checkIndex_df160 := by decide +kernel
abbrev rmJ0_checkIndex_df160 : Room := { frames := 1, cells := 0, slots := 0, locals := 22 }
set_option maxHeartbeats 4000000 in
set_option maxRecDepth 100000 in
theorem c_J0_checkIndex_df160 (l : Launch) (G : GG) (B : Nat) (tt : Nat → Nat) (hW : WOK (wX G B tt)) (x : Mem) (a : Int32) (b : Int32) (ha : ¬ a < 0) (hab : a < b) : Met l yJ0_checkIndex_df160 wsJ0_checkIndex_df160 rmJ0_checkIndex_df160 (XP G (wX G B tt) [.int (a), .int (b)] x) (va_Qv (fun u => u = (x)) (XB G (wX G B tt)) (blkA B (B + 117))) 0 0 (blkA B (B + 117)) := by
  refine Met.ofW (cc := cJ0_checkIndex_df160) (maxL := 2) (ret := none) (by decide) rfl ?_
  intro pp ee ss mm aa bb mt cd s1 Bd hml hv
  obtain ⟨hae, hX, hK, hE⟩ := hv
  have hx := Bd.exec
  have hb := Bd.bytes
  have hr := Bd.returns
  have hts := atoms_spec (ws := wsJ0_checkIndex_df160) Bd.pre
  have hown : ss.vm.findClass RJ0 = some mm.cls := findClass_of_methodNamed Bd.named
  have hlocks := Bd.notSynchronized
  have hS : va_S (blkA B (B + 117)) ss.heap ss.heap [] := va_S.rf
  have hl := lv_entry ([.int (a), .int (b)]) (n := 2) (Nat.le_of_ble_eq_true rfl)
  subst hae
  rw [lg_entry_eq]
  generalize (lg_sl ([.int (a), .int (b)]) ++ List.replicate (2 - (lg_sl ([.int (a), .int (b)])).length) Slot.unset).toArray = ls at hl ⊢
  have hl : lv_has ls 2 [(0, .int (a)), (1, .int (b))] := hl
  generalize ([.int (a), .int (b)] : List Value).toArray = aa at hts ⊢
  show W pp l ee rmJ0_checkIndex_df160 ss mm aa bb mt cd ss.heap [] 0 0 _ (F0 mm 0 ls [])
  generalize hQ : MQ bb (va_Qv (fun u => u = (x)) (XB G (wX G B tt)) (blkA B (B + 117))) aa ss 0 0 (blkA B (B + 117)) = Q
  refine lv_iload_n hx hb dJ0_checkIndex_df160_0 rfl (lv_at hl 0 rfl) ?_
  refine lv_iload_n hx hb dJ0_checkIndex_df160_1 rfl (lv_at hl 1 rfl) ?_
  rcases hE.2.2.2.2.2 with hz9 | ⟨t9, hz9⟩
  · refine va_gets hx hb hz9 hS hown (hts _ kJ0_checkIndex_df160_1053) (fun _ h9 => h9) dJ0_checkIndex_df160_2 ?_
    refine x_ip (w := (wX G B tt)) (x := x) (v := a) (va_runS (As := [.int (a), .int (b), .null]) (rest := []) ⟨hx, hb, hml, hown, hts⟩ (c_J3_n (l := l) (G := G) (B := B) (tt := tt) (hW := hW) (x := x) (a := a) (b := b) (ha := ha) (hab := hab)) (va_cwS 3 hts gJ0_checkIndex_df160_J3_checkIndex_8e157 rfl rfl rfl (by decide +kernel) ⟨Nat.le_of_ble_eq_true rfl, Nat.le_of_ble_eq_true rfl⟩) (x_ps (w := (wX G B tt)) hW hX hK hE hS [.int (a), .int (b), .null]) rfl rfl hl.1 rfl (lv_room (Nat.le_of_ble_eq_true rfl)) dJ0_checkIndex_df160_5 ⟨Nat.zero_le _, Nat.zero_le _⟩) hS (fun H_1 lo_2 hX hS => ?_)
    refine lv_pop hx hb dJ0_checkIndex_df160_8 rfl ?_
    rw [← hQ]
    refine x_vret hx hb hr hX hS hlocks dJ0_checkIndex_df160_9 ?_
    first | rfl | exact rfl | simp []
  · refine va_gets hx hb hz9 hS hown (hts _ kJ0_checkIndex_df160_1053) (fun _ h9 => h9) dJ0_checkIndex_df160_2 ?_
    refine x_ip (w := (wX G B tt)) (x := x) (v := a) (va_runS (As := [.int (a), .int (b), .ref (t9)]) (rest := []) ⟨hx, hb, hml, hown, hts⟩ (c_J3_r (l := l) (G := G) (B := B) (tt := tt) (hW := hW) (x := x) (a := a) (b := b) (t := t9) (ha := ha) (hab := hab)) (va_cwS 3 hts gJ0_checkIndex_df160_J3_checkIndex_8e157 rfl rfl rfl (by decide +kernel) ⟨Nat.le_of_ble_eq_true rfl, Nat.le_of_ble_eq_true rfl⟩) (x_ps (w := (wX G B tt)) hW hX hK hE hS [.int (a), .int (b), .ref (t9)]) rfl rfl hl.1 rfl (lv_room (Nat.le_of_ble_eq_true rfl)) dJ0_checkIndex_df160_5 ⟨Nat.zero_le _, Nat.zero_le _⟩) hS (fun H_3 lo_4 hX hS => ?_)
    refine lv_pop hx hb dJ0_checkIndex_df160_8 rfl ?_
    rw [← hQ]
    refine x_vret hx hb hr hX hS hlocks dJ0_checkIndex_df160_9 ?_
    first | rfl | exact rfl | simp []

abbrev rmJ1_charAt_3b067 : Room := { frames := 2, cells := 0, slots := 0, locals := 43 }
set_option maxHeartbeats 4000000 in
set_option maxRecDepth 100000 in
theorem c_J1_charAt_3b067 (l : Launch) (G : GG) (B : Nat) (tt : Nat → Nat) (hW : WOK (wX G B tt)) (x : Mem) {q : Nat} {j : Nat} (hq7 : q < 7) (hj : j < slen q) : Met l yJ1_charAt_3b067 wsJ1_charAt_3b067 rmJ1_charAt_3b067 (XP G (wX G B tt) [.ref (tt (200 + q)), .int (nI j)] x) (va_Qi (fun r u => r = (chB q j) ∧ u = x) (XB G (wX G B tt)) (blkA B (B + 117))) 0 0 (blkA B (B + 117)) := by
  refine Met.ofW (cc := cJ1_charAt_3b067) (maxL := 2) (ret := (some .char)) (by decide) rfl ?_
  intro pp ee ss mm aa bb mt cd s1 Bd hml hv
  obtain ⟨hae, hX, hK, hE⟩ := hv
  have hx := Bd.exec
  have hb := Bd.bytes
  have hr := Bd.returns
  have hts := atoms_spec (ws := wsJ1_charAt_3b067) Bd.pre
  have hown : ss.vm.findClass RJ1 = some mm.cls := findClass_of_methodNamed Bd.named
  have hlocks := Bd.notSynchronized
  have hS : va_S (blkA B (B + 117)) ss.heap ss.heap [] := va_S.rf
  have hl := lv_entry ([.ref (tt (200 + q)), .int (nI j)]) (n := 2) (Nat.le_of_ble_eq_true rfl)
  subst hae
  rw [lg_entry_eq]
  generalize (lg_sl ([.ref (tt (200 + q)), .int (nI j)]) ++ List.replicate (2 - (lg_sl ([.ref (tt (200 + q)), .int (nI j)])).length) Slot.unset).toArray = ls at hl ⊢
  have hl : lv_has ls 2 [(0, .ref (tt (200 + q))), (1, .int (nI j))] := hl
  generalize ([.ref (tt (200 + q)), .int (nI j)] : List Value).toArray = aa at hts ⊢
  show W pp l ee rmJ1_charAt_3b067 ss mm aa bb mt cd ss.heap [] 0 0 _ (F0 mm 0 ls [])
  generalize hQ : MQ bb (va_Qi (fun r u => r = (chB q j) ∧ u = x) (XB G (wX G B tt)) (blkA B (B + 117))) aa ss 0 0 (blkA B (B + 117)) = Q
  have hsl := slen_le q hq7
  have hjn : ¬ nI j < 0 := nI_pos (by omega)
  have hjl : nI j < nI (slen q) := nI_lt hj (by omega)
  refine lv_iload_n hx hb dJ1_charAt_3b067_0 rfl (lv_at hl 1 rfl) ?_
  refine lv_aload_n hx hb dJ1_charAt_3b067_1 rfl (lv_at hl 0 rfl) ?_
  refine x_tlenB hx hb hS (hE.2.2.2.1.1 q (by omega)).2.2.2 dJ1_charAt_3b067_2 ?_
  refine x_vp (w := (wX G B tt)) (x1 := x) (va_runS (As := [.int (nI j), .int (nI (slen q))]) (rest := []) ⟨hx, hb, hml, hown, hts⟩ (c_J0_checkIndex_df160 (l := l) (G := G) (B := B) (tt := tt) (hW := hW) (x := x) (a := nI j) (b := nI (slen q)) (ha := hjn) (hab := hjl)) (va_cwS 2 hts gJ1_charAt_3b067_J0_checkIndex_df160 rfl rfl rfl (by decide +kernel) ⟨Nat.le_of_ble_eq_true rfl, Nat.le_of_ble_eq_true rfl⟩) (x_ps (w := (wX G B tt)) hW hX hK hE hS [.int (nI j), .int (nI (slen q))]) rfl rfl hl.1 rfl (lv_room (Nat.le_of_ble_eq_true rfl)) dJ1_charAt_3b067_3 ⟨Nat.zero_le _, Nat.zero_le _⟩) hS (fun H_1 lo_2 hX hS => ?_)
  obtain ⟨x_3, ex_3⟩ : ∃ z, z = x := ⟨_, rfl⟩
  rw [← ex_3] at hX
  refine lv_aload_n hx hb dJ1_charAt_3b067_6 rfl (lv_at hl 0 rfl) ?_
  refine lv_iload_n hx hb dJ1_charAt_3b067_7 rfl (lv_at hl 1 rfl) ?_
  refine x_tldB (f := chB q) hx hb hS (hE.2.2.2.1.1 q (by omega)).2.2.2 rfl hj (Nat.lt_trans (slen_le q (by omega)) (by decide)) dJ1_charAt_3b067_8 ?_
  refine lv_sipush (v := 255) hx hb dJ1_charAt_3b067_9 (by decide) ?_
  refine lv_iand hx hb dJ1_charAt_3b067_12 ?_
  refine lv_i2c (v := (((chB q j) &&& 255 : Int32).toUInt32 % 65536).toInt32) hx hb dJ1_charAt_3b067_13 rfl ?_
  refine W.eq (g2 := F0 mm 14 ls [.int (chB q j)]) (congrArg (fun z9 : Int32 => F0 mm 14 ls [.int (z9)]) (ch_eq q hq7 j hj)) ?_
  rw [← hQ]
  refine x_zret (v := chB q j) (ty := .char) hx hb hr (ch_nar q hq7 j hj) hX hS hlocks dJ1_charAt_3b067_14 ?_
  exact ⟨rfl, ex_3⟩

theorem kJ0_isLatin1_aae02_38 : (.fieldLink RJ0 38 "java/lang/String" "COMPACT_STRINGS" "Z" : Cond) ∈ wsJ0_isLatin1_aae02 := by decide +kernel
theorem kJ0_isLatin1_aae02_15 : (.fieldLink RJ0 15 "java/lang/String" "coder" "B" : Cond) ∈ wsJ0_isLatin1_aae02 := by decide +kernel
abbrev rmJ0_isLatin1_aae02 : Room := { frames := 0, cells := 0, slots := 0, locals := 0 }
set_option maxHeartbeats 4000000 in
set_option maxRecDepth 100000 in
theorem c_J0_isLatin1_aae02 (l : Launch) (G : GG) (B : Nat) (tt : Nat → Nat) (hW : WOK (wX G B tt)) (x : Mem) {q : Nat} (hq7 : q < 7) : Met l yJ0_isLatin1_aae02 wsJ0_isLatin1_aae02 rmJ0_isLatin1_aae02 (XP G (wX G B tt) [.ref (tt (100 + q))] x) (va_Qi (fun r u => r = bI (true) ∧ u = x) (XB G (wX G B tt)) (blkA B (B + 117))) 0 0 (blkA B (B + 117)) := by
  refine Met.ofW (cc := cJ0_isLatin1_aae02) (maxL := 1) (ret := (some .boolean)) (by decide) rfl ?_
  intro pp ee ss mm aa bb mt cd s1 Bd hml hv
  obtain ⟨hae, hX, hK, hE⟩ := hv
  have hx := Bd.exec
  have hb := Bd.bytes
  have hr := Bd.returns
  have hts := atoms_spec (ws := wsJ0_isLatin1_aae02) Bd.pre
  have hown : ss.vm.findClass RJ0 = some mm.cls := findClass_of_methodNamed Bd.named
  have hlocks := Bd.notSynchronized
  have hS : va_S (blkA B (B + 117)) ss.heap ss.heap [] := va_S.rf
  have hl := lv_entry ([.ref (tt (100 + q))]) (n := 1) (Nat.le_of_ble_eq_true rfl)
  subst hae
  rw [lg_entry_eq]
  generalize (lg_sl ([.ref (tt (100 + q))]) ++ List.replicate (1 - (lg_sl ([.ref (tt (100 + q))])).length) Slot.unset).toArray = ls at hl ⊢
  have hl : lv_has ls 1 [(0, .ref (tt (100 + q)))] := hl
  generalize ([.ref (tt (100 + q))] : List Value).toArray = aa at hts ⊢
  show W pp l ee rmJ0_isLatin1_aae02 ss mm aa bb mt cd ss.heap [] 0 0 _ (F0 mm 0 ls [])
  generalize hQ : MQ bb (va_Qi (fun r u => r = bI (true) ∧ u = x) (XB G (wX G B tt)) (blkA B (B + 117))) aa ss 0 0 (blkA B (B + 117)) = Q
  refine va_gets hx hb hE.2.2.2.2.1 hS hown (hts _ kJ0_isLatin1_aae02_38) (fun _ h9 => h9) dJ0_isLatin1_aae02_0 ?_
  have kJ_3 : ∀ (v_2 : Bool) (_ : v_2 = (if ((1 : Int32)) = 0 then false else (if ((0 : Int32)) = 0 then true else false))) (H_4 : Heap) (lo_5 : List Loc) (_ : MR G (wX G B tt) x H_4) (_ : va_S (blkA B (B + 117)) ss.heap H_4 lo_5) (ls : Array Slot) (_ : lv_has ls 1 [(0, .ref (tt (100 + q)))]), W pp l ee rmJ0_isLatin1_aae02 ss mm aa bb mt cd H_4 lo_5 0 0 Q (F0 mm 18 ls [.int (bI (v_2))]) := by
    intro v_2 ev_2 H_4 lo_5 hX hS ls hl
    rw [← hQ]
    refine x_zret (v := bI (v_2)) (ty := .boolean) hx hb hr (bI_nar _) hX hS hlocks dJ0_isLatin1_aae02_18 ?_
    refine ⟨?_, rfl⟩
    rw [ev_2]
    rfl
  refine lv_if_eq (tgt := 17) hx hb dJ0_isLatin1_aae02_3 (by decide) (fun c_1 => ?_) (fun c_1 => ?_)
  · refine lv_iconst (v := 0) hx hb dJ0_isLatin1_aae02_17 (by decide) ?_
    exact kJ_3 (false) (by rw [if_pos c_1]) _ _ hX hS ls (lv_sub hl [0] rfl)
  · refine lv_aload_n hx hb dJ0_isLatin1_aae02_6 rfl (lv_at hl 0 rfl) ?_
    refine vk_getf hx hb (hE.2.2.2.1.1 q (by omega)).2.1 hS hown (hts _ kJ0_isLatin1_aae02_15) (fun _ h9 => h9) dJ0_isLatin1_aae02_7 ?_
    refine lv_if_ne (tgt := 17) hx hb dJ0_isLatin1_aae02_10 (by decide) (fun c_6 => ?_) (fun c_6 => ?_)
    · refine lv_iconst (v := 0) hx hb dJ0_isLatin1_aae02_17 (by decide) ?_
      exact kJ_3 (false) (by rw [if_neg c_1, if_neg c_6]) _ _ hX hS ls (lv_sub hl [0] rfl)
    · refine lv_iconst (v := 1) hx hb dJ0_isLatin1_aae02_13 (by decide) ?_
      refine lv_goto (tgt := 18) hx hb dJ0_isLatin1_aae02_14 (by decide) ?_
      exact kJ_3 (true) (by rw [if_neg c_1, if_pos c_6]) _ _ hX hS ls (lv_sub hl [0] rfl)

theorem kJ0_coder_7d493_38 : (.fieldLink RJ0 38 "java/lang/String" "COMPACT_STRINGS" "Z" : Cond) ∈ wsJ0_coder_7d493 := by decide +kernel
theorem kJ0_coder_7d493_15 : (.fieldLink RJ0 15 "java/lang/String" "coder" "B" : Cond) ∈ wsJ0_coder_7d493 := by decide +kernel
abbrev rmJ0_coder_7d493 : Room := { frames := 0, cells := 0, slots := 0, locals := 0 }
set_option maxHeartbeats 4000000 in
set_option maxRecDepth 100000 in
theorem c_J0_coder_7d493 (l : Launch) (G : GG) (B : Nat) (tt : Nat → Nat) (hW : WOK (wX G B tt)) (x : Mem) {q : Nat} (hq7 : q < 7) : Met l yJ0_coder_7d493 wsJ0_coder_7d493 rmJ0_coder_7d493 (XP G (wX G B tt) [.ref (tt (100 + q))] x) (va_Qi (fun r u => r = (0) ∧ u = x) (XB G (wX G B tt)) (blkA B (B + 117))) 0 0 (blkA B (B + 117)) := by
  refine Met.ofW (cc := cJ0_coder_7d493) (maxL := 1) (ret := (some .byte)) (by decide) rfl ?_
  intro pp ee ss mm aa bb mt cd s1 Bd hml hv
  obtain ⟨hae, hX, hK, hE⟩ := hv
  have hx := Bd.exec
  have hb := Bd.bytes
  have hr := Bd.returns
  have hts := atoms_spec (ws := wsJ0_coder_7d493) Bd.pre
  have hown : ss.vm.findClass RJ0 = some mm.cls := findClass_of_methodNamed Bd.named
  have hlocks := Bd.notSynchronized
  have hS : va_S (blkA B (B + 117)) ss.heap ss.heap [] := va_S.rf
  have hl := lv_entry ([.ref (tt (100 + q))]) (n := 1) (Nat.le_of_ble_eq_true rfl)
  subst hae
  rw [lg_entry_eq]
  generalize (lg_sl ([.ref (tt (100 + q))]) ++ List.replicate (1 - (lg_sl ([.ref (tt (100 + q))])).length) Slot.unset).toArray = ls at hl ⊢
  have hl : lv_has ls 1 [(0, .ref (tt (100 + q)))] := hl
  generalize ([.ref (tt (100 + q))] : List Value).toArray = aa at hts ⊢
  show W pp l ee rmJ0_coder_7d493 ss mm aa bb mt cd ss.heap [] 0 0 _ (F0 mm 0 ls [])
  generalize hQ : MQ bb (va_Qi (fun r u => r = (0) ∧ u = x) (XB G (wX G B tt)) (blkA B (B + 117))) aa ss 0 0 (blkA B (B + 117)) = Q
  refine va_gets hx hb hE.2.2.2.2.1 hS hown (hts _ kJ0_coder_7d493_38) (fun _ h9 => h9) dJ0_coder_7d493_0 ?_
  have kJ_3 : ∀ (v_2 : Int32) (_ : v_2 = (if ((1 : Int32)) = 0 then (1 : Int32) else ((0 : Int32)))) (H_4 : Heap) (lo_5 : List Loc) (_ : MR G (wX G B tt) x H_4) (_ : va_S (blkA B (B + 117)) ss.heap H_4 lo_5) (ls : Array Slot) (_ : lv_has ls 1 [(0, .ref (tt (100 + q)))]), W pp l ee rmJ0_coder_7d493 ss mm aa bb mt cd H_4 lo_5 0 0 Q (F0 mm 14 ls [.int (v_2)]) := by
    intro v_2 ev_2 H_4 lo_5 hX hS ls hl
    rw [← hQ]
    refine x_zret (v := v_2) (ty := .byte) hx hb hr (by rw [ev_2]; rfl) hX hS hlocks dJ0_coder_7d493_14 ?_
    refine ⟨?_, rfl⟩
    rw [ev_2]
    rfl
  refine lv_if_eq (tgt := 13) hx hb dJ0_coder_7d493_3 (by decide) (fun c_1 => ?_) (fun c_1 => ?_)
  · refine lv_iconst (v := 1) hx hb dJ0_coder_7d493_13 (by decide) ?_
    exact kJ_3 (1) (by rw [if_pos c_1]) _ _ hX hS ls (lv_sub hl [0] rfl)
  · refine lv_aload_n hx hb dJ0_coder_7d493_6 rfl (lv_at hl 0 rfl) ?_
    refine vk_getf hx hb (hE.2.2.2.1.1 q (by omega)).2.1 hS hown (hts _ kJ0_coder_7d493_15) (fun _ h9 => h9) dJ0_coder_7d493_7 ?_
    refine lv_goto (tgt := 14) hx hb dJ0_coder_7d493_10 (by decide) ?_
    exact kJ_3 ((0 : Int32)) (by rw [if_neg c_1]) _ _ hX hS ls (lv_sub hl [0] rfl)

theorem kJ0_length_8abf5_9 : (.fieldLink RJ0 9 "java/lang/String" "value" "[B" : Cond) ∈ wsJ0_length_8abf5 := by decide +kernel
abbrev rmJ0_length_8abf5 : Room := { frames := 1, cells := 0, slots := 0, locals := 20 }
set_option maxHeartbeats 4000000 in
set_option maxRecDepth 100000 in
theorem c_J0_length_8abf5 (l : Launch) (G : GG) (B : Nat) (tt : Nat → Nat) (hW : WOK (wX G B tt)) (x : Mem) {q : Nat} (hq7 : q < 7) : Met l yJ0_length_8abf5 wsJ0_length_8abf5 rmJ0_length_8abf5 (XP G (wX G B tt) [.ref (tt (100 + q))] x) (va_Qi (fun r u => r = (nI (slen q)) ∧ u = x) (XB G (wX G B tt)) (blkA B (B + 117))) 0 0 (blkA B (B + 117)) := by
  refine Met.ofW (cc := cJ0_length_8abf5) (maxL := 1) (ret := (some .int)) (by decide) rfl ?_
  intro pp ee ss mm aa bb mt cd s1 Bd hml hv
  obtain ⟨hae, hX, hK, hE⟩ := hv
  have hx := Bd.exec
  have hb := Bd.bytes
  have hr := Bd.returns
  have hts := atoms_spec (ws := wsJ0_length_8abf5) Bd.pre
  have hown : ss.vm.findClass RJ0 = some mm.cls := findClass_of_methodNamed Bd.named
  have hlocks := Bd.notSynchronized
  have hS : va_S (blkA B (B + 117)) ss.heap ss.heap [] := va_S.rf
  have hl := lv_entry ([.ref (tt (100 + q))]) (n := 1) (Nat.le_of_ble_eq_true rfl)
  subst hae
  rw [lg_entry_eq]
  generalize (lg_sl ([.ref (tt (100 + q))]) ++ List.replicate (1 - (lg_sl ([.ref (tt (100 + q))])).length) Slot.unset).toArray = ls at hl ⊢
  have hl : lv_has ls 1 [(0, .ref (tt (100 + q)))] := hl
  generalize ([.ref (tt (100 + q))] : List Value).toArray = aa at hts ⊢
  show W pp l ee rmJ0_length_8abf5 ss mm aa bb mt cd ss.heap [] 0 0 _ (F0 mm 0 ls [])
  generalize hQ : MQ bb (va_Qi (fun r u => r = (nI (slen q)) ∧ u = x) (XB G (wX G B tt)) (blkA B (B + 117))) aa ss 0 0 (blkA B (B + 117)) = Q
  refine lv_aload_n hx hb dJ0_length_8abf5_0 rfl (lv_at hl 0 rfl) ?_
  refine vk_getf hx hb (hE.2.2.2.1.1 q (by omega)).2.2.1 hS hown (hts _ kJ0_length_8abf5_9) (fun _ h9 => h9) dJ0_length_8abf5_1 ?_
  refine x_tlenB hx hb hS (hE.2.2.2.1.1 q (by omega)).2.2.2 dJ0_length_8abf5_4 ?_
  refine lv_aload_n hx hb dJ0_length_8abf5_5 rfl (lv_at hl 0 rfl) ?_
  refine x_ip (w := (wX G B tt)) (x := x) (v := 0) (va_runV (As := []) (rest := [.int (nI (slen q))]) ⟨hx, hb, hml, hown, hts⟩ (c_J0_coder_7d493 (l := l) (G := G) (B := B) (tt := tt) (hW := hW) (x := x) (q := q) (hq7 := (by omega))) (cwV 0 hts gJ0_length_8abf5_J0_coder_7d493 rfl rfl rfl (by decide +kernel) ⟨Nat.le_of_ble_eq_true rfl, Nat.le_of_ble_eq_true rfl⟩) (x_pvs hW hX hK hE hS [] (q := q) (by omega)) rfl rfl hl.1 rfl (lv_room (Nat.le_of_ble_eq_true rfl)) dJ0_length_8abf5_6 ⟨Nat.zero_le _, Nat.zero_le _⟩) hS (fun H_1 lo_2 hX hS => ?_)
  refine lv_ishr hx hb dJ0_length_8abf5_9 ?_
  rw [← hQ]
  refine x_iret (v := (nI (slen q)) >>> (0 &&& 31)) hx hb hr hX hS hlocks dJ0_length_8abf5_10 ?_
  exact ⟨len_shr0 q hq7, rfl⟩

theorem kJ0_charAt_5068e_9 : (.fieldLink RJ0 9 "java/lang/String" "value" "[B" : Cond) ∈ wsJ0_charAt_5068e := by decide +kernel
abbrev rmJ0_charAt_5068e : Room := { frames := 3, cells := 0, slots := 0, locals := 64 }
set_option maxHeartbeats 4000000 in
set_option maxRecDepth 100000 in
theorem c_J0_charAt_5068e (l : Launch) (G : GG) (B : Nat) (tt : Nat → Nat) (hW : WOK (wX G B tt)) (x : Mem) {q : Nat} {j : Nat} (hq7 : q < 7) (hj : j < slen q) : Met l yJ0_charAt_5068e wsJ0_charAt_5068e rmJ0_charAt_5068e (XP G (wX G B tt) [.ref (tt (100 + q)), .int (nI j)] x) (va_Qi (fun r u => r = (chB q j) ∧ u = x) (XB G (wX G B tt)) (blkA B (B + 117))) 0 0 (blkA B (B + 117)) := by
  refine Met.ofW (cc := cJ0_charAt_5068e) (maxL := 2) (ret := (some .char)) (by decide) rfl ?_
  intro pp ee ss mm aa bb mt cd s1 Bd hml hv
  obtain ⟨hae, hX, hK, hE⟩ := hv
  have hx := Bd.exec
  have hb := Bd.bytes
  have hr := Bd.returns
  have hts := atoms_spec (ws := wsJ0_charAt_5068e) Bd.pre
  have hown : ss.vm.findClass RJ0 = some mm.cls := findClass_of_methodNamed Bd.named
  have hlocks := Bd.notSynchronized
  have hS : va_S (blkA B (B + 117)) ss.heap ss.heap [] := va_S.rf
  have hl := lv_entry ([.ref (tt (100 + q)), .int (nI j)]) (n := 2) (Nat.le_of_ble_eq_true rfl)
  subst hae
  rw [lg_entry_eq]
  generalize (lg_sl ([.ref (tt (100 + q)), .int (nI j)]) ++ List.replicate (2 - (lg_sl ([.ref (tt (100 + q)), .int (nI j)])).length) Slot.unset).toArray = ls at hl ⊢
  have hl : lv_has ls 2 [(0, .ref (tt (100 + q))), (1, .int (nI j))] := hl
  generalize ([.ref (tt (100 + q)), .int (nI j)] : List Value).toArray = aa at hts ⊢
  show W pp l ee rmJ0_charAt_5068e ss mm aa bb mt cd ss.heap [] 0 0 _ (F0 mm 0 ls [])
  generalize hQ : MQ bb (va_Qi (fun r u => r = (chB q j) ∧ u = x) (XB G (wX G B tt)) (blkA B (B + 117))) aa ss 0 0 (blkA B (B + 117)) = Q
  refine lv_aload_n hx hb dJ0_charAt_5068e_0 rfl (lv_at hl 0 rfl) ?_
  refine x_ip (w := (wX G B tt)) (x := x) (v := bI (true)) (va_runV (As := []) (rest := []) ⟨hx, hb, hml, hown, hts⟩ (c_J0_isLatin1_aae02 (l := l) (G := G) (B := B) (tt := tt) (hW := hW) (x := x) (q := q) (hq7 := (by omega))) (cwV 0 hts gJ0_charAt_5068e_J0_isLatin1_aae02 rfl rfl rfl (by decide +kernel) ⟨Nat.le_of_ble_eq_true rfl, Nat.le_of_ble_eq_true rfl⟩) (x_pvs hW hX hK hE hS [] (q := q) (by omega)) rfl rfl hl.1 rfl (lv_room (Nat.le_of_ble_eq_true rfl)) dJ0_charAt_5068e_1 ⟨Nat.zero_le _, Nat.zero_le _⟩) hS (fun H_1 lo_2 hX hS => ?_)
  refine x_ifeq (tgt := 16) hx hb dJ0_charAt_5068e_4 (by decide) (fun c_3 => ?_) (fun c_3 => ?_)
  · exact absurd c_3 (by decide)
  · refine lv_aload_n hx hb dJ0_charAt_5068e_7 rfl (lv_at hl 0 rfl) ?_
    refine vk_getf hx hb (hE.2.2.2.1.1 q (by omega)).2.2.1 hS hown (hts _ kJ0_charAt_5068e_9) (fun _ h9 => h9) dJ0_charAt_5068e_8 ?_
    refine lv_iload_n hx hb dJ0_charAt_5068e_11 rfl (lv_at hl 1 rfl) ?_
    refine x_ip (w := (wX G B tt)) (x := x) (v := chB q j) (va_runS (As := [.ref (tt (200 + q)), .int (nI j)]) (rest := []) ⟨hx, hb, hml, hown, hts⟩ (c_J1_charAt_3b067 (l := l) (G := G) (B := B) (tt := tt) (hW := hW) (x := x) (q := q) (j := j) (hq7 := (by omega)) (hj := hj)) (va_cwS 2 hts gJ0_charAt_5068e_J1_charAt_3b067 rfl rfl rfl (by decide +kernel) ⟨Nat.le_of_ble_eq_true rfl, Nat.le_of_ble_eq_true rfl⟩) (x_ps (w := (wX G B tt)) hW hX hK hE hS [.ref (tt (200 + q)), .int (nI j)]) rfl rfl hl.1 rfl (lv_room (Nat.le_of_ble_eq_true rfl)) dJ0_charAt_5068e_12 ⟨Nat.zero_le _, Nat.zero_le _⟩) hS (fun H_4 lo_5 hX hS => ?_)
    rw [← hQ]
    refine x_zret (v := chB q j) (ty := .char) hx hb hr (ch_nar q hq7 j hj) hX hS hlocks dJ0_charAt_5068e_15 ?_
    refine ⟨?_, rfl⟩
    first | rfl | simp [c_3]
