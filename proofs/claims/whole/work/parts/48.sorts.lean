abbrev rmX2_sortName_1 : Room := { frames := 0, cells := 0, slots := 0, locals := 0 }
set_option maxHeartbeats 4000000 in
set_option maxRecDepth 100000 in
theorem c_X2_sortName_1 (l : Launch) (G : GG) (B : Nat) (tt : Nat → Nat) (hW : WOK (wX G B tt)) (x : Mem)  : Met l yX2_sortName wsX2_sortName rmX2_sortName_1 (XP G (wX G B tt) [.int (1)] x) (va_Qr (fun u => u = x) (XR G (wX G B tt) (tt (100 + 2))) (blkA B (B + 117))) 0 0 (blkA B (B + 117)) := by
  refine Met.ofW (cc := cX2_sortName) (maxL := 1) (ret := (some (.object "java/lang/String"))) (by decide) rfl ?_
  intro pp ee ss mm aa bb mt cd s1 Bd hml hv
  obtain ⟨hae, hX, hK, hE⟩ := hv
  have hx := Bd.exec
  have hb := Bd.bytes
  have hr := Bd.returns
  have hts := atoms_spec (ws := wsX2_sortName) Bd.pre
  have hown : ss.vm.findClass RX2 = some mm.cls := findClass_of_methodNamed Bd.named
  have hlocks := Bd.notSynchronized
  have hS : va_S (blkA B (B + 117)) ss.heap ss.heap [] := va_S.rf
  have hl := lv_entry ([.int (1)]) (n := 1) (Nat.le_of_ble_eq_true rfl)
  subst hae
  rw [lg_entry_eq]
  generalize (lg_sl ([.int (1)]) ++ List.replicate (1 - (lg_sl ([.int (1)])).length) Slot.unset).toArray = ls at hl ⊢
  have hl : lv_has ls 1 [(0, .int (1))] := hl
  generalize ([.int (1)] : List Value).toArray = aa at hts ⊢
  show W pp l ee rmX2_sortName_1 ss mm aa bb mt cd ss.heap [] 0 0 _ (F0 mm 0 ls [])
  generalize hQ : MQ bb (va_Qr (fun u => u = x) (XR G (wX G B tt) (tt (100 + 2))) (blkA B (B + 117))) aa ss 0 0 (blkA B (B + 117)) = Q
  refine lv_iload_n hx hb dX2_sortName_0 rfl (lv_at hl 0 rfl) ?_
  refine lv_tableIn (tgt := 32) (off := 31) hx hb dX2_sortName_1 (by decide) (by decide) rfl (by decide) ?_
  refine va_ldcS hx hb hown (hE.2.2.1 2 _ _ rfl) dX2_sortName_32 ?_
  rw [← hQ]
  refine x_aret hx hb hr hX hS hlocks dX2_sortName_34 ?_
  rfl

abbrev rmX2_sortName_2 : Room := { frames := 0, cells := 0, slots := 0, locals := 0 }
set_option maxHeartbeats 4000000 in
set_option maxRecDepth 100000 in
theorem c_X2_sortName_2 (l : Launch) (G : GG) (B : Nat) (tt : Nat → Nat) (hW : WOK (wX G B tt)) (x : Mem)  : Met l yX2_sortName wsX2_sortName rmX2_sortName_2 (XP G (wX G B tt) [.int (2)] x) (va_Qr (fun u => u = x) (XR G (wX G B tt) (tt (100 + 3))) (blkA B (B + 117))) 0 0 (blkA B (B + 117)) := by
  refine Met.ofW (cc := cX2_sortName) (maxL := 1) (ret := (some (.object "java/lang/String"))) (by decide) rfl ?_
  intro pp ee ss mm aa bb mt cd s1 Bd hml hv
  obtain ⟨hae, hX, hK, hE⟩ := hv
  have hx := Bd.exec
  have hb := Bd.bytes
  have hr := Bd.returns
  have hts := atoms_spec (ws := wsX2_sortName) Bd.pre
  have hown : ss.vm.findClass RX2 = some mm.cls := findClass_of_methodNamed Bd.named
  have hlocks := Bd.notSynchronized
  have hS : va_S (blkA B (B + 117)) ss.heap ss.heap [] := va_S.rf
  have hl := lv_entry ([.int (2)]) (n := 1) (Nat.le_of_ble_eq_true rfl)
  subst hae
  rw [lg_entry_eq]
  generalize (lg_sl ([.int (2)]) ++ List.replicate (1 - (lg_sl ([.int (2)])).length) Slot.unset).toArray = ls at hl ⊢
  have hl : lv_has ls 1 [(0, .int (2))] := hl
  generalize ([.int (2)] : List Value).toArray = aa at hts ⊢
  show W pp l ee rmX2_sortName_2 ss mm aa bb mt cd ss.heap [] 0 0 _ (F0 mm 0 ls [])
  generalize hQ : MQ bb (va_Qr (fun u => u = x) (XR G (wX G B tt) (tt (100 + 3))) (blkA B (B + 117))) aa ss 0 0 (blkA B (B + 117)) = Q
  refine lv_iload_n hx hb dX2_sortName_0 rfl (lv_at hl 0 rfl) ?_
  refine lv_tableIn (tgt := 35) (off := 34) hx hb dX2_sortName_1 (by decide) (by decide) rfl (by decide) ?_
  refine va_ldcS hx hb hown (hE.2.2.1 3 _ _ rfl) dX2_sortName_35 ?_
  rw [← hQ]
  refine x_aret hx hb hr hX hS hlocks dX2_sortName_37 ?_
  rfl

abbrev rmX2_sortName_3 : Room := { frames := 0, cells := 0, slots := 0, locals := 0 }
set_option maxHeartbeats 4000000 in
set_option maxRecDepth 100000 in
theorem c_X2_sortName_3 (l : Launch) (G : GG) (B : Nat) (tt : Nat → Nat) (hW : WOK (wX G B tt)) (x : Mem)  : Met l yX2_sortName wsX2_sortName rmX2_sortName_3 (XP G (wX G B tt) [.int (3)] x) (va_Qr (fun u => u = x) (XR G (wX G B tt) (tt (100 + 4))) (blkA B (B + 117))) 0 0 (blkA B (B + 117)) := by
  refine Met.ofW (cc := cX2_sortName) (maxL := 1) (ret := (some (.object "java/lang/String"))) (by decide) rfl ?_
  intro pp ee ss mm aa bb mt cd s1 Bd hml hv
  obtain ⟨hae, hX, hK, hE⟩ := hv
  have hx := Bd.exec
  have hb := Bd.bytes
  have hr := Bd.returns
  have hts := atoms_spec (ws := wsX2_sortName) Bd.pre
  have hown : ss.vm.findClass RX2 = some mm.cls := findClass_of_methodNamed Bd.named
  have hlocks := Bd.notSynchronized
  have hS : va_S (blkA B (B + 117)) ss.heap ss.heap [] := va_S.rf
  have hl := lv_entry ([.int (3)]) (n := 1) (Nat.le_of_ble_eq_true rfl)
  subst hae
  rw [lg_entry_eq]
  generalize (lg_sl ([.int (3)]) ++ List.replicate (1 - (lg_sl ([.int (3)])).length) Slot.unset).toArray = ls at hl ⊢
  have hl : lv_has ls 1 [(0, .int (3))] := hl
  generalize ([.int (3)] : List Value).toArray = aa at hts ⊢
  show W pp l ee rmX2_sortName_3 ss mm aa bb mt cd ss.heap [] 0 0 _ (F0 mm 0 ls [])
  generalize hQ : MQ bb (va_Qr (fun u => u = x) (XR G (wX G B tt) (tt (100 + 4))) (blkA B (B + 117))) aa ss 0 0 (blkA B (B + 117)) = Q
  refine lv_iload_n hx hb dX2_sortName_0 rfl (lv_at hl 0 rfl) ?_
  refine lv_tableIn (tgt := 38) (off := 37) hx hb dX2_sortName_1 (by decide) (by decide) rfl (by decide) ?_
  refine va_ldcS hx hb hown (hE.2.2.1 4 _ _ rfl) dX2_sortName_38 ?_
  rw [← hQ]
  refine x_aret hx hb hr hX hS hlocks dX2_sortName_40 ?_
  rfl

abbrev rmX2_sortName_4 : Room := { frames := 0, cells := 0, slots := 0, locals := 0 }
set_option maxHeartbeats 4000000 in
set_option maxRecDepth 100000 in
theorem c_X2_sortName_4 (l : Launch) (G : GG) (B : Nat) (tt : Nat → Nat) (hW : WOK (wX G B tt)) (x : Mem)  : Met l yX2_sortName wsX2_sortName rmX2_sortName_4 (XP G (wX G B tt) [.int (4)] x) (va_Qr (fun u => u = x) (XR G (wX G B tt) (tt (100 + 5))) (blkA B (B + 117))) 0 0 (blkA B (B + 117)) := by
  refine Met.ofW (cc := cX2_sortName) (maxL := 1) (ret := (some (.object "java/lang/String"))) (by decide) rfl ?_
  intro pp ee ss mm aa bb mt cd s1 Bd hml hv
  obtain ⟨hae, hX, hK, hE⟩ := hv
  have hx := Bd.exec
  have hb := Bd.bytes
  have hr := Bd.returns
  have hts := atoms_spec (ws := wsX2_sortName) Bd.pre
  have hown : ss.vm.findClass RX2 = some mm.cls := findClass_of_methodNamed Bd.named
  have hlocks := Bd.notSynchronized
  have hS : va_S (blkA B (B + 117)) ss.heap ss.heap [] := va_S.rf
  have hl := lv_entry ([.int (4)]) (n := 1) (Nat.le_of_ble_eq_true rfl)
  subst hae
  rw [lg_entry_eq]
  generalize (lg_sl ([.int (4)]) ++ List.replicate (1 - (lg_sl ([.int (4)])).length) Slot.unset).toArray = ls at hl ⊢
  have hl : lv_has ls 1 [(0, .int (4))] := hl
  generalize ([.int (4)] : List Value).toArray = aa at hts ⊢
  show W pp l ee rmX2_sortName_4 ss mm aa bb mt cd ss.heap [] 0 0 _ (F0 mm 0 ls [])
  generalize hQ : MQ bb (va_Qr (fun u => u = x) (XR G (wX G B tt) (tt (100 + 5))) (blkA B (B + 117))) aa ss 0 0 (blkA B (B + 117)) = Q
  refine lv_iload_n hx hb dX2_sortName_0 rfl (lv_at hl 0 rfl) ?_
  refine lv_tableIn (tgt := 41) (off := 40) hx hb dX2_sortName_1 (by decide) (by decide) rfl (by decide) ?_
  refine va_ldcS hx hb hown (hE.2.2.1 5 _ _ rfl) dX2_sortName_41 ?_
  rw [← hQ]
  refine x_aret hx hb hr hX hS hlocks dX2_sortName_43 ?_
  rfl

abbrev rmX2_sortName_5 : Room := { frames := 0, cells := 0, slots := 0, locals := 0 }
set_option maxHeartbeats 4000000 in
set_option maxRecDepth 100000 in
theorem c_X2_sortName_5 (l : Launch) (G : GG) (B : Nat) (tt : Nat → Nat) (hW : WOK (wX G B tt)) (x : Mem)  : Met l yX2_sortName wsX2_sortName rmX2_sortName_5 (XP G (wX G B tt) [.int (5)] x) (va_Qr (fun u => u = x) (XR G (wX G B tt) (tt (100 + 6))) (blkA B (B + 117))) 0 0 (blkA B (B + 117)) := by
  refine Met.ofW (cc := cX2_sortName) (maxL := 1) (ret := (some (.object "java/lang/String"))) (by decide) rfl ?_
  intro pp ee ss mm aa bb mt cd s1 Bd hml hv
  obtain ⟨hae, hX, hK, hE⟩ := hv
  have hx := Bd.exec
  have hb := Bd.bytes
  have hr := Bd.returns
  have hts := atoms_spec (ws := wsX2_sortName) Bd.pre
  have hown : ss.vm.findClass RX2 = some mm.cls := findClass_of_methodNamed Bd.named
  have hlocks := Bd.notSynchronized
  have hS : va_S (blkA B (B + 117)) ss.heap ss.heap [] := va_S.rf
  have hl := lv_entry ([.int (5)]) (n := 1) (Nat.le_of_ble_eq_true rfl)
  subst hae
  rw [lg_entry_eq]
  generalize (lg_sl ([.int (5)]) ++ List.replicate (1 - (lg_sl ([.int (5)])).length) Slot.unset).toArray = ls at hl ⊢
  have hl : lv_has ls 1 [(0, .int (5))] := hl
  generalize ([.int (5)] : List Value).toArray = aa at hts ⊢
  show W pp l ee rmX2_sortName_5 ss mm aa bb mt cd ss.heap [] 0 0 _ (F0 mm 0 ls [])
  generalize hQ : MQ bb (va_Qr (fun u => u = x) (XR G (wX G B tt) (tt (100 + 6))) (blkA B (B + 117))) aa ss 0 0 (blkA B (B + 117)) = Q
  refine lv_iload_n hx hb dX2_sortName_0 rfl (lv_at hl 0 rfl) ?_
  refine lv_tableOut (tgt := 44) hx hb dX2_sortName_1 (by decide) (by decide) ?_
  refine va_ldcS hx hb hown (hE.2.2.1 6 _ _ rfl) dX2_sortName_44 ?_
  rw [← hQ]
  refine x_aret hx hb hr hX hS hlocks dX2_sortName_46 ?_
  rfl
