theorem kX5_blanksEnd_15 : (.fieldLink RX5 15 "WindTaken$Tape" "length" "I" : Cond) ∈ wsX5_blanksEnd := by decide +kernel
theorem iX5_blanksEnd_X5 : ∀ w ∈ wsX50, w ∈ wsX5_blanksEnd := by decide +kernel
theorem kX5_blanksEnd_9 : (.fieldLink RX5 9 "WindTaken$Tape" "bytes" "[B" : Cond) ∈ wsX5_blanksEnd := by decide +kernel
abbrev rmX5_blanksEnd : Room := { frames := 0, cells := 0, slots := 0, locals := 0 }
set_option maxHeartbeats 4000000 in
set_option maxRecDepth 100000 in
theorem c_X5_blanksEnd (l : Launch) (G : GG) (B : Nat) (tt : Nat → Nat) (hW : WOK (wX G B tt)) (x : Mem) {i : Nat} {t : Nat} (ht9 : x 3 1 = nI t) (ht400 : t ≤ 400) (hit : i ≤ t) : Met l yX5_blanksEnd wsX5_blanksEnd rmX5_blanksEnd (XP G (wX G B tt) [.ref (B + (3)), .int (nI i)] x) (va_Qi (fun r u => r = (nI (runE (blP (x 4)) t i)) ∧ u = x) (XB G (wX G B tt)) (blkA B (B + 117))) 0 0 (blkA B (B + 117)) := by
  refine Met.ofW (cc := cX5_blanksEnd) (maxL := 3) (ret := (some .int)) (by decide) rfl ?_
  intro pp ee ss mm aa bb mt cd s1 Bd hml hv
  obtain ⟨hae, hX, hK, hE⟩ := hv
  have hx := Bd.exec
  have hb := Bd.bytes
  have hr := Bd.returns
  have hts := atoms_spec (ws := wsX5_blanksEnd) Bd.pre
  have hown : ss.vm.findClass RX5 = some mm.cls := findClass_of_methodNamed Bd.named
  have hlocks := Bd.notSynchronized
  have hS : va_S (blkA B (B + 117)) ss.heap ss.heap [] := va_S.rf
  have hl := lv_entry ([.ref (B + (3)), .int (nI i)]) (n := 3) (Nat.le_of_ble_eq_true rfl)
  subst hae
  rw [lg_entry_eq]
  generalize (lg_sl ([.ref (B + (3)), .int (nI i)]) ++ List.replicate (3 - (lg_sl ([.ref (B + (3)), .int (nI i)])).length) Slot.unset).toArray = ls at hl ⊢
  have hl : lv_has ls 3 [(0, .ref (B + (3))), (1, .int (nI i))] := hl
  generalize ([.ref (B + (3)), .int (nI i)] : List Value).toArray = aa at hts ⊢
  show W pp l ee rmX5_blanksEnd ss mm aa bb mt cd ss.heap [] 0 0 _ (F0 mm 0 ls [])
  generalize hQ : MQ bb (va_Qi (fun r u => r = (nI (runE (blP (x 4)) t i)) ∧ u = x) (XB G (wX G B tt)) (blkA B (B + 117))) aa ss 0 0 (blkA B (B + 117)) = Q
  refine lv_iload_n hx hb dX5_blanksEnd_0 rfl (lv_at hl 1 rfl) ?_
  refine lv_istore_n (lv' := [(2, .int (nI i)), (0, .ref (B + (3))), (1, .int (nI i))]) hx hb dX5_blanksEnd_1 rfl hl (by decide) rfl (fun ls hl => ?_)
  have L_1 : ∀ (n9 : Nat) (k : Nat)  (_ : n9 = t - k) (_ : i ≤ k ∧ k ≤ t ∧ runE (blP (x 4)) t k = runE (blP (x 4)) t i) (H_2 : Heap) (lo_3 : List Loc) (_ : MR G (wX G B tt) x H_2) (_ : va_S (blkA B (B + 117)) ss.heap H_2 lo_3) (ls : Array Slot) (_ : lv_has ls 3 [(2, .int (nI k)), (0, .ref (B + (3))), (1, .int (nI i))]), W pp l ee rmX5_blanksEnd ss mm aa bb mt cd H_2 lo_3 0 0 Q (F0 mm 2 ls []) := by
    intro n9
    induction n9 using Nat.strongRecOn with
    | _ n9 ih => 
      have ih_2 := ih
      intro k hn9 hI H_2 lo_3 hX hS ls hl
      obtain ⟨hk1, hk2, hrn⟩ := hI
      refine lv_iload_n hx hb dX5_blanksEnd_2 rfl (lv_at hl 0 rfl) ?_
      refine lv_aload_n hx hb dX5_blanksEnd_3 rfl (lv_at hl 1 rfl) ?_
      refine x_get (w := (wX G B tt)) (a := 3) (v := .int (x (3) 1)) hx hb hts iX5_blanksEnd_X5 hown hK hX (Nat.le_of_ble_eq_true rfl) (shX_tp (G := G) (B := B)) rfl 1 (by decide) (hts _ kX5_blanksEnd_15) (fun _ h9 => h9) rfl dX5_blanksEnd_4 ?_
      refine lv_icmp_ge (tgt := 38) hx hb dX5_blanksEnd_7 (by decide) (fun c_4 => ?_) (fun c_4 => ?_)
      · have nc_4 := (n_le (a := t) (b := k) ht9 rfl (by omega) (by omega)).mp c_4
        refine lv_iload_n hx hb dX5_blanksEnd_38 rfl (lv_at hl 0 rfl) ?_
        rw [← hQ]
        refine x_iret (v := nI k) hx hb hr hX hS hlocks dX5_blanksEnd_39 ?_
        first | exact ⟨by rw [← hrn, runE_end (by omega)], rfl⟩ | exact ⟨by rw [← hrn, runE_off (p := blP (x 4)) (by simp [blP, c_4, rfl])], rfl⟩
      · have nc_4 := Nat.not_le.mp (fun q => c_4 ((n_le (a := t) (b := k) ht9 rfl (by omega) (by omega)).mpr q))
        refine lv_aload_n hx hb dX5_blanksEnd_10 rfl (lv_at hl 1 rfl) ?_
        refine x_get (w := (wX G B tt)) (a := 3) (v := .ref (B + (4))) hx hb hts iX5_blanksEnd_X5 hown hK hX (Nat.le_of_ble_eq_true rfl) (shX_tp (G := G) (B := B)) rfl 0 (by decide) (hts _ kX5_blanksEnd_9) (fun _ h9 => h9) rfl dX5_blanksEnd_11 ?_
        refine lv_iload_n hx hb dX5_blanksEnd_14 rfl (lv_at hl 0 rfl) ?_
        refine x_bald (w := (wX G B tt)) (a := 4) (n := 400) (j := k) hx hb hK hX (Nat.le_of_ble_eq_true rfl) (shX_tb (G := G) (B := B) (f := x (4))) rfl (by omega) (by decide) dX5_blanksEnd_15 ?_
        refine lv_bipush (v := 32) hx hb dX5_blanksEnd_16 (by decide) ?_
        refine lv_icmp_eq (tgt := 32) hx hb dX5_blanksEnd_18 (by decide) (fun c_5 => ?_) (fun c_5 => ?_)
        · refine lv_iinc (v := nI (k + 1)) (lv' := [(2, .int (nI (k + 1))), (0, .ref (B + (3))), (1, .int (nI i))]) hx hb dX5_blanksEnd_32 hl (k := 0) rfl (inc_nI _) (by decide) rfl (fun ls hl => ?_)
          refine lv_goto (tgt := 2) hx hb dX5_blanksEnd_35 (by decide) ?_
          exact ih_2 _ (by omega) (k + 1) rfl ⟨by omega, by omega, by rw [← runE_on (p := blP (x 4)) (by omega) (by simp [blP, c_5])]; exact hrn⟩ _ _ hX hS ls (lv_sub hl [0, 1, 2] rfl)
        · refine lv_aload_n hx hb dX5_blanksEnd_21 rfl (lv_at hl 1 rfl) ?_
          refine x_get (w := (wX G B tt)) (a := 3) (v := .ref (B + (4))) hx hb hts iX5_blanksEnd_X5 hown hK hX (Nat.le_of_ble_eq_true rfl) (shX_tp (G := G) (B := B)) rfl 0 (by decide) (hts _ kX5_blanksEnd_9) (fun _ h9 => h9) rfl dX5_blanksEnd_22 ?_
          refine lv_iload_n hx hb dX5_blanksEnd_25 rfl (lv_at hl 0 rfl) ?_
          refine x_bald (w := (wX G B tt)) (a := 4) (n := 400) (j := k) hx hb hK hX (Nat.le_of_ble_eq_true rfl) (shX_tb (G := G) (B := B) (f := x (4))) rfl (by omega) (by decide) dX5_blanksEnd_26 ?_
          refine lv_bipush (v := 10) hx hb dX5_blanksEnd_27 (by decide) ?_
          refine lv_icmp_ne (tgt := 38) hx hb dX5_blanksEnd_29 (by decide) (fun c_6 => ?_) (fun c_6 => ?_)
          · refine lv_iload_n hx hb dX5_blanksEnd_38 rfl (lv_at hl 0 rfl) ?_
            rw [← hQ]
            refine x_iret (v := nI k) hx hb hr hX hS hlocks dX5_blanksEnd_39 ?_
            first | exact ⟨by rw [← hrn, runE_end (by omega)], rfl⟩ | exact ⟨by rw [← hrn, runE_off (p := blP (x 4)) (by simp [blP, c_6, c_5])], rfl⟩
          · refine lv_iinc (v := nI (k + 1)) (lv' := [(2, .int (nI (k + 1))), (0, .ref (B + (3))), (1, .int (nI i))]) hx hb dX5_blanksEnd_32 hl (k := 0) rfl (inc_nI _) (by decide) rfl (fun ls hl => ?_)
            refine lv_goto (tgt := 2) hx hb dX5_blanksEnd_35 (by decide) ?_
            exact ih_2 _ (by omega) (k + 1) rfl ⟨by omega, by omega, by rw [← runE_on (p := blP (x 4)) (by omega) (by simp [blP, c_6])]; exact hrn⟩ _ _ hX hS ls (lv_sub hl [0, 1, 2] rfl)
  exact L_1 _ (i) rfl ⟨Nat.le_refl _, hit, rfl⟩ _ _ hX hS ls (lv_sub hl [0, 1, 2] rfl)

theorem kX5_lettersEnd_15 : (.fieldLink RX5 15 "WindTaken$Tape" "length" "I" : Cond) ∈ wsX5_lettersEnd := by decide +kernel
theorem iX5_lettersEnd_X5 : ∀ w ∈ wsX50, w ∈ wsX5_lettersEnd := by decide +kernel
theorem kX5_lettersEnd_9 : (.fieldLink RX5 9 "WindTaken$Tape" "bytes" "[B" : Cond) ∈ wsX5_lettersEnd := by decide +kernel
abbrev rmX5_lettersEnd : Room := { frames := 0, cells := 0, slots := 0, locals := 0 }
set_option maxHeartbeats 4000000 in
set_option maxRecDepth 100000 in
theorem c_X5_lettersEnd (l : Launch) (G : GG) (B : Nat) (tt : Nat → Nat) (hW : WOK (wX G B tt)) (x : Mem) {i : Nat} {t : Nat} (ht9 : x 3 1 = nI t) (ht400 : t ≤ 400) (hit : i ≤ t) : Met l yX5_lettersEnd wsX5_lettersEnd rmX5_lettersEnd (XP G (wX G B tt) [.ref (B + (3)), .int (nI i)] x) (va_Qi (fun r u => r = (nI (runE (leP (x 4)) t i)) ∧ u = x) (XB G (wX G B tt)) (blkA B (B + 117))) 0 0 (blkA B (B + 117)) := by
  refine Met.ofW (cc := cX5_lettersEnd) (maxL := 3) (ret := (some .int)) (by decide) rfl ?_
  intro pp ee ss mm aa bb mt cd s1 Bd hml hv
  obtain ⟨hae, hX, hK, hE⟩ := hv
  have hx := Bd.exec
  have hb := Bd.bytes
  have hr := Bd.returns
  have hts := atoms_spec (ws := wsX5_lettersEnd) Bd.pre
  have hown : ss.vm.findClass RX5 = some mm.cls := findClass_of_methodNamed Bd.named
  have hlocks := Bd.notSynchronized
  have hS : va_S (blkA B (B + 117)) ss.heap ss.heap [] := va_S.rf
  have hl := lv_entry ([.ref (B + (3)), .int (nI i)]) (n := 3) (Nat.le_of_ble_eq_true rfl)
  subst hae
  rw [lg_entry_eq]
  generalize (lg_sl ([.ref (B + (3)), .int (nI i)]) ++ List.replicate (3 - (lg_sl ([.ref (B + (3)), .int (nI i)])).length) Slot.unset).toArray = ls at hl ⊢
  have hl : lv_has ls 3 [(0, .ref (B + (3))), (1, .int (nI i))] := hl
  generalize ([.ref (B + (3)), .int (nI i)] : List Value).toArray = aa at hts ⊢
  show W pp l ee rmX5_lettersEnd ss mm aa bb mt cd ss.heap [] 0 0 _ (F0 mm 0 ls [])
  generalize hQ : MQ bb (va_Qi (fun r u => r = (nI (runE (leP (x 4)) t i)) ∧ u = x) (XB G (wX G B tt)) (blkA B (B + 117))) aa ss 0 0 (blkA B (B + 117)) = Q
  refine lv_iload_n hx hb dX5_lettersEnd_0 rfl (lv_at hl 1 rfl) ?_
  refine lv_istore_n (lv' := [(2, .int (nI i)), (0, .ref (B + (3))), (1, .int (nI i))]) hx hb dX5_lettersEnd_1 rfl hl (by decide) rfl (fun ls hl => ?_)
  have L_1 : ∀ (n9 : Nat) (k : Nat)  (_ : n9 = t - k) (_ : i ≤ k ∧ k ≤ t ∧ runE (leP (x 4)) t k = runE (leP (x 4)) t i) (H_2 : Heap) (lo_3 : List Loc) (_ : MR G (wX G B tt) x H_2) (_ : va_S (blkA B (B + 117)) ss.heap H_2 lo_3) (ls : Array Slot) (_ : lv_has ls 3 [(2, .int (nI k)), (0, .ref (B + (3))), (1, .int (nI i))]), W pp l ee rmX5_lettersEnd ss mm aa bb mt cd H_2 lo_3 0 0 Q (F0 mm 2 ls []) := by
    intro n9
    induction n9 using Nat.strongRecOn with
    | _ n9 ih => 
      have ih_2 := ih
      intro k hn9 hI H_2 lo_3 hX hS ls hl
      obtain ⟨hk1, hk2, hrn⟩ := hI
      refine lv_iload_n hx hb dX5_lettersEnd_2 rfl (lv_at hl 0 rfl) ?_
      refine lv_aload_n hx hb dX5_lettersEnd_3 rfl (lv_at hl 1 rfl) ?_
      refine x_get (w := (wX G B tt)) (a := 3) (v := .int (x (3) 1)) hx hb hts iX5_lettersEnd_X5 hown hK hX (Nat.le_of_ble_eq_true rfl) (shX_tp (G := G) (B := B)) rfl 1 (by decide) (hts _ kX5_lettersEnd_15) (fun _ h9 => h9) rfl dX5_lettersEnd_4 ?_
      refine lv_icmp_ge (tgt := 38) hx hb dX5_lettersEnd_7 (by decide) (fun c_4 => ?_) (fun c_4 => ?_)
      · have nc_4 := (n_le (a := t) (b := k) ht9 rfl (by omega) (by omega)).mp c_4
        refine lv_iload_n hx hb dX5_lettersEnd_38 rfl (lv_at hl 0 rfl) ?_
        rw [← hQ]
        refine x_iret (v := nI k) hx hb hr hX hS hlocks dX5_lettersEnd_39 ?_
        first | exact ⟨by rw [← hrn, runE_end (by omega)], rfl⟩ | exact ⟨by rw [← hrn, runE_off (p := leP (x 4)) (rg_lo c_4)], rfl⟩ | exact ⟨by rw [← hrn, runE_off (p := leP (x 4)) (rg_hi c_4)], rfl⟩
      · have nc_4 := Nat.not_le.mp (fun q => c_4 ((n_le (a := t) (b := k) ht9 rfl (by omega) (by omega)).mpr q))
        refine lv_aload_n hx hb dX5_lettersEnd_10 rfl (lv_at hl 1 rfl) ?_
        refine x_get (w := (wX G B tt)) (a := 3) (v := .ref (B + (4))) hx hb hts iX5_lettersEnd_X5 hown hK hX (Nat.le_of_ble_eq_true rfl) (shX_tp (G := G) (B := B)) rfl 0 (by decide) (hts _ kX5_lettersEnd_9) (fun _ h9 => h9) rfl dX5_lettersEnd_11 ?_
        refine lv_iload_n hx hb dX5_lettersEnd_14 rfl (lv_at hl 0 rfl) ?_
        refine x_bald (w := (wX G B tt)) (a := 4) (n := 400) (j := k) hx hb hK hX (Nat.le_of_ble_eq_true rfl) (shX_tb (G := G) (B := B) (f := x (4))) rfl (by omega) (by decide) dX5_lettersEnd_15 ?_
        refine lv_bipush (v := 97) hx hb dX5_lettersEnd_16 (by decide) ?_
        refine lv_icmp_lt (tgt := 38) hx hb dX5_lettersEnd_18 (by decide) (fun c_5 => ?_) (fun c_5 => ?_)
        · refine lv_iload_n hx hb dX5_lettersEnd_38 rfl (lv_at hl 0 rfl) ?_
          rw [← hQ]
          refine x_iret (v := nI k) hx hb hr hX hS hlocks dX5_lettersEnd_39 ?_
          first | exact ⟨by rw [← hrn, runE_end (by omega)], rfl⟩ | exact ⟨by rw [← hrn, runE_off (p := leP (x 4)) (rg_lo c_5)], rfl⟩ | exact ⟨by rw [← hrn, runE_off (p := leP (x 4)) (rg_hi c_5)], rfl⟩
        · refine lv_aload_n hx hb dX5_lettersEnd_21 rfl (lv_at hl 1 rfl) ?_
          refine x_get (w := (wX G B tt)) (a := 3) (v := .ref (B + (4))) hx hb hts iX5_lettersEnd_X5 hown hK hX (Nat.le_of_ble_eq_true rfl) (shX_tp (G := G) (B := B)) rfl 0 (by decide) (hts _ kX5_lettersEnd_9) (fun _ h9 => h9) rfl dX5_lettersEnd_22 ?_
          refine lv_iload_n hx hb dX5_lettersEnd_25 rfl (lv_at hl 0 rfl) ?_
          refine x_bald (w := (wX G B tt)) (a := 4) (n := 400) (j := k) hx hb hK hX (Nat.le_of_ble_eq_true rfl) (shX_tb (G := G) (B := B) (f := x (4))) rfl (by omega) (by decide) dX5_lettersEnd_26 ?_
          refine lv_bipush (v := 122) hx hb dX5_lettersEnd_27 (by decide) ?_
          refine lv_icmp_gt (tgt := 38) hx hb dX5_lettersEnd_29 (by decide) (fun c_6 => ?_) (fun c_6 => ?_)
          · refine lv_iload_n hx hb dX5_lettersEnd_38 rfl (lv_at hl 0 rfl) ?_
            rw [← hQ]
            refine x_iret (v := nI k) hx hb hr hX hS hlocks dX5_lettersEnd_39 ?_
            first | exact ⟨by rw [← hrn, runE_end (by omega)], rfl⟩ | exact ⟨by rw [← hrn, runE_off (p := leP (x 4)) (rg_lo c_6)], rfl⟩ | exact ⟨by rw [← hrn, runE_off (p := leP (x 4)) (rg_hi c_6)], rfl⟩
          · refine lv_iinc (v := nI (k + 1)) (lv' := [(2, .int (nI (k + 1))), (0, .ref (B + (3))), (1, .int (nI i))]) hx hb dX5_lettersEnd_32 hl (k := 0) rfl (inc_nI _) (by decide) rfl (fun ls hl => ?_)
            refine lv_goto (tgt := 2) hx hb dX5_lettersEnd_35 (by decide) ?_
            exact ih_2 _ (by omega) (k + 1) rfl ⟨by omega, by omega, by rw [← runE_on (p := leP (x 4)) (by omega) (rg_in c_5 c_6)]; exact hrn⟩ _ _ hX hS ls (lv_sub hl [0, 1, 2] rfl)
  exact L_1 _ (i) rfl ⟨Nat.le_refl _, hit, rfl⟩ _ _ hX hS ls (lv_sub hl [0, 1, 2] rfl)

theorem kX5_figuresEnd_15 : (.fieldLink RX5 15 "WindTaken$Tape" "length" "I" : Cond) ∈ wsX5_figuresEnd := by decide +kernel
theorem iX5_figuresEnd_X5 : ∀ w ∈ wsX50, w ∈ wsX5_figuresEnd := by decide +kernel
theorem kX5_figuresEnd_9 : (.fieldLink RX5 9 "WindTaken$Tape" "bytes" "[B" : Cond) ∈ wsX5_figuresEnd := by decide +kernel
abbrev rmX5_figuresEnd : Room := { frames := 0, cells := 0, slots := 0, locals := 0 }
set_option maxHeartbeats 4000000 in
set_option maxRecDepth 100000 in
theorem c_X5_figuresEnd (l : Launch) (G : GG) (B : Nat) (tt : Nat → Nat) (hW : WOK (wX G B tt)) (x : Mem) {i : Nat} {t : Nat} (ht9 : x 3 1 = nI t) (ht400 : t ≤ 400) (hit : i ≤ t) : Met l yX5_figuresEnd wsX5_figuresEnd rmX5_figuresEnd (XP G (wX G B tt) [.ref (B + (3)), .int (nI i)] x) (va_Qi (fun r u => r = (nI (runE (fiP (x 4)) t i)) ∧ u = x) (XB G (wX G B tt)) (blkA B (B + 117))) 0 0 (blkA B (B + 117)) := by
  refine Met.ofW (cc := cX5_figuresEnd) (maxL := 3) (ret := (some .int)) (by decide) rfl ?_
  intro pp ee ss mm aa bb mt cd s1 Bd hml hv
  obtain ⟨hae, hX, hK, hE⟩ := hv
  have hx := Bd.exec
  have hb := Bd.bytes
  have hr := Bd.returns
  have hts := atoms_spec (ws := wsX5_figuresEnd) Bd.pre
  have hown : ss.vm.findClass RX5 = some mm.cls := findClass_of_methodNamed Bd.named
  have hlocks := Bd.notSynchronized
  have hS : va_S (blkA B (B + 117)) ss.heap ss.heap [] := va_S.rf
  have hl := lv_entry ([.ref (B + (3)), .int (nI i)]) (n := 3) (Nat.le_of_ble_eq_true rfl)
  subst hae
  rw [lg_entry_eq]
  generalize (lg_sl ([.ref (B + (3)), .int (nI i)]) ++ List.replicate (3 - (lg_sl ([.ref (B + (3)), .int (nI i)])).length) Slot.unset).toArray = ls at hl ⊢
  have hl : lv_has ls 3 [(0, .ref (B + (3))), (1, .int (nI i))] := hl
  generalize ([.ref (B + (3)), .int (nI i)] : List Value).toArray = aa at hts ⊢
  show W pp l ee rmX5_figuresEnd ss mm aa bb mt cd ss.heap [] 0 0 _ (F0 mm 0 ls [])
  generalize hQ : MQ bb (va_Qi (fun r u => r = (nI (runE (fiP (x 4)) t i)) ∧ u = x) (XB G (wX G B tt)) (blkA B (B + 117))) aa ss 0 0 (blkA B (B + 117)) = Q
  refine lv_iload_n hx hb dX5_figuresEnd_0 rfl (lv_at hl 1 rfl) ?_
  refine lv_istore_n (lv' := [(2, .int (nI i)), (0, .ref (B + (3))), (1, .int (nI i))]) hx hb dX5_figuresEnd_1 rfl hl (by decide) rfl (fun ls hl => ?_)
  have L_1 : ∀ (n9 : Nat) (k : Nat)  (_ : n9 = t - k) (_ : i ≤ k ∧ k ≤ t ∧ runE (fiP (x 4)) t k = runE (fiP (x 4)) t i) (H_2 : Heap) (lo_3 : List Loc) (_ : MR G (wX G B tt) x H_2) (_ : va_S (blkA B (B + 117)) ss.heap H_2 lo_3) (ls : Array Slot) (_ : lv_has ls 3 [(2, .int (nI k)), (0, .ref (B + (3))), (1, .int (nI i))]), W pp l ee rmX5_figuresEnd ss mm aa bb mt cd H_2 lo_3 0 0 Q (F0 mm 2 ls []) := by
    intro n9
    induction n9 using Nat.strongRecOn with
    | _ n9 ih => 
      have ih_2 := ih
      intro k hn9 hI H_2 lo_3 hX hS ls hl
      obtain ⟨hk1, hk2, hrn⟩ := hI
      refine lv_iload_n hx hb dX5_figuresEnd_2 rfl (lv_at hl 0 rfl) ?_
      refine lv_aload_n hx hb dX5_figuresEnd_3 rfl (lv_at hl 1 rfl) ?_
      refine x_get (w := (wX G B tt)) (a := 3) (v := .int (x (3) 1)) hx hb hts iX5_figuresEnd_X5 hown hK hX (Nat.le_of_ble_eq_true rfl) (shX_tp (G := G) (B := B)) rfl 1 (by decide) (hts _ kX5_figuresEnd_15) (fun _ h9 => h9) rfl dX5_figuresEnd_4 ?_
      refine lv_icmp_ge (tgt := 38) hx hb dX5_figuresEnd_7 (by decide) (fun c_4 => ?_) (fun c_4 => ?_)
      · have nc_4 := (n_le (a := t) (b := k) ht9 rfl (by omega) (by omega)).mp c_4
        refine lv_iload_n hx hb dX5_figuresEnd_38 rfl (lv_at hl 0 rfl) ?_
        rw [← hQ]
        refine x_iret (v := nI k) hx hb hr hX hS hlocks dX5_figuresEnd_39 ?_
        first | exact ⟨by rw [← hrn, runE_end (by omega)], rfl⟩ | exact ⟨by rw [← hrn, runE_off (p := fiP (x 4)) (rg_lo c_4)], rfl⟩ | exact ⟨by rw [← hrn, runE_off (p := fiP (x 4)) (rg_hi c_4)], rfl⟩
      · have nc_4 := Nat.not_le.mp (fun q => c_4 ((n_le (a := t) (b := k) ht9 rfl (by omega) (by omega)).mpr q))
        refine lv_aload_n hx hb dX5_figuresEnd_10 rfl (lv_at hl 1 rfl) ?_
        refine x_get (w := (wX G B tt)) (a := 3) (v := .ref (B + (4))) hx hb hts iX5_figuresEnd_X5 hown hK hX (Nat.le_of_ble_eq_true rfl) (shX_tp (G := G) (B := B)) rfl 0 (by decide) (hts _ kX5_figuresEnd_9) (fun _ h9 => h9) rfl dX5_figuresEnd_11 ?_
        refine lv_iload_n hx hb dX5_figuresEnd_14 rfl (lv_at hl 0 rfl) ?_
        refine x_bald (w := (wX G B tt)) (a := 4) (n := 400) (j := k) hx hb hK hX (Nat.le_of_ble_eq_true rfl) (shX_tb (G := G) (B := B) (f := x (4))) rfl (by omega) (by decide) dX5_figuresEnd_15 ?_
        refine lv_bipush (v := 48) hx hb dX5_figuresEnd_16 (by decide) ?_
        refine lv_icmp_lt (tgt := 38) hx hb dX5_figuresEnd_18 (by decide) (fun c_5 => ?_) (fun c_5 => ?_)
        · refine lv_iload_n hx hb dX5_figuresEnd_38 rfl (lv_at hl 0 rfl) ?_
          rw [← hQ]
          refine x_iret (v := nI k) hx hb hr hX hS hlocks dX5_figuresEnd_39 ?_
          first | exact ⟨by rw [← hrn, runE_end (by omega)], rfl⟩ | exact ⟨by rw [← hrn, runE_off (p := fiP (x 4)) (rg_lo c_5)], rfl⟩ | exact ⟨by rw [← hrn, runE_off (p := fiP (x 4)) (rg_hi c_5)], rfl⟩
        · refine lv_aload_n hx hb dX5_figuresEnd_21 rfl (lv_at hl 1 rfl) ?_
          refine x_get (w := (wX G B tt)) (a := 3) (v := .ref (B + (4))) hx hb hts iX5_figuresEnd_X5 hown hK hX (Nat.le_of_ble_eq_true rfl) (shX_tp (G := G) (B := B)) rfl 0 (by decide) (hts _ kX5_figuresEnd_9) (fun _ h9 => h9) rfl dX5_figuresEnd_22 ?_
          refine lv_iload_n hx hb dX5_figuresEnd_25 rfl (lv_at hl 0 rfl) ?_
          refine x_bald (w := (wX G B tt)) (a := 4) (n := 400) (j := k) hx hb hK hX (Nat.le_of_ble_eq_true rfl) (shX_tb (G := G) (B := B) (f := x (4))) rfl (by omega) (by decide) dX5_figuresEnd_26 ?_
          refine lv_bipush (v := 57) hx hb dX5_figuresEnd_27 (by decide) ?_
          refine lv_icmp_gt (tgt := 38) hx hb dX5_figuresEnd_29 (by decide) (fun c_6 => ?_) (fun c_6 => ?_)
          · refine lv_iload_n hx hb dX5_figuresEnd_38 rfl (lv_at hl 0 rfl) ?_
            rw [← hQ]
            refine x_iret (v := nI k) hx hb hr hX hS hlocks dX5_figuresEnd_39 ?_
            first | exact ⟨by rw [← hrn, runE_end (by omega)], rfl⟩ | exact ⟨by rw [← hrn, runE_off (p := fiP (x 4)) (rg_lo c_6)], rfl⟩ | exact ⟨by rw [← hrn, runE_off (p := fiP (x 4)) (rg_hi c_6)], rfl⟩
          · refine lv_iinc (v := nI (k + 1)) (lv' := [(2, .int (nI (k + 1))), (0, .ref (B + (3))), (1, .int (nI i))]) hx hb dX5_figuresEnd_32 hl (k := 0) rfl (inc_nI _) (by decide) rfl (fun ls hl => ?_)
            refine lv_goto (tgt := 2) hx hb dX5_figuresEnd_35 (by decide) ?_
            exact ih_2 _ (by omega) (k + 1) rfl ⟨by omega, by omega, by rw [← runE_on (p := fiP (x 4)) (by omega) (rg_in c_5 c_6)]; exact hrn⟩ _ _ hX hS ls (lv_sub hl [0, 1, 2] rfl)
  exact L_1 _ (i) rfl ⟨Nat.le_refl _, hit, rfl⟩ _ _ hX hS ls (lv_sub hl [0, 1, 2] rfl)

theorem kX5_valueOf_15 : (.fieldLink RX5 15 "WindTaken$Tape" "length" "I" : Cond) ∈ wsX5_valueOf := by decide +kernel
theorem iX5_valueOf_X5 : ∀ w ∈ wsX50, w ∈ wsX5_valueOf := by decide +kernel
theorem kX5_valueOf_9 : (.fieldLink RX5 9 "WindTaken$Tape" "bytes" "[B" : Cond) ∈ wsX5_valueOf := by decide +kernel
abbrev rmX5_valueOf : Room := { frames := 0, cells := 0, slots := 0, locals := 0 }
set_option maxHeartbeats 4000000 in
set_option maxRecDepth 100000 in
theorem c_X5_valueOf (l : Launch) (G : GG) (B : Nat) (tt : Nat → Nat) (hW : WOK (wX G B tt)) (x : Mem) {i : Nat} {j : Nat} {t : Nat} (ht9 : x 3 1 = nI t) (ht400 : t ≤ 400) (hij : i ≤ j) (hjt : j ≤ t) : Met l yX5_valueOf wsX5_valueOf rmX5_valueOf (XP G (wX G B tt) [.ref (B + (3)), .int (nI i), .int (nI j)] x) (va_Qi (fun r u => r = (valP (x 4) i (j - i)) ∧ u = x) (XB G (wX G B tt)) (blkA B (B + 117))) 0 0 (blkA B (B + 117)) := by
  refine Met.ofW (cc := cX5_valueOf) (maxL := 5) (ret := (some .int)) (by decide) rfl ?_
  intro pp ee ss mm aa bb mt cd s1 Bd hml hv
  obtain ⟨hae, hX, hK, hE⟩ := hv
  have hx := Bd.exec
  have hb := Bd.bytes
  have hr := Bd.returns
  have hts := atoms_spec (ws := wsX5_valueOf) Bd.pre
  have hown : ss.vm.findClass RX5 = some mm.cls := findClass_of_methodNamed Bd.named
  have hlocks := Bd.notSynchronized
  have hS : va_S (blkA B (B + 117)) ss.heap ss.heap [] := va_S.rf
  have hl := lv_entry ([.ref (B + (3)), .int (nI i), .int (nI j)]) (n := 5) (Nat.le_of_ble_eq_true rfl)
  subst hae
  rw [lg_entry_eq]
  generalize (lg_sl ([.ref (B + (3)), .int (nI i), .int (nI j)]) ++ List.replicate (5 - (lg_sl ([.ref (B + (3)), .int (nI i), .int (nI j)])).length) Slot.unset).toArray = ls at hl ⊢
  have hl : lv_has ls 5 [(0, .ref (B + (3))), (1, .int (nI i)), (2, .int (nI j))] := hl
  generalize ([.ref (B + (3)), .int (nI i), .int (nI j)] : List Value).toArray = aa at hts ⊢
  show W pp l ee rmX5_valueOf ss mm aa bb mt cd ss.heap [] 0 0 _ (F0 mm 0 ls [])
  generalize hQ : MQ bb (va_Qi (fun r u => r = (valP (x 4) i (j - i)) ∧ u = x) (XB G (wX G B tt)) (blkA B (B + 117))) aa ss 0 0 (blkA B (B + 117)) = Q
  refine lv_iconst (v := 0) hx hb dX5_valueOf_0 (by decide) ?_
  refine lv_istore_n (lv' := [(3, .int (0)), (0, .ref (B + (3))), (1, .int (nI i)), (2, .int (nI j))]) hx hb dX5_valueOf_1 rfl hl (by decide) rfl (fun ls hl => ?_)
  refine lv_iload_n hx hb dX5_valueOf_2 rfl (lv_at hl 2 rfl) ?_
  refine lv_istore (lv' := [(4, .int (nI i)), (3, .int (0)), (0, .ref (B + (3))), (1, .int (nI i)), (2, .int (nI j))]) hx hb dX5_valueOf_3 hl (by decide) rfl (fun ls hl => ?_)
  have L_1 : ∀ (n9 : Nat) (k : Nat) (vl : Int32)  (_ : n9 = j - k) (_ : i ≤ k ∧ k ≤ j ∧ vl = valP (x 4) i (k - i)) (H_2 : Heap) (lo_3 : List Loc) (_ : MR G (wX G B tt) x H_2) (_ : va_S (blkA B (B + 117)) ss.heap H_2 lo_3) (ls : Array Slot) (_ : lv_has ls 5 [(4, .int (nI k)), (3, .int (vl)), (0, .ref (B + (3))), (1, .int (nI i)), (2, .int (nI j))]), W pp l ee rmX5_valueOf ss mm aa bb mt cd H_2 lo_3 0 0 Q (F0 mm 5 ls []) := by
    intro n9
    induction n9 using Nat.strongRecOn with
    | _ n9 ih => 
      have ih_5 := ih
      intro k vl hn9 hI H_2 lo_3 hX hS ls hl
      obtain ⟨hk1, hk2, hv⟩ := hI
      refine lv_iload hx hb dX5_valueOf_5 (lv_at hl 0 rfl) ?_
      refine lv_iload_n hx hb dX5_valueOf_7 rfl (lv_at hl 4 rfl) ?_
      refine lv_icmp_ge (tgt := 42) hx hb dX5_valueOf_8 (by decide) (fun c_4 => ?_) (fun c_4 => ?_)
      · have nc_4 := (n_le (a := j) (b := k) rfl rfl (by omega) (by omega)).mp c_4
        refine lv_iload_n hx hb dX5_valueOf_42 rfl (lv_at hl 1 rfl) ?_
        rw [← hQ]
        refine x_iret (v := vl) hx hb hr hX hS hlocks dX5_valueOf_43 ?_
        have e9 : k = j := by omega
        exact ⟨by rw [hv, e9], rfl⟩
      · have nc_4 := Nat.not_le.mp (fun q => c_4 ((n_le (a := j) (b := k) rfl rfl (by omega) (by omega)).mpr q))
        refine lv_iload hx hb dX5_valueOf_11 (lv_at hl 0 rfl) ?_
        refine lv_aload_n hx hb dX5_valueOf_13 rfl (lv_at hl 2 rfl) ?_
        refine x_get (w := (wX G B tt)) (a := 3) (v := .int (x (3) 1)) hx hb hts iX5_valueOf_X5 hown hK hX (Nat.le_of_ble_eq_true rfl) (shX_tp (G := G) (B := B)) rfl 1 (by decide) (hts _ kX5_valueOf_15) (fun _ h9 => h9) rfl dX5_valueOf_14 ?_
        refine lv_icmp_ge (tgt := 42) hx hb dX5_valueOf_17 (by decide) (fun c_5 => ?_) (fun c_5 => ?_)
        · have nc_5 := (n_le (a := t) (b := k) ht9 rfl (by omega) (by omega)).mp c_5
          exact absurd nc_5 (by omega)
        · have nc_5 := Nat.not_le.mp (fun q => c_5 ((n_le (a := t) (b := k) ht9 rfl (by omega) (by omega)).mpr q))
          refine lv_iload_n hx hb dX5_valueOf_20 rfl (lv_at hl 1 rfl) ?_
          refine lv_bipush (v := 10) hx hb dX5_valueOf_21 (by decide) ?_
          refine lv_imul hx hb dX5_valueOf_23 ?_
          refine lv_aload_n hx hb dX5_valueOf_24 rfl (lv_at hl 2 rfl) ?_
          refine x_get (w := (wX G B tt)) (a := 3) (v := .ref (B + (4))) hx hb hts iX5_valueOf_X5 hown hK hX (Nat.le_of_ble_eq_true rfl) (shX_tp (G := G) (B := B)) rfl 0 (by decide) (hts _ kX5_valueOf_9) (fun _ h9 => h9) rfl dX5_valueOf_25 ?_
          refine lv_iload hx hb dX5_valueOf_28 (lv_at hl 0 rfl) ?_
          refine x_bald (w := (wX G B tt)) (a := 4) (n := 400) (j := k) hx hb hK hX (Nat.le_of_ble_eq_true rfl) (shX_tb (G := G) (B := B) (f := x (4))) rfl (by omega) (by decide) dX5_valueOf_30 ?_
          refine lv_iadd hx hb dX5_valueOf_31 ?_
          refine lv_bipush (v := 48) hx hb dX5_valueOf_32 (by decide) ?_
          refine lv_isub hx hb dX5_valueOf_34 ?_
          refine lv_istore_n (lv' := [(3, .int (((vl * 10) + (x (4) k)) - 48)), (4, .int (nI k)), (0, .ref (B + (3))), (1, .int (nI i)), (2, .int (nI j))]) hx hb dX5_valueOf_35 rfl hl (by decide) rfl (fun ls hl => ?_)
          refine lv_iinc (v := nI (k + 1)) (lv' := [(4, .int (nI (k + 1))), (3, .int (((vl * 10) + (x (4) k)) - 48)), (0, .ref (B + (3))), (1, .int (nI i)), (2, .int (nI j))]) hx hb dX5_valueOf_36 hl (k := 1) rfl (inc_nI _) (by decide) rfl (fun ls hl => ?_)
          refine lv_goto (tgt := 5) hx hb dX5_valueOf_39 (by decide) ?_
          exact ih_5 _ (by omega) (k + 1) (((vl * 10) + (x (4) k)) - 48) rfl ⟨by omega, by omega, by rw [show k + 1 - i = (k - i) + 1 by omega, valP, show i + (k - i) = k by omega, hv]⟩ _ _ hX hS ls (lv_sub hl [0, 1, 2, 3, 4] rfl)
  exact L_1 _ (i) (0) rfl ⟨Nat.le_refl _, hij, by rw [Nat.sub_self]; rfl⟩ _ _ hX hS ls (lv_sub hl [0, 1, 2, 3, 4] rfl)

theorem kX5_tells_15 : (.fieldLink RX5 15 "WindTaken$Tape" "length" "I" : Cond) ∈ wsX5_tells := by decide +kernel
theorem iX5_tells_X5 : ∀ w ∈ wsX50, w ∈ wsX5_tells := by decide +kernel
theorem kX5_tells_9 : (.fieldLink RX5 9 "WindTaken$Tape" "bytes" "[B" : Cond) ∈ wsX5_tells := by decide +kernel
abbrev rmX5_tells : Room := { frames := 4, cells := 0, slots := 0, locals := 85 }
set_option maxHeartbeats 4000000 in
set_option maxRecDepth 100000 in
theorem c_X5_tells (l : Launch) (G : GG) (B : Nat) (tt : Nat → Nat) (hW : WOK (wX G B tt)) (x : Mem) {sq : Nat} {i : Nat} {j : Nat} {t : Nat} (ht9 : x 3 1 = nI t) (ht400 : t ≤ 400) (hq7 : sq < 7) (hij : i ≤ j) (hjt : j ≤ t) : Met l yX5_tells wsX5_tells rmX5_tells (XP G (wX G B tt) [.ref (B + (3)), .ref (tt (100 + sq)), .int (nI i), .int (nI j)] x) (va_Qi (fun r u => r = bI (tellB (x 4) sq i j) ∧ u = x) (XB G (wX G B tt)) (blkA B (B + 117))) 0 0 (blkA B (B + 117)) := by
  refine Met.ofW (cc := cX5_tells) (maxL := 5) (ret := (some .boolean)) (by decide) rfl ?_
  intro pp ee ss mm aa bb mt cd s1 Bd hml hv
  obtain ⟨hae, hX, hK, hE⟩ := hv
  have hx := Bd.exec
  have hb := Bd.bytes
  have hr := Bd.returns
  have hts := atoms_spec (ws := wsX5_tells) Bd.pre
  have hown : ss.vm.findClass RX5 = some mm.cls := findClass_of_methodNamed Bd.named
  have hlocks := Bd.notSynchronized
  have hS : va_S (blkA B (B + 117)) ss.heap ss.heap [] := va_S.rf
  have hl := lv_entry ([.ref (B + (3)), .ref (tt (100 + sq)), .int (nI i), .int (nI j)]) (n := 5) (Nat.le_of_ble_eq_true rfl)
  subst hae
  rw [lg_entry_eq]
  generalize (lg_sl ([.ref (B + (3)), .ref (tt (100 + sq)), .int (nI i), .int (nI j)]) ++ List.replicate (5 - (lg_sl ([.ref (B + (3)), .ref (tt (100 + sq)), .int (nI i), .int (nI j)])).length) Slot.unset).toArray = ls at hl ⊢
  have hl : lv_has ls 5 [(0, .ref (B + (3))), (1, .ref (tt (100 + sq))), (2, .int (nI i)), (3, .int (nI j))] := hl
  generalize ([.ref (B + (3)), .ref (tt (100 + sq)), .int (nI i), .int (nI j)] : List Value).toArray = aa at hts ⊢
  show W pp l ee rmX5_tells ss mm aa bb mt cd ss.heap [] 0 0 _ (F0 mm 0 ls [])
  generalize hQ : MQ bb (va_Qi (fun r u => r = bI (tellB (x 4) sq i j) ∧ u = x) (XB G (wX G B tt)) (blkA B (B + 117))) aa ss 0 0 (blkA B (B + 117)) = Q
  have hsl := slen_le sq hq7
  refine lv_iload_n hx hb dX5_tells_0 rfl (lv_at hl 3 rfl) ?_
  refine lv_iload_n hx hb dX5_tells_1 rfl (lv_at hl 2 rfl) ?_
  refine lv_isub hx hb dX5_tells_2 ?_
  refine lv_aload_n hx hb dX5_tells_3 rfl (lv_at hl 1 rfl) ?_
  refine x_ip (w := (wX G B tt)) (x := x) (v := nI (slen sq)) (va_runV (As := []) (rest := [.int (nI j - nI i)]) ⟨hx, hb, hml, hown, hts⟩ (c_J0_length_8abf5 (l := l) (G := G) (B := B) (tt := tt) (hW := hW) (x := x) (q := sq) (hq7 := hq7)) (cwV 0 hts gX5_tells_J0_length_8abf5 rfl rfl rfl (by decide +kernel) ⟨Nat.le_of_ble_eq_true rfl, Nat.le_of_ble_eq_true rfl⟩) (x_pvs hW hX hK hE hS [] (q := sq) (by omega)) rfl rfl hl.1 rfl (lv_room (Nat.le_of_ble_eq_true rfl)) dX5_tells_4 ⟨Nat.zero_le _, Nat.zero_le _⟩) hS (fun H_1 lo_2 hX hS => ?_)
  refine W.eq (g2 := F0 mm 7 ls [.int (nI (slen sq)), .int (nI j - nI i)]) (congrArg (fun z9 : Int32 => F0 mm 7 ls [.int (z9), .int (nI j - nI i)]) rfl) ?_
  refine lv_icmp_ne (tgt := 18) hx hb dX5_tells_7 (by decide) (fun c_3 => ?_) (fun c_3 => ?_)
  · have nc_3 : ¬ (j - i) = (slen sq) := fun q => c_3 ((n_eq (a := j - i) (b := slen sq) (n_sub rfl rfl hij) rfl (by omega) (by omega)).mpr q)
    refine lv_iconst (v := 0) hx hb dX5_tells_18 (by decide) ?_
    rw [← hQ]
    refine x_zret (v := 0) (ty := .boolean) hx hb hr rfl hX hS hlocks dX5_tells_19 ?_
    exact ⟨by rw [tellB_len (by omega)]; rfl, rfl⟩
  · have nc_3 := (n_eq (a := j - i) (b := slen sq) (n_sub rfl rfl hij) rfl (by omega) (by omega)).mp c_3
    refine lv_iload_n hx hb dX5_tells_10 rfl (lv_at hl 3 rfl) ?_
    refine lv_aload_n hx hb dX5_tells_11 rfl (lv_at hl 0 rfl) ?_
    refine x_get (w := (wX G B tt)) (a := 3) (v := .int (x (3) 1)) hx hb hts iX5_tells_X5 hown hK hX (Nat.le_of_ble_eq_true rfl) (shX_tp (G := G) (B := B)) rfl 1 (by decide) (hts _ kX5_tells_15) (fun _ h9 => h9) rfl dX5_tells_12 ?_
    refine lv_icmp_le (tgt := 20) hx hb dX5_tells_15 (by decide) (fun c_4 => ?_) (fun c_4 => ?_)
    · have nc_4 := (n_le (a := j) (b := t) rfl ht9 (by omega) (by omega)).mp c_4
      refine lv_iload_n hx hb dX5_tells_20 rfl (lv_at hl 2 rfl) ?_
      refine lv_istore (lv' := [(4, .int (nI i)), (0, .ref (B + (3))), (1, .ref (tt (100 + sq))), (2, .int (nI i)), (3, .int (nI j))]) hx hb dX5_tells_21 hl (by decide) rfl (fun ls hl => ?_)
      have L_5 : ∀ (n9 : Nat) (k : Nat)  (_ : n9 = j - k) (_ : i ≤ k ∧ k ≤ j ∧ ∀ m, i ≤ m → m < k → x 4 m = chB sq (m - i)) (H_6 : Heap) (lo_7 : List Loc) (_ : MR G (wX G B tt) x H_6) (_ : va_S (blkA B (B + 117)) ss.heap H_6 lo_7) (ls : Array Slot) (_ : lv_has ls 5 [(4, .int (nI k)), (0, .ref (B + (3))), (1, .ref (tt (100 + sq))), (2, .int (nI i)), (3, .int (nI j))]), W pp l ee rmX5_tells ss mm aa bb mt cd H_6 lo_7 0 0 Q (F0 mm 23 ls []) := by
        intro n9
        induction n9 using Nat.strongRecOn with
        | _ n9 ih => 
          have ih_23 := ih
          intro k hn9 hI H_6 lo_7 hX hS ls hl
          obtain ⟨hk1, hk2, hp⟩ := hI
          refine lv_iload hx hb dX5_tells_23 (lv_at hl 0 rfl) ?_
          refine lv_iload_n hx hb dX5_tells_25 rfl (lv_at hl 4 rfl) ?_
          refine lv_icmp_ge (tgt := 55) hx hb dX5_tells_26 (by decide) (fun c_8 => ?_) (fun c_8 => ?_)
          · have nc_8 := (n_le (a := j) (b := k) rfl rfl (by omega) (by omega)).mp c_8
            refine lv_iconst (v := 1) hx hb dX5_tells_55 (by decide) ?_
            rw [← hQ]
            refine x_zret (v := 1) (ty := .boolean) hx hb hr rfl hX hS hlocks dX5_tells_56 ?_
            exact ⟨by rw [tellB_yes (fun m h1 h2 => hp m h1 (by omega)) (by omega)]; rfl, rfl⟩
          · have nc_8 := Nat.not_le.mp (fun q => c_8 ((n_le (a := j) (b := k) rfl rfl (by omega) (by omega)).mpr q))
            refine lv_aload_n hx hb dX5_tells_29 rfl (lv_at hl 1 rfl) ?_
            refine x_get (w := (wX G B tt)) (a := 3) (v := .ref (B + (4))) hx hb hts iX5_tells_X5 hown hK hX (Nat.le_of_ble_eq_true rfl) (shX_tp (G := G) (B := B)) rfl 0 (by decide) (hts _ kX5_tells_9) (fun _ h9 => h9) rfl dX5_tells_30 ?_
            refine lv_iload hx hb dX5_tells_33 (lv_at hl 0 rfl) ?_
            refine x_bald (w := (wX G B tt)) (a := 4) (n := 400) (j := k) hx hb hK hX (Nat.le_of_ble_eq_true rfl) (shX_tb (G := G) (B := B) (f := x (4))) rfl (by omega) (by decide) dX5_tells_35 ?_
            refine lv_aload_n hx hb dX5_tells_36 rfl (lv_at hl 2 rfl) ?_
            refine lv_iload hx hb dX5_tells_37 (lv_at hl 0 rfl) ?_
            refine lv_iload_n hx hb dX5_tells_39 rfl (lv_at hl 3 rfl) ?_
            refine lv_isub hx hb dX5_tells_40 ?_
            refine W.eq (g2 := F0 mm 41 ls [.int (nI (k - i)), .ref (tt (100 + sq)), .int (x (4) k)]) (congrArg (fun z9 : Int32 => F0 mm 41 ls [.int (z9), .ref (tt (100 + sq)), .int (x (4) k)]) (n_sub rfl rfl (by omega))) ?_
            refine x_ip (w := (wX G B tt)) (x := x) (v := chB sq (k - i)) (va_runV (As := [.int (nI (k - i))]) (rest := [.int (x (4) k)]) ⟨hx, hb, hml, hown, hts⟩ (c_J0_charAt_5068e (l := l) (G := G) (B := B) (tt := tt) (hW := hW) (x := x) (q := sq) (j := k - i) (hq7 := hq7) (hj := (by omega))) (cwV 1 hts gX5_tells_J0_charAt_5068e rfl rfl rfl (by decide +kernel) ⟨Nat.le_of_ble_eq_true rfl, Nat.le_of_ble_eq_true rfl⟩) (x_pvs hW hX hK hE hS [.int (nI (k - i))] (q := sq) (by omega)) rfl rfl hl.1 rfl (lv_room (Nat.le_of_ble_eq_true rfl)) dX5_tells_41 ⟨Nat.zero_le _, Nat.zero_le _⟩) hS (fun H_9 lo_10 hX hS => ?_)
            refine lv_icmp_eq (tgt := 49) hx hb dX5_tells_44 (by decide) (fun c_11 => ?_) (fun c_11 => ?_)
            · refine lv_iinc (v := nI (k + 1)) (lv' := [(4, .int (nI (k + 1))), (0, .ref (B + (3))), (1, .ref (tt (100 + sq))), (2, .int (nI i)), (3, .int (nI j))]) hx hb dX5_tells_49 hl (k := 0) rfl (inc_nI _) (by decide) rfl (fun ls hl => ?_)
              refine lv_goto (tgt := 23) hx hb dX5_tells_52 (by decide) ?_
              exact ih_23 _ (by omega) (k + 1) rfl ⟨by omega, by omega, fun m h1 h2 => by
          by_cases hmk : m = k
          · rw [hmk]; exact c_11
          · exact hp m h1 (by omega)⟩ _ _ hX hS ls (lv_sub hl [0, 1, 2, 3, 4] rfl)
            · refine lv_iconst (v := 0) hx hb dX5_tells_47 (by decide) ?_
              rw [← hQ]
              refine x_zret (v := 0) (ty := .boolean) hx hb hr rfl hX hS hlocks dX5_tells_48 ?_
              exact ⟨by rw [tellB_no (k := k) c_11 (by omega) (by omega) (by omega)]; rfl, rfl⟩
      exact L_5 _ (i) rfl ⟨Nat.le_refl _, hij, fun m h1 h2 => absurd h1 (by omega)⟩ _ _ hX hS ls (lv_sub hl [0, 1, 2, 3, 4] rfl)
    · have nc_4 := Nat.not_le.mp (fun q => c_4 ((n_le (a := j) (b := t) rfl ht9 (by omega) (by omega)).mpr q))
      exact absurd nc_4 (by omega)

theorem kX3_isTaken_18 : (.fieldLink RX3 18 "WindTaken$Ridge" "count" "I" : Cond) ∈ wsX3_isTaken := by decide +kernel
theorem iX3_isTaken_X3 : ∀ w ∈ wsX30, w ∈ wsX3_isTaken := by decide +kernel
theorem kX3_isTaken_11 : (.fieldLink RX3 11 "WindTaken$Ridge" "mills" "[LWindTaken$Mill;" : Cond) ∈ wsX3_isTaken := by decide +kernel
theorem kX3_isTaken_38 : (.fieldLink RX3 38 "WindTaken$Mill" "x" "I" : Cond) ∈ wsX3_isTaken := by decide +kernel
theorem iX3_isTaken_X0 : ∀ w ∈ wsX00, w ∈ wsX3_isTaken := by decide +kernel
theorem kX3_isTaken_41 : (.fieldLink RX3 41 "WindTaken$Mill" "y" "I" : Cond) ∈ wsX3_isTaken := by decide +kernel
abbrev rmX3_isTaken : Room := { frames := 0, cells := 0, slots := 0, locals := 0 }
set_option maxHeartbeats 4000000 in
set_option maxRecDepth 100000 in
theorem c_X3_isTaken (l : Launch) (G : GG) (B : Nat) (tt : Nat → Nat) (hW : WOK (wX G B tt)) (x : Mem) {ρ : Nat} (hρ : isRg ρ) (a : Int32) (b9 : Int32) {n : Nat} (hn : x ρ 1 = nI n) (hn8 : n ≤ 8) : Met l yX3_isTaken wsX3_isTaken rmX3_isTaken (XP G (wX G B tt) [.ref (B + (ρ)), .int (a), .int (b9)] x) (va_Qi (fun r u => r = bI (takB x ρ n a b9) ∧ u = x) (XB G (wX G B tt)) (blkA B (B + 117))) 0 0 (blkA B (B + 117)) := by
  refine Met.ofW (cc := cX3_isTaken) (maxL := 4) (ret := (some .boolean)) (by decide) rfl ?_
  intro pp ee ss mm aa bb mt cd s1 Bd hml hv
  obtain ⟨hae, hX, hK, hE⟩ := hv
  have hx := Bd.exec
  have hb := Bd.bytes
  have hr := Bd.returns
  have hts := atoms_spec (ws := wsX3_isTaken) Bd.pre
  have hown : ss.vm.findClass RX3 = some mm.cls := findClass_of_methodNamed Bd.named
  have hlocks := Bd.notSynchronized
  have hS : va_S (blkA B (B + 117)) ss.heap ss.heap [] := va_S.rf
  have hl := lv_entry ([.ref (B + (ρ)), .int (a), .int (b9)]) (n := 4) (Nat.le_of_ble_eq_true rfl)
  subst hae
  rw [lg_entry_eq]
  generalize (lg_sl ([.ref (B + (ρ)), .int (a), .int (b9)]) ++ List.replicate (4 - (lg_sl ([.ref (B + (ρ)), .int (a), .int (b9)])).length) Slot.unset).toArray = ls at hl ⊢
  have hl : lv_has ls 4 [(0, .ref (B + (ρ))), (1, .int (a)), (2, .int (b9))] := hl
  generalize ([.ref (B + (ρ)), .int (a), .int (b9)] : List Value).toArray = aa at hts ⊢
  show W pp l ee rmX3_isTaken ss mm aa bb mt cd ss.heap [] 0 0 _ (F0 mm 0 ls [])
  generalize hQ : MQ bb (va_Qi (fun r u => r = bI (takB x ρ n a b9) ∧ u = x) (XB G (wX G B tt)) (blkA B (B + 117))) aa ss 0 0 (blkA B (B + 117)) = Q
  refine lv_iconst (v := 0) hx hb dX3_isTaken_0 (by decide) ?_
  refine lv_istore_n (lv' := [(3, .int (0)), (0, .ref (B + (ρ))), (1, .int (a)), (2, .int (b9))]) hx hb dX3_isTaken_1 rfl hl (by decide) rfl (fun ls hl => ?_)
  have L_1 : ∀ (n9 : Nat) (i : Nat)  (_ : n9 = n - i) (_ : i ≤ n ∧ ∀ j, j < i → ¬ (x (ρ + 1 + 1 + j) 2 = a ∧ x (ρ + 1 + 1 + j) 3 = b9)) (H_2 : Heap) (lo_3 : List Loc) (_ : MR G (wX G B tt) x H_2) (_ : va_S (blkA B (B + 117)) ss.heap H_2 lo_3) (ls : Array Slot) (_ : lv_has ls 4 [(3, .int (nI i)), (0, .ref (B + (ρ))), (1, .int (a)), (2, .int (b9))]), W pp l ee rmX3_isTaken ss mm aa bb mt cd H_2 lo_3 0 0 Q (F0 mm 2 ls []) := by
    intro n9
    induction n9 using Nat.strongRecOn with
    | _ n9 ih => 
      have ih_2 := ih
      intro i hn9 hI H_2 lo_3 hX hS ls hl
      obtain ⟨hi, hp⟩ := hI
      refine lv_iload_n hx hb dX3_isTaken_2 rfl (lv_at hl 0 rfl) ?_
      refine lv_aload_n hx hb dX3_isTaken_3 rfl (lv_at hl 1 rfl) ?_
      refine x_get (w := (wX G B tt)) (a := ρ) (v := .int (x (ρ) 1)) hx hb hts iX3_isTaken_X3 hown hK hX (rg_lt hρ) (shX_ri (G := G) (B := B) hρ) rfl 1 (by decide) (hts _ kX3_isTaken_18) (fun _ h9 => h9) rfl dX3_isTaken_4 ?_
      refine lv_icmp_ge (tgt := 44) hx hb dX3_isTaken_7 (by decide) (fun c_4 => ?_) (fun c_4 => ?_)
      · have nc_4 := (n_le (a := n) (b := i) hn rfl (by omega) (by omega)).mp c_4
        refine lv_iconst (v := 0) hx hb dX3_isTaken_44 (by decide) ?_
        rw [← hQ]
        refine x_zret (v := 0) (ty := .boolean) hx hb hr rfl hX hS hlocks dX3_isTaken_45 ?_
        refine ⟨?_, rfl⟩
        unfold takB
        rw [allN_true n (fun j hj => by rw [← Bool.decide_and, decide_eq_false (hp j (by omega))]; rfl)]
        rfl
      · have nc_4 := Nat.not_le.mp (fun q => c_4 ((n_le (a := n) (b := i) hn rfl (by omega) (by omega)).mpr q))
        refine lv_aload_n hx hb dX3_isTaken_10 rfl (lv_at hl 1 rfl) ?_
        refine x_get (w := (wX G B tt)) (a := ρ) (v := .ref (B + (ρ + 1))) hx hb hts iX3_isTaken_X3 hown hK hX (rg_lt hρ) (shX_ri (G := G) (B := B) hρ) rfl 0 (by decide) (hts _ kX3_isTaken_11) (fun _ h9 => h9) rfl dX3_isTaken_11 ?_
        refine lv_iload_n hx hb dX3_isTaken_14 rfl (lv_at hl 0 rfl) ?_
        refine x_aald (w := (wX G B tt)) (a := ρ + 1) (n := 8) (j := i) (q := B + (ρ + 1 + 1 + i)) (t0 := 2) hx hb hK hX (rg_lt1 hρ) (shX_ma (G := G) (B := B) (f := x (ρ + 1)) hρ) rfl rfl (by omega) (by decide) rfl dX3_isTaken_15 ?_
        refine x_get (w := (wX G B tt)) (a := ρ + 1 + 1 + i) (v := .int (x (ρ + 1 + 1 + i) 2)) hx hb hts iX3_isTaken_X0 hown hK hX (rg_ltm hρ (by omega)) (shX_mi (G := G) (B := B) hρ (by omega)) rfl 2 (by decide) (hts _ kX3_isTaken_38) (fun _ h9 => h9) rfl dX3_isTaken_16 ?_
        refine lv_iload_n hx hb dX3_isTaken_19 rfl (lv_at hl 2 rfl) ?_
        refine lv_icmp_ne (tgt := 38) hx hb dX3_isTaken_20 (by decide) (fun c_5 => ?_) (fun c_5 => ?_)
        · refine lv_iinc (v := nI (i + 1)) (lv' := [(3, .int (nI (i + 1))), (0, .ref (B + (ρ))), (1, .int (a)), (2, .int (b9))]) hx hb dX3_isTaken_38 hl (k := 0) rfl (inc_nI _) (by decide) rfl (fun ls hl => ?_)
          refine lv_goto (tgt := 2) hx hb dX3_isTaken_41 (by decide) ?_
          exact ih_2 _ (by omega) (i + 1) rfl ⟨by omega, fun j hj => by
          by_cases hji : j = i
          · rw [hji]; intro z; first | exact c_5 z.1 | exact c_5 z.2
          · exact hp j (by omega)⟩ _ _ hX hS ls (lv_sub hl [0, 1, 2, 3] rfl)
        · refine lv_aload_n hx hb dX3_isTaken_23 rfl (lv_at hl 1 rfl) ?_
          refine x_get (w := (wX G B tt)) (a := ρ) (v := .ref (B + (ρ + 1))) hx hb hts iX3_isTaken_X3 hown hK hX (rg_lt hρ) (shX_ri (G := G) (B := B) hρ) rfl 0 (by decide) (hts _ kX3_isTaken_11) (fun _ h9 => h9) rfl dX3_isTaken_24 ?_
          refine lv_iload_n hx hb dX3_isTaken_27 rfl (lv_at hl 0 rfl) ?_
          refine x_aald (w := (wX G B tt)) (a := ρ + 1) (n := 8) (j := i) (q := B + (ρ + 1 + 1 + i)) (t0 := 2) hx hb hK hX (rg_lt1 hρ) (shX_ma (G := G) (B := B) (f := x (ρ + 1)) hρ) rfl rfl (by omega) (by decide) rfl dX3_isTaken_28 ?_
          refine x_get (w := (wX G B tt)) (a := ρ + 1 + 1 + i) (v := .int (x (ρ + 1 + 1 + i) 3)) hx hb hts iX3_isTaken_X0 hown hK hX (rg_ltm hρ (by omega)) (shX_mi (G := G) (B := B) hρ (by omega)) rfl 3 (by decide) (hts _ kX3_isTaken_41) (fun _ h9 => h9) rfl dX3_isTaken_29 ?_
          refine lv_iload_n hx hb dX3_isTaken_32 rfl (lv_at hl 3 rfl) ?_
          refine lv_icmp_ne (tgt := 38) hx hb dX3_isTaken_33 (by decide) (fun c_6 => ?_) (fun c_6 => ?_)
          · refine lv_iinc (v := nI (i + 1)) (lv' := [(3, .int (nI (i + 1))), (0, .ref (B + (ρ))), (1, .int (a)), (2, .int (b9))]) hx hb dX3_isTaken_38 hl (k := 0) rfl (inc_nI _) (by decide) rfl (fun ls hl => ?_)
            refine lv_goto (tgt := 2) hx hb dX3_isTaken_41 (by decide) ?_
            exact ih_2 _ (by omega) (i + 1) rfl ⟨by omega, fun j hj => by
          by_cases hji : j = i
          · rw [hji]; intro z; first | exact c_6 z.1 | exact c_6 z.2
          · exact hp j (by omega)⟩ _ _ hX hS ls (lv_sub hl [0, 1, 2, 3] rfl)
          · refine lv_iconst (v := 1) hx hb dX3_isTaken_36 (by decide) ?_
            rw [← hQ]
            refine x_zret (v := 1) (ty := .boolean) hx hb hr rfl hX hS hlocks dX3_isTaken_37 ?_
            refine ⟨?_, rfl⟩
            unfold takB
            rw [allN_false (i := i) (by rw [decide_eq_true c_5, decide_eq_true c_6]; rfl) n (by omega)]
            rfl
  exact L_1 _ (0) rfl ⟨Nat.zero_le _, fun j hj => absurd hj (Nat.not_lt_zero j)⟩ _ _ hX hS ls (lv_sub hl [0, 1, 2, 3] rfl)
