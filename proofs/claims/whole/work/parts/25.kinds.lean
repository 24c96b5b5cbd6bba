theorem kX7_isKind_316 : (.fieldLink RX7 316 "WindTaken" "NEXT_KIND" "[I" : Cond) ∈ wsX7_isKind := by decide +kernel
abbrev rmX7_isKind : Room := { frames := 0, cells := 0, slots := 0, locals := 0 }
set_option maxHeartbeats 4000000 in
set_option maxRecDepth 100000 in
theorem c_X7_isKind (l : Launch) (G : GG) (B : Nat) (tt : Nat → Nat) (hW : WOK (wX G B tt)) (x : Mem) {a : Nat} {b : Nat} (ha6 : a < 6) (hb6 : b < 6) : Met l yX7_isKind wsX7_isKind rmX7_isKind (XP G (wX G B tt) [.int (nI a), .int (nI b)] x) (va_Qi (fun r u => r = bI (isKf 6 a b) ∧ u = x) (XB G (wX G B tt)) (blkA B (B + 77))) 0 0 (blkA B (B + 77)) := by
  refine Met.ofW (cc := cX7_isKind) (maxL := 4) (ret := (some .boolean)) (by decide) rfl ?_
  intro pp ee ss mm aa bb mt cd s1 Bd hml hv
  obtain ⟨hae, hX, hK, hE⟩ := hv
  have hx := Bd.exec
  have hb := Bd.bytes
  have hr := Bd.returns
  have hts := atoms_spec (ws := wsX7_isKind) Bd.pre
  have hown : ss.vm.findClass RX7 = some mm.cls := findClass_of_methodNamed Bd.named
  have hlocks := Bd.notSynchronized
  have hS : va_S (blkA B (B + 77)) ss.heap ss.heap [] := va_S.rf
  have hl := lv_entry ([.int (nI a), .int (nI b)]) (n := 4) (Nat.le_of_ble_eq_true rfl)
  subst hae
  rw [lg_entry_eq]
  generalize (lg_sl ([.int (nI a), .int (nI b)]) ++ List.replicate (4 - (lg_sl ([.int (nI a), .int (nI b)])).length) Slot.unset).toArray = ls at hl ⊢
  have hl : lv_has ls 4 [(0, .int (nI a)), (1, .int (nI b))] := hl
  generalize ([.int (nI a), .int (nI b)] : List Value).toArray = aa at hts ⊢
  show W pp l ee rmX7_isKind ss mm aa bb mt cd ss.heap [] 0 0 _ (F0 mm 0 ls [])
  generalize hQ : MQ bb (va_Qi (fun r u => r = bI (isKf 6 a b) ∧ u = x) (XB G (wX G B tt)) (blkA B (B + 77))) aa ss 0 0 (blkA B (B + 77)) = Q
  refine lv_iload_n hx hb dX7_isKind_0 rfl (lv_at hl 0 rfl) ?_
  refine lv_istore_n (lv' := [(2, .int (nI a)), (0, .int (nI a)), (1, .int (nI b))]) hx hb dX7_isKind_1 rfl hl (by decide) rfl (fun ls hl => ?_)
  refine lv_iconst (v := 0) hx hb dX7_isKind_2 (by decide) ?_
  refine lv_istore_n (lv' := [(3, .int (0)), (2, .int (nI a)), (0, .int (nI a)), (1, .int (nI b))]) hx hb dX7_isKind_3 rfl hl (by decide) rfl (fun ls hl => ?_)
  have L_1 : ∀ (n9 : Nat) (i : Nat) (kd : Nat)  (_ : n9 = 6 - i) (_ : i ≤ 6 ∧ kd < 6 ∧ isKf (6 - i) kd b = isKf 6 a b) (H_2 : Heap) (lo_3 : List Loc) (_ : MR G (wX G B tt) x H_2) (_ : va_S (blkA B (B + 77)) ss.heap H_2 lo_3) (ls : Array Slot) (_ : lv_has ls 4 [(3, .int (nI i)), (2, .int (nI kd)), (0, .int (nI a)), (1, .int (nI b))]), W pp l ee rmX7_isKind ss mm aa bb mt cd H_2 lo_3 0 0 Q (F0 mm 4 ls []) := by
    intro n9
    induction n9 using Nat.strongRecOn with
    | _ n9 ih => 
      have ih_4 := ih
      intro i kd hn9 hI H_2 lo_3 hX hS ls hl
      obtain ⟨hi, hkd, hch⟩ := hI
      refine lv_iload_n hx hb dX7_isKind_4 rfl (lv_at hl 0 rfl) ?_
      refine va_gets hx hb (hE.1 0 (by decide)) hS hown (hts _ kX7_isKind_316) (fun _ h9 => h9) dX7_isKind_5 ?_
      refine x_tlen hx hb hS (hE.2.1 0 (by decide)) dX7_isKind_8 ?_
      refine lv_icmp_ge (tgt := 43) hx hb dX7_isKind_9 (by decide) (fun c_4 => ?_) (fun c_4 => ?_)
      · have nc_4 := (n_le (a := 6) (b := i) rfl rfl (by omega) (by omega)).mp c_4
        refine lv_iload_n hx hb dX7_isKind_43 rfl (lv_at hl 1 rfl) ?_
        refine lv_iload_n hx hb dX7_isKind_44 rfl (lv_at hl 3 rfl) ?_
        have kJ_7 : ∀ (v_6 : Bool) (_ : v_6 = (if nI kd = nI b then true else false)) (H_8 : Heap) (lo_9 : List Loc) (_ : MR G (wX G B tt) x H_8) (_ : va_S (blkA B (B + 77)) ss.heap H_8 lo_9) (ls : Array Slot) (_ : lv_has ls 4 [(3, .int (nI i)), (2, .int (nI kd)), (0, .int (nI a)), (1, .int (nI b))]), W pp l ee rmX7_isKind ss mm aa bb mt cd H_8 lo_9 0 0 Q (F0 mm 53 ls [.int (bI (v_6))]) := by
          intro v_6 ev_6 H_8 lo_9 hX hS ls hl
          rw [← hQ]
          refine x_zret (v := bI (v_6)) (ty := .boolean) hx hb hr (bI_nar _) hX hS hlocks dX7_isKind_53 ?_
          refine ⟨?_, rfl⟩
          rw [ev_6, ← hch]
          by_cases h9 : kd = b
          · rw [if_pos (by rw [h9])]
            exact congrArg bI (isKf_eq h9).symm
          · have h8 : i = 6 := by omega
            rw [if_neg (fun z => h9 ((n_eq (a := kd) (b := b) rfl rfl (by omega) (by omega)).mp z)), h8]
            simp [isKf, h9]
        refine lv_icmp_ne (tgt := 52) hx hb dX7_isKind_45 (by decide) (fun c_5 => ?_) (fun c_5 => ?_)
        · refine lv_iconst (v := 0) hx hb dX7_isKind_52 (by decide) ?_
          exact kJ_7 (false) (by rw [if_neg c_5]) _ _ hX hS ls (lv_sub hl [0, 1, 2, 3] rfl)
        · refine lv_iconst (v := 1) hx hb dX7_isKind_48 (by decide) ?_
          refine lv_goto (tgt := 53) hx hb dX7_isKind_49 (by decide) ?_
          exact kJ_7 (true) (by rw [if_pos c_5]) _ _ hX hS ls (lv_sub hl [0, 1, 2, 3] rfl)
      · have nc_4 := Nat.not_le.mp (fun q => c_4 ((n_le (a := 6) (b := i) rfl rfl (by omega) (by omega)).mpr q))
        refine lv_iload_n hx hb dX7_isKind_12 rfl (lv_at hl 1 rfl) ?_
        refine lv_iload_n hx hb dX7_isKind_13 rfl (lv_at hl 3 rfl) ?_
        refine lv_icmp_eq (tgt := 43) hx hb dX7_isKind_14 (by decide) (fun c_10 => ?_) (fun c_10 => ?_)
        · have nc_10 := (n_eq (a := kd) (b := b) rfl rfl (by omega) (by omega)).mp c_10
          refine lv_iload_n hx hb dX7_isKind_43 rfl (lv_at hl 1 rfl) ?_
          refine lv_iload_n hx hb dX7_isKind_44 rfl (lv_at hl 3 rfl) ?_
          have kJ_13 : ∀ (v_12 : Bool) (_ : v_12 = (if nI kd = nI b then true else false)) (H_14 : Heap) (lo_15 : List Loc) (_ : MR G (wX G B tt) x H_14) (_ : va_S (blkA B (B + 77)) ss.heap H_14 lo_15) (ls : Array Slot) (_ : lv_has ls 4 [(3, .int (nI i)), (2, .int (nI kd)), (0, .int (nI a)), (1, .int (nI b))]), W pp l ee rmX7_isKind ss mm aa bb mt cd H_14 lo_15 0 0 Q (F0 mm 53 ls [.int (bI (v_12))]) := by
            intro v_12 ev_12 H_14 lo_15 hX hS ls hl
            rw [← hQ]
            refine x_zret (v := bI (v_12)) (ty := .boolean) hx hb hr (bI_nar _) hX hS hlocks dX7_isKind_53 ?_
            refine ⟨?_, rfl⟩
            rw [ev_12, ← hch]
            by_cases h9 : kd = b
            · rw [if_pos (by rw [h9])]
              exact congrArg bI (isKf_eq h9).symm
            · have h8 : i = 6 := by omega
              rw [if_neg (fun z => h9 ((n_eq (a := kd) (b := b) rfl rfl (by omega) (by omega)).mp z)), h8]
              simp [isKf, h9]
          refine lv_icmp_ne (tgt := 52) hx hb dX7_isKind_45 (by decide) (fun c_11 => ?_) (fun c_11 => ?_)
          · refine lv_iconst (v := 0) hx hb dX7_isKind_52 (by decide) ?_
            exact kJ_13 (false) (by rw [if_neg c_11]) _ _ hX hS ls (lv_sub hl [0, 1, 2, 3] rfl)
          · refine lv_iconst (v := 1) hx hb dX7_isKind_48 (by decide) ?_
            refine lv_goto (tgt := 53) hx hb dX7_isKind_49 (by decide) ?_
            exact kJ_13 (true) (by rw [if_pos c_11]) _ _ hX hS ls (lv_sub hl [0, 1, 2, 3] rfl)
        · have nc_10 : ¬ kd = b := fun q => c_10 ((n_eq (a := kd) (b := b) rfl rfl (by omega) (by omega)).mpr q)
          refine lv_iload_n hx hb dX7_isKind_17 rfl (lv_at hl 1 rfl) ?_
          refine lv_if_le (tgt := 29) hx hb dX7_isKind_18 (by decide) (fun c_16 => ?_) (fun c_16 => ?_)
          · have nc_16 := (n_le (a := kd) (b := 0) rfl rfl (by omega) (by omega)).mp c_16
            refine lv_iconst (v := 0) hx hb dX7_isKind_29 (by decide) ?_
            rw [← hQ]
            refine x_zret (v := 0) (ty := .boolean) hx hb hr rfl hX hS hlocks dX7_isKind_30 ?_
            refine ⟨?_, rfl⟩
            obtain ⟨f, hf⟩ : ∃ f, 6 - i = f + 1 := ⟨5 - i, by omega⟩
            rw [← hch, hf, isKf, if_neg (by omega), if_pos (by omega)]
            rfl
          · have nc_16 := Nat.not_le.mp (fun q => c_16 ((n_le (a := kd) (b := 0) rfl rfl (by omega) (by omega)).mpr q))
            refine lv_iload_n hx hb dX7_isKind_21 rfl (lv_at hl 1 rfl) ?_
            refine va_gets hx hb (hE.1 0 (by decide)) hS hown (hts _ kX7_isKind_316) (fun _ h9 => h9) dX7_isKind_22 ?_
            refine x_tlen hx hb hS (hE.2.1 0 (by decide)) dX7_isKind_25 ?_
            refine lv_icmp_lt (tgt := 31) hx hb dX7_isKind_26 (by decide) (fun c_17 => ?_) (fun c_17 => ?_)
            · have nc_17 := (n_lt (a := kd) (b := 6) rfl rfl (by omega) (by omega)).mp c_17
              refine va_gets hx hb (hE.1 0 (by decide)) hS hown (hts _ kX7_isKind_316) (fun _ h9 => h9) dX7_isKind_31 ?_
              refine lv_iload_n hx hb dX7_isKind_34 rfl (lv_at hl 1 rfl) ?_
              refine x_tld hx hb hS (hE.2.1 0 (by decide)) rfl (by omega) (by decide) dX7_isKind_35 ?_
              refine W.eq (g2 := F0 mm 36 ls [.int (nI (nxtK kd))]) (congrArg (fun z9 : Int32 => F0 mm 36 ls [.int (z9)]) (nextK_n kd hkd (by omega))) ?_
              refine lv_istore_n (lv' := [(2, .int (nI (nxtK kd))), (3, .int (nI i)), (0, .int (nI a)), (1, .int (nI b))]) hx hb dX7_isKind_36 rfl hl (by decide) rfl (fun ls hl => ?_)
              refine lv_iinc (v := nI (i + 1)) (lv' := [(3, .int (nI (i + 1))), (2, .int (nI (nxtK kd))), (0, .int (nI a)), (1, .int (nI b))]) hx hb dX7_isKind_37 hl (k := 1) rfl (inc_nI _) (by decide) rfl (fun ls hl => ?_)
              refine lv_goto (tgt := 4) hx hb dX7_isKind_40 (by decide) ?_
              exact ih_4 _ (by omega) (i + 1) (nxtK kd) rfl ⟨by omega, nxtK_lt kd hkd, by rw [← hch]; obtain ⟨f, hf⟩ : ∃ f, 6 - i = f + 1 := ⟨5 - i, by omega⟩; rw [hf, show 6 - (i + 1) = f by omega, isKf, if_neg (by omega), if_neg (by omega)]⟩ _ _ hX hS ls (lv_sub hl [0, 1, 2, 3] rfl)
            · have nc_17 := Nat.not_lt.mp (fun q => c_17 ((n_lt (a := kd) (b := 6) rfl rfl (by omega) (by omega)).mpr q))
              refine lv_iconst (v := 0) hx hb dX7_isKind_29 (by decide) ?_
              rw [← hQ]
              refine x_zret (v := 0) (ty := .boolean) hx hb hr rfl hX hS hlocks dX7_isKind_30 ?_
              refine ⟨?_, rfl⟩
              obtain ⟨f, hf⟩ : ∃ f, 6 - i = f + 1 := ⟨5 - i, by omega⟩
              rw [← hch, hf, isKf, if_neg (by omega), if_pos (by omega)]
              rfl
  exact L_1 _ (0) (a) rfl ⟨Nat.zero_le _, ha6, rfl⟩ _ _ hX hS ls (lv_sub hl [0, 1, 2, 3] rfl)

theorem kX7_sizeBody_157 : (.fieldLink RX7 157 "WindTaken$Mill" "kind" "I" : Cond) ∈ wsX7_sizeBody := by decide +kernel
theorem iX7_sizeBody_X0 : ∀ w ∈ wsX00, w ∈ wsX7_sizeBody := by decide +kernel
theorem kX7_sizeBody_319 : (.fieldLink RX7 319 "WindTaken" "SIZE_BODY" "[I" : Cond) ∈ wsX7_sizeBody := by decide +kernel
abbrev rmX7_sizeBody : Room := { frames := 1, cells := 0, slots := 0, locals := 22 }
set_option maxHeartbeats 4000000 in
set_option maxRecDepth 100000 in
theorem c_X7_sizeBody (l : Launch) (G : GG) (B : Nat) (tt : Nat → Nat) (hW : WOK (wX G B tt)) (x : Mem) {ρ : Nat} (hρ : isRg ρ) {j : Nat} (hj : j < 8) {k : Nat} (hk : x (ρ + 1 + 1 + j) 1 = nI k) (hk6 : k < 6) : Met l yX7_sizeBody wsX7_sizeBody rmX7_sizeBody (XP G (wX G B tt) [.ref (B + (ρ + 1 + 1 + j))] x) (va_Qi (fun r u => r = (sizeK k) ∧ u = x) (XB G (wX G B tt)) (blkA B (B + 77))) 0 0 (blkA B (B + 77)) := by
  refine Met.ofW (cc := cX7_sizeBody) (maxL := 1) (ret := (some .int)) (by decide) rfl ?_
  intro pp ee ss mm aa bb mt cd s1 Bd hml hv
  obtain ⟨hae, hX, hK, hE⟩ := hv
  have hx := Bd.exec
  have hb := Bd.bytes
  have hr := Bd.returns
  have hts := atoms_spec (ws := wsX7_sizeBody) Bd.pre
  have hown : ss.vm.findClass RX7 = some mm.cls := findClass_of_methodNamed Bd.named
  have hlocks := Bd.notSynchronized
  have hS : va_S (blkA B (B + 77)) ss.heap ss.heap [] := va_S.rf
  have hl := lv_entry ([.ref (B + (ρ + 1 + 1 + j))]) (n := 1) (Nat.le_of_ble_eq_true rfl)
  subst hae
  rw [lg_entry_eq]
  generalize (lg_sl ([.ref (B + (ρ + 1 + 1 + j))]) ++ List.replicate (1 - (lg_sl ([.ref (B + (ρ + 1 + 1 + j))])).length) Slot.unset).toArray = ls at hl ⊢
  have hl : lv_has ls 1 [(0, .ref (B + (ρ + 1 + 1 + j)))] := hl
  generalize ([.ref (B + (ρ + 1 + 1 + j))] : List Value).toArray = aa at hts ⊢
  show W pp l ee rmX7_sizeBody ss mm aa bb mt cd ss.heap [] 0 0 _ (F0 mm 0 ls [])
  generalize hQ : MQ bb (va_Qi (fun r u => r = (sizeK k) ∧ u = x) (XB G (wX G B tt)) (blkA B (B + 77))) aa ss 0 0 (blkA B (B + 77)) = Q
  refine lv_aload_n hx hb dX7_sizeBody_0 rfl (lv_at hl 0 rfl) ?_
  refine x_get (w := (wX G B tt)) (a := ρ + 1 + 1 + j) (v := .int (x (ρ + 1 + 1 + j) 1)) hx hb hts iX7_sizeBody_X0 hown hK hX (rg_ltm hρ hj) (shX_mi (G := G) (B := B) hρ hj) rfl 1 (by decide) (hts _ kX7_sizeBody_157) (fun _ h9 => h9) rfl dX7_sizeBody_1 ?_
  refine lv_iconst (v := 0) hx hb dX7_sizeBody_4 (by decide) ?_
  refine lv_iconst (v := 5) hx hb dX7_sizeBody_5 (by decide) ?_
  refine x_ip (w := (wX G B tt)) (x := x) (v := bI (decide (((0 : Int32)) ≤ (x (ρ + 1 + 1 + j) 1)) && decide ((x (ρ + 1 + 1 + j) 1) ≤ ((5 : Int32))))) (va_runS (As := [.int (x (ρ + 1 + 1 + j) 1), .int (0), .int (5)]) (rest := []) ⟨hx, hb, hml, hown, hts⟩ (c_X7_isWithin (l := l) (G := G) (B := B) (tt := tt) (hW := hW) (x := x) (v := x (ρ + 1 + 1 + j) 1) (lo := 0) (hi := 5)) (va_cwS 3 hts gX7_sizeBody_X7_isWithin rfl rfl rfl (by decide +kernel) ⟨Nat.le_of_ble_eq_true rfl, Nat.le_of_ble_eq_true rfl⟩) (x_ps (w := (wX G B tt)) hW hX hK hE hS [.int (x (ρ + 1 + 1 + j) 1), .int (0), .int (5)]) rfl rfl hl.1 rfl (lv_room (Nat.le_of_ble_eq_true rfl)) dX7_sizeBody_6 ⟨Nat.zero_le _, Nat.zero_le _⟩) hS (fun H_1 lo_2 hX hS => ?_)
  refine x_ifeq (tgt := 23) hx hb dX7_sizeBody_9 (by decide) (fun c_3 => ?_) (fun c_3 => ?_)
  · exact absurd c_3 (by rw [hk, kd_in k hk6]; decide)
  · refine va_gets hx hb (hE.1 1 (by decide)) hS hown (hts _ kX7_sizeBody_319) (fun _ h9 => h9) dX7_sizeBody_12 ?_
    refine lv_aload_n hx hb dX7_sizeBody_15 rfl (lv_at hl 0 rfl) ?_
    refine x_get (w := (wX G B tt)) (a := ρ + 1 + 1 + j) (v := .int (x (ρ + 1 + 1 + j) 1)) hx hb hts iX7_sizeBody_X0 hown hK hX (rg_ltm hρ hj) (shX_mi (G := G) (B := B) hρ hj) rfl 1 (by decide) (hts _ kX7_sizeBody_157) (fun _ h9 => h9) rfl dX7_sizeBody_16 ?_
    refine x_tld hx hb hS (hE.2.1 1 (by decide)) hk hk6 (by decide) dX7_sizeBody_19 ?_
    refine lv_goto (tgt := 28) hx hb dX7_sizeBody_20 (by decide) ?_
    rw [← hQ]
    refine x_iret (v := sizeK k) hx hb hr hX hS hlocks dX7_sizeBody_28 ?_
    refine ⟨?_, rfl⟩
    first | rfl | simp [c_3]

theorem kX7_markBody_157 : (.fieldLink RX7 157 "WindTaken$Mill" "kind" "I" : Cond) ∈ wsX7_markBody := by decide +kernel
theorem iX7_markBody_X0 : ∀ w ∈ wsX00, w ∈ wsX7_markBody := by decide +kernel
theorem kX7_markBody_322 : (.fieldLink RX7 322 "WindTaken" "MARK_BODY" "[I" : Cond) ∈ wsX7_markBody := by decide +kernel
abbrev rmX7_markBody : Room := { frames := 1, cells := 0, slots := 0, locals := 22 }
set_option maxHeartbeats 4000000 in
set_option maxRecDepth 100000 in
theorem c_X7_markBody (l : Launch) (G : GG) (B : Nat) (tt : Nat → Nat) (hW : WOK (wX G B tt)) (x : Mem) {ρ : Nat} (hρ : isRg ρ) {j : Nat} (hj : j < 8) {k : Nat} (hk : x (ρ + 1 + 1 + j) 1 = nI k) (hk6 : k < 6) : Met l yX7_markBody wsX7_markBody rmX7_markBody (XP G (wX G B tt) [.ref (B + (ρ + 1 + 1 + j))] x) (va_Qi (fun r u => r = (markK k) ∧ u = x) (XB G (wX G B tt)) (blkA B (B + 77))) 0 0 (blkA B (B + 77)) := by
  refine Met.ofW (cc := cX7_markBody) (maxL := 1) (ret := (some .int)) (by decide) rfl ?_
  intro pp ee ss mm aa bb mt cd s1 Bd hml hv
  obtain ⟨hae, hX, hK, hE⟩ := hv
  have hx := Bd.exec
  have hb := Bd.bytes
  have hr := Bd.returns
  have hts := atoms_spec (ws := wsX7_markBody) Bd.pre
  have hown : ss.vm.findClass RX7 = some mm.cls := findClass_of_methodNamed Bd.named
  have hlocks := Bd.notSynchronized
  have hS : va_S (blkA B (B + 77)) ss.heap ss.heap [] := va_S.rf
  have hl := lv_entry ([.ref (B + (ρ + 1 + 1 + j))]) (n := 1) (Nat.le_of_ble_eq_true rfl)
  subst hae
  rw [lg_entry_eq]
  generalize (lg_sl ([.ref (B + (ρ + 1 + 1 + j))]) ++ List.replicate (1 - (lg_sl ([.ref (B + (ρ + 1 + 1 + j))])).length) Slot.unset).toArray = ls at hl ⊢
  have hl : lv_has ls 1 [(0, .ref (B + (ρ + 1 + 1 + j)))] := hl
  generalize ([.ref (B + (ρ + 1 + 1 + j))] : List Value).toArray = aa at hts ⊢
  show W pp l ee rmX7_markBody ss mm aa bb mt cd ss.heap [] 0 0 _ (F0 mm 0 ls [])
  generalize hQ : MQ bb (va_Qi (fun r u => r = (markK k) ∧ u = x) (XB G (wX G B tt)) (blkA B (B + 77))) aa ss 0 0 (blkA B (B + 77)) = Q
  refine lv_aload_n hx hb dX7_markBody_0 rfl (lv_at hl 0 rfl) ?_
  refine x_get (w := (wX G B tt)) (a := ρ + 1 + 1 + j) (v := .int (x (ρ + 1 + 1 + j) 1)) hx hb hts iX7_markBody_X0 hown hK hX (rg_ltm hρ hj) (shX_mi (G := G) (B := B) hρ hj) rfl 1 (by decide) (hts _ kX7_markBody_157) (fun _ h9 => h9) rfl dX7_markBody_1 ?_
  refine lv_iconst (v := 0) hx hb dX7_markBody_4 (by decide) ?_
  refine lv_iconst (v := 5) hx hb dX7_markBody_5 (by decide) ?_
  refine x_ip (w := (wX G B tt)) (x := x) (v := bI (decide (((0 : Int32)) ≤ (x (ρ + 1 + 1 + j) 1)) && decide ((x (ρ + 1 + 1 + j) 1) ≤ ((5 : Int32))))) (va_runS (As := [.int (x (ρ + 1 + 1 + j) 1), .int (0), .int (5)]) (rest := []) ⟨hx, hb, hml, hown, hts⟩ (c_X7_isWithin (l := l) (G := G) (B := B) (tt := tt) (hW := hW) (x := x) (v := x (ρ + 1 + 1 + j) 1) (lo := 0) (hi := 5)) (va_cwS 3 hts gX7_markBody_X7_isWithin rfl rfl rfl (by decide +kernel) ⟨Nat.le_of_ble_eq_true rfl, Nat.le_of_ble_eq_true rfl⟩) (x_ps (w := (wX G B tt)) hW hX hK hE hS [.int (x (ρ + 1 + 1 + j) 1), .int (0), .int (5)]) rfl rfl hl.1 rfl (lv_room (Nat.le_of_ble_eq_true rfl)) dX7_markBody_6 ⟨Nat.zero_le _, Nat.zero_le _⟩) hS (fun H_1 lo_2 hX hS => ?_)
  refine x_ifeq (tgt := 23) hx hb dX7_markBody_9 (by decide) (fun c_3 => ?_) (fun c_3 => ?_)
  · exact absurd c_3 (by rw [hk, kd_in k hk6]; decide)
  · refine va_gets hx hb (hE.1 2 (by decide)) hS hown (hts _ kX7_markBody_322) (fun _ h9 => h9) dX7_markBody_12 ?_
    refine lv_aload_n hx hb dX7_markBody_15 rfl (lv_at hl 0 rfl) ?_
    refine x_get (w := (wX G B tt)) (a := ρ + 1 + 1 + j) (v := .int (x (ρ + 1 + 1 + j) 1)) hx hb hts iX7_markBody_X0 hown hK hX (rg_ltm hρ hj) (shX_mi (G := G) (B := B) hρ hj) rfl 1 (by decide) (hts _ kX7_markBody_157) (fun _ h9 => h9) rfl dX7_markBody_16 ?_
    refine x_tld hx hb hS (hE.2.1 2 (by decide)) hk hk6 (by decide) dX7_markBody_19 ?_
    refine lv_goto (tgt := 28) hx hb dX7_markBody_20 (by decide) ?_
    rw [← hQ]
    refine x_iret (v := markK k) hx hb hr hX hS hlocks dX7_markBody_28 ?_
    refine ⟨?_, rfl⟩
    first | rfl | simp [c_3]
