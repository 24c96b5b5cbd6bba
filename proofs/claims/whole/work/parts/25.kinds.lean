theorem kX7_isKind_312 : (.fieldLink RX7 312 "WindTaken" "NEXT_KIND" "[I" : Cond) ∈ wsX7_isKind := by decide +kernel
abbrev rmX7_isKind : Room := { frames := 0, cells := 0, slots := 0, locals := 0 }
set_option maxHeartbeats 4000000 in
set_option maxRecDepth 100000 in
theorem c_X7_isKind (l : Launch) (G : GG) (B : Nat) (tt : Nat → Nat) (hW : WOK (wX G B tt)) (x : Mem) {a : Nat} {b : Nat} (ha6 : a < 6) (hb6 : b < 6) : Met l yX7_isKind wsX7_isKind rmX7_isKind (XP G (wX G B tt) [.int (nI a), .int (nI b)] x) (va_Qi (fun r u => r = bI (isKf 6 a b) ∧ u = x) (XB G (wX G B tt)) (blkA B (B + 117))) 0 0 (blkA B (B + 117)) := by
  refine Met.ofW (cc := cX7_isKind) (maxL := 4) (ret := (some .boolean)) (by decide) rfl ?_
  intro pp ee ss mm aa bb mt cd s1 Bd hml hv
  obtain ⟨hae, hX, hK, hE⟩ := hv
  have hx := Bd.exec
  have hb := Bd.bytes
  have hr := Bd.returns
  have hts := atoms_spec (ws := wsX7_isKind) Bd.pre
  have hown : ss.vm.findClass RX7 = some mm.cls := findClass_of_methodNamed Bd.named
  have hlocks := Bd.notSynchronized
  have hS : va_S (blkA B (B + 117)) ss.heap ss.heap [] := va_S.rf
  have hl := lv_entry ([.int (nI a), .int (nI b)]) (n := 4) (Nat.le_of_ble_eq_true rfl)
  subst hae
  rw [lg_entry_eq]
  generalize (lg_sl ([.int (nI a), .int (nI b)]) ++ List.replicate (4 - (lg_sl ([.int (nI a), .int (nI b)])).length) Slot.unset).toArray = ls at hl ⊢
  have hl : lv_has ls 4 [(0, .int (nI a)), (1, .int (nI b))] := hl
  generalize ([.int (nI a), .int (nI b)] : List Value).toArray = aa at hts ⊢
  show W pp l ee rmX7_isKind ss mm aa bb mt cd ss.heap [] 0 0 _ (F0 mm 0 ls [])
  generalize hQ : MQ bb (va_Qi (fun r u => r = bI (isKf 6 a b) ∧ u = x) (XB G (wX G B tt)) (blkA B (B + 117))) aa ss 0 0 (blkA B (B + 117)) = Q
  refine lv_iload_n hx hb dX7_isKind_0 rfl (lv_at hl 0 rfl) ?_
  refine lv_istore_n (lv' := [(2, .int (nI a)), (0, .int (nI a)), (1, .int (nI b))]) hx hb dX7_isKind_1 rfl hl (by decide) rfl (fun ls hl => ?_)
  refine lv_iconst (v := 0) hx hb dX7_isKind_2 (by decide) ?_
  refine lv_istore_n (lv' := [(3, .int (0)), (2, .int (nI a)), (0, .int (nI a)), (1, .int (nI b))]) hx hb dX7_isKind_3 rfl hl (by decide) rfl (fun ls hl => ?_)
  have L_1 : ∀ (n9 : Nat) (i : Nat) (kd : Nat)  (_ : n9 = 6 - i) (_ : i ≤ 6 ∧ kd < 6 ∧ isKf (6 - i) kd b = isKf 6 a b) (H_2 : Heap) (lo_3 : List Loc) (_ : MR G (wX G B tt) x H_2) (_ : va_S (blkA B (B + 117)) ss.heap H_2 lo_3) (ls : Array Slot) (_ : lv_has ls 4 [(3, .int (nI i)), (2, .int (nI kd)), (0, .int (nI a)), (1, .int (nI b))]), W pp l ee rmX7_isKind ss mm aa bb mt cd H_2 lo_3 0 0 Q (F0 mm 4 ls []) := by
    intro n9
    induction n9 using Nat.strongRecOn with
    | _ n9 ih => 
      have ih_4 := ih
      intro i kd hn9 hI H_2 lo_3 hX hS ls hl
      obtain ⟨hi, hkd, hch⟩ := hI
      refine lv_iload_n hx hb dX7_isKind_4 rfl (lv_at hl 0 rfl) ?_
      refine va_gets hx hb (hE.1 0 (by decide)) hS hown (hts _ kX7_isKind_312) (fun _ h9 => h9) dX7_isKind_5 ?_
      refine x_tlen hx hb hS (hE.2.1 0 (by decide)) dX7_isKind_8 ?_
      refine lv_icmp_ge (tgt := 43) hx hb dX7_isKind_9 (by decide) (fun c_4 => ?_) (fun c_4 => ?_)
      · have nc_4 := (n_le (a := 6) (b := i) rfl rfl (by omega) (by omega)).mp c_4
        refine lv_iload_n hx hb dX7_isKind_43 rfl (lv_at hl 1 rfl) ?_
        refine lv_iload_n hx hb dX7_isKind_44 rfl (lv_at hl 3 rfl) ?_
        have kJ_7 : ∀ (v_6 : Bool) (_ : v_6 = (if nI kd = nI b then true else false)) (H_8 : Heap) (lo_9 : List Loc) (_ : MR G (wX G B tt) x H_8) (_ : va_S (blkA B (B + 117)) ss.heap H_8 lo_9) (ls : Array Slot) (_ : lv_has ls 4 [(3, .int (nI i)), (2, .int (nI kd)), (0, .int (nI a)), (1, .int (nI b))]), W pp l ee rmX7_isKind ss mm aa bb mt cd H_8 lo_9 0 0 Q (F0 mm 53 ls [.int (bI (v_6))]) := by
          intro v_6 ev_6 H_8 lo_9 hX hS ls hl
          rw [← hQ]
          refine x_zret (v := bI (v_6)) (ty := .boolean) hx hb hr (bI_nar _) hX hS hlocks dX7_isKind_53 ?_
          refine ⟨?_, rfl⟩
          rw [ev_6, ← hch]
          by_cases h9 : kd = b
          · rw [if_pos (by rw [h9])]
            exact congrArg bI (isKf_eq h9).symm
          · have h8 : i = 6 := by omega
            rw [if_neg (fun z => h9 ((n_eq (a := kd) (b := b) rfl rfl (by omega) (by omega)).mp z)), h8]
            simp [isKf, h9]
        refine lv_icmp_ne (tgt := 52) hx hb dX7_isKind_45 (by decide) (fun c_5 => ?_) (fun c_5 => ?_)
        · refine lv_iconst (v := 0) hx hb dX7_isKind_52 (by decide) ?_
          exact kJ_7 (false) (by rw [if_neg c_5]) _ _ hX hS ls (lv_sub hl [0, 1, 2, 3] rfl)
        · refine lv_iconst (v := 1) hx hb dX7_isKind_48 (by decide) ?_
          refine lv_goto (tgt := 53) hx hb dX7_isKind_49 (by decide) ?_
          exact kJ_7 (true) (by rw [if_pos c_5]) _ _ hX hS ls (lv_sub hl [0, 1, 2, 3] rfl)
      · have nc_4 := Nat.not_le.mp (fun q => c_4 ((n_le (a := 6) (b := i) rfl rfl (by omega) (by omega)).mpr q))
        refine lv_iload_n hx hb dX7_isKind_12 rfl (lv_at hl 1 rfl) ?_
        refine lv_iload_n hx hb dX7_isKind_13 rfl (lv_at hl 3 rfl) ?_
        refine lv_icmp_eq (tgt := 43) hx hb dX7_isKind_14 (by decide) (fun c_10 => ?_) (fun c_10 => ?_)
        · have nc_10 := (n_eq (a := kd) (b := b) rfl rfl (by omega) (by omega)).mp c_10
          refine lv_iload_n hx hb dX7_isKind_43 rfl (lv_at hl 1 rfl) ?_
          refine lv_iload_n hx hb dX7_isKind_44 rfl (lv_at hl 3 rfl) ?_
          have kJ_13 : ∀ (v_12 : Bool) (_ : v_12 = (if nI kd = nI b then true else false)) (H_14 : Heap) (lo_15 : List Loc) (_ : MR G (wX G B tt) x H_14) (_ : va_S (blkA B (B + 117)) ss.heap H_14 lo_15) (ls : Array Slot) (_ : lv_has ls 4 [(3, .int (nI i)), (2, .int (nI kd)), (0, .int (nI a)), (1, .int (nI b))]), W pp l ee rmX7_isKind ss mm aa bb mt cd H_14 lo_15 0 0 Q (F0 mm 53 ls [.int (bI (v_12))]) := by
            intro v_12 ev_12 H_14 lo_15 hX hS ls hl
            rw [← hQ]
            refine x_zret (v := bI (v_12)) (ty := .boolean) hx hb hr (bI_nar _) hX hS hlocks dX7_isKind_53 ?_
            refine ⟨?_, rfl⟩
            rw [ev_12, ← hch]
            by_cases h9 : kd = b
            · rw [if_pos (by rw [h9])]
              exact congrArg bI (isKf_eq h9).symm
            · have h8 : i = 6 := by omega
              rw [if_neg (fun z => h9 ((n_eq (a := kd) (b := b) rfl rfl (by omega) (by omega)).mp z)), h8]
              simp [isKf, h9]
          refine lv_icmp_ne (tgt := 52) hx hb dX7_isKind_45 (by decide) (fun c_11 => ?_) (fun c_11 => ?_)
          · refine lv_iconst (v := 0) hx hb dX7_isKind_52 (by decide) ?_
            exact kJ_13 (false) (by rw [if_neg c_11]) _ _ hX hS ls (lv_sub hl [0, 1, 2, 3] rfl)
          · refine lv_iconst (v := 1) hx hb dX7_isKind_48 (by decide) ?_
            refine lv_goto (tgt := 53) hx hb dX7_isKind_49 (by decide) ?_
            exact kJ_13 (true) (by rw [if_pos c_11]) _ _ hX hS ls (lv_sub hl [0, 1, 2, 3] rfl)
        · have nc_10 : ¬ kd = b := fun q => c_10 ((n_eq (a := kd) (b := b) rfl rfl (by omega) (by omega)).mpr q)
          refine lv_iload_n hx hb dX7_isKind_17 rfl (lv_at hl 1 rfl) ?_
          refine lv_if_le (tgt := 29) hx hb dX7_isKind_18 (by decide) (fun c_16 => ?_) (fun c_16 => ?_)
          · have nc_16 := (n_le (a := kd) (b := 0) rfl rfl (by omega) (by omega)).mp c_16
            refine lv_iconst (v := 0) hx hb dX7_isKind_29 (by decide) ?_
            rw [← hQ]
            refine x_zret (v := 0) (ty := .boolean) hx hb hr rfl hX hS hlocks dX7_isKind_30 ?_
            refine ⟨?_, rfl⟩
            obtain ⟨f, hf⟩ : ∃ f, 6 - i = f + 1 := ⟨5 - i, by omega⟩
            rw [← hch, hf, isKf, if_neg (by omega), if_pos (by omega)]
            rfl
          · have nc_16 := Nat.not_le.mp (fun q => c_16 ((n_le (a := kd) (b := 0) rfl rfl (by omega) (by omega)).mpr q))
            refine lv_iload_n hx hb dX7_isKind_21 rfl (lv_at hl 1 rfl) ?_
            refine va_gets hx hb (hE.1 0 (by decide)) hS hown (hts _ kX7_isKind_312) (fun _ h9 => h9) dX7_isKind_22 ?_
            refine x_tlen hx hb hS (hE.2.1 0 (by decide)) dX7_isKind_25 ?_
            refine lv_icmp_lt (tgt := 31) hx hb dX7_isKind_26 (by decide) (fun c_17 => ?_) (fun c_17 => ?_)
            · have nc_17 := (n_lt (a := kd) (b := 6) rfl rfl (by omega) (by omega)).mp c_17
              refine va_gets hx hb (hE.1 0 (by decide)) hS hown (hts _ kX7_isKind_312) (fun _ h9 => h9) dX7_isKind_31 ?_
              refine lv_iload_n hx hb dX7_isKind_34 rfl (lv_at hl 1 rfl) ?_
              refine x_tld hx hb hS (hE.2.1 0 (by decide)) rfl (by omega) (by decide) dX7_isKind_35 ?_
              refine W.eq (g2 := F0 mm 36 ls [.int (nI (nxtK kd))]) (congrArg (fun z9 : Int32 => F0 mm 36 ls [.int (z9)]) (nextK_n kd hkd (by omega))) ?_
              refine lv_istore_n (lv' := [(2, .int (nI (nxtK kd))), (3, .int (nI i)), (0, .int (nI a)), (1, .int (nI b))]) hx hb dX7_isKind_36 rfl hl (by decide) rfl (fun ls hl => ?_)
              refine lv_iinc (v := nI (i + 1)) (lv' := [(3, .int (nI (i + 1))), (2, .int (nI (nxtK kd))), (0, .int (nI a)), (1, .int (nI b))]) hx hb dX7_isKind_37 hl (k := 1) rfl (inc_nI _) (by decide) rfl (fun ls hl => ?_)
              refine lv_goto (tgt := 4) hx hb dX7_isKind_40 (by decide) ?_
              exact ih_4 _ (by omega) (i + 1) (nxtK kd) rfl ⟨by omega, nxtK_lt kd hkd, by rw [← hch]; obtain ⟨f, hf⟩ : ∃ f, 6 - i = f + 1 := ⟨5 - i, by omega⟩; rw [hf, show 6 - (i + 1) = f by omega, isKf, if_neg (by omega), if_neg (by omega)]⟩ _ _ hX hS ls (lv_sub hl [0, 1, 2, 3] rfl)
            · have nc_17 := Nat.not_lt.mp (fun q => c_17 ((n_lt (a := kd) (b := 6) rfl rfl (by omega) (by omega)).mpr q))
              refine lv_iconst (v := 0) hx hb dX7_isKind_29 (by decide) ?_
              rw [← hQ]
              refine x_zret (v := 0) (ty := .boolean) hx hb hr rfl hX hS hlocks dX7_isKind_30 ?_
              refine ⟨?_, rfl⟩
              obtain ⟨f, hf⟩ : ∃ f, 6 - i = f + 1 := ⟨5 - i, by omega⟩
              rw [← hch, hf, isKf, if_neg (by omega), if_pos (by omega)]
              rfl
  exact L_1 _ (0) (a) rfl ⟨Nat.zero_le _, ha6, rfl⟩ _ _ hX hS ls (lv_sub hl [0, 1, 2, 3] rfl)

theorem kX7_sizeBody_152 : (.fieldLink RX7 152 "WindTaken$Mill" "kind" "I" : Cond) ∈ wsX7_sizeBody := by decide +kernel
theorem iX7_sizeBody_X0 : ∀ w ∈ wsX00, w ∈ wsX7_sizeBody := by decide +kernel
theorem kX7_sizeBody_315 : (.fieldLink RX7 315 "WindTaken" "SIZE_BODY" "[I" : Cond) ∈ wsX7_sizeBody := by decide +kernel
abbrev rmX7_sizeBody : Room := { frames := 1, cells := 0, slots := 0, locals := 22 }
set_option maxHeartbeats 4000000 in
set_option maxRecDepth 100000 in
theorem c_X7_sizeBody (l : Launch) (G : GG) (B : Nat) (tt : Nat → Nat) (hW : WOK (wX G B tt)) (x : Mem) {ρ : Nat} (hρ : isRg ρ) {j : Nat} (hj : j < 8) {k : Nat} (hk : x (ρ + 1 + 1 + j) 1 = nI k) (hk6 : k < 6) : Met l yX7_sizeBody wsX7_sizeBody rmX7_sizeBody (XP G (wX G B tt) [.ref (B + (ρ + 1 + 1 + j))] x) (va_Qi (fun r u => r = (sizeK k) ∧ u = x) (XB G (wX G B tt)) (blkA B (B + 117))) 0 0 (blkA B (B + 117)) := by
  refine Met.ofW (cc := cX7_sizeBody) (maxL := 1) (ret := (some .int)) (by decide) rfl ?_
  intro pp ee ss mm aa bb mt cd s1 Bd hml hv
  obtain ⟨hae, hX, hK, hE⟩ := hv
  have hx := Bd.exec
  have hb := Bd.bytes
  have hr := Bd.returns
  have hts := atoms_spec (ws := wsX7_sizeBody) Bd.pre
  have hown : ss.vm.findClass RX7 = some mm.cls := findClass_of_methodNamed Bd.named
  have hlocks := Bd.notSynchronized
  have hS : va_S (blkA B (B + 117)) ss.heap ss.heap [] := va_S.rf
  have hl := lv_entry ([.ref (B + (ρ + 1 + 1 + j))]) (n := 1) (Nat.le_of_ble_eq_true rfl)
  subst hae
  rw [lg_entry_eq]
  generalize (lg_sl ([.ref (B + (ρ + 1 + 1 + j))]) ++ List.replicate (1 - (lg_sl ([.ref (B + (ρ + 1 + 1 + j))])).length) Slot.unset).toArray = ls at hl ⊢
  have hl : lv_has ls 1 [(0, .ref (B + (ρ + 1 + 1 + j)))] := hl
  generalize ([.ref (B + (ρ + 1 + 1 + j))] : List Value).toArray = aa at hts ⊢
  show W pp l ee rmX7_sizeBody ss mm aa bb mt cd ss.heap [] 0 0 _ (F0 mm 0 ls [])
  generalize hQ : MQ bb (va_Qi (fun r u => r = (sizeK k) ∧ u = x) (XB G (wX G B tt)) (blkA B (B + 117))) aa ss 0 0 (blkA B (B + 117)) = Q
  refine lv_aload_n hx hb dX7_sizeBody_0 rfl (lv_at hl 0 rfl) ?_
  refine x_get (w := (wX G B tt)) (a := ρ + 1 + 1 + j) (v := .int (x (ρ + 1 + 1 + j) 1)) hx hb hts iX7_sizeBody_X0 hown hK hX (rg_ltm hρ hj) (shX_mi (G := G) (B := B) hρ hj) rfl 1 (by decide) (hts _ kX7_sizeBody_152) (fun _ h9 => h9) rfl dX7_sizeBody_1 ?_
  refine lv_iconst (v := 0) hx hb dX7_sizeBody_4 (by decide) ?_
  refine lv_iconst (v := 5) hx hb dX7_sizeBody_5 (by decide) ?_
  refine x_ip (w := (wX G B tt)) (x := x) (v := bI (decide (((0 : Int32)) ≤ (x (ρ + 1 + 1 + j) 1)) && decide ((x (ρ + 1 + 1 + j) 1) ≤ ((5 : Int32))))) (va_runS (As := [.int (x (ρ + 1 + 1 + j) 1), .int (0), .int (5)]) (rest := []) ⟨hx, hb, hml, hown, hts⟩ (c_X7_isWithin (l := l) (G := G) (B := B) (tt := tt) (hW := hW) (x := x) (v := x (ρ + 1 + 1 + j) 1) (lo := 0) (hi := 5)) (va_cwS 3 hts gX7_sizeBody_X7_isWithin rfl rfl rfl (by decide +kernel) ⟨Nat.le_of_ble_eq_true rfl, Nat.le_of_ble_eq_true rfl⟩) (x_ps (w := (wX G B tt)) hW hX hK hE hS [.int (x (ρ + 1 + 1 + j) 1), .int (0), .int (5)]) rfl rfl hl.1 rfl (lv_room (Nat.le_of_ble_eq_true rfl)) dX7_sizeBody_6 ⟨Nat.zero_le _, Nat.zero_le _⟩) hS (fun H_1 lo_2 hX hS => ?_)
  refine x_ifeq (tgt := 23) hx hb dX7_sizeBody_9 (by decide) (fun c_3 => ?_) (fun c_3 => ?_)
  · exact absurd c_3 (by rw [hk, kd_in k hk6]; decide)
  · refine va_gets hx hb (hE.1 1 (by decide)) hS hown (hts _ kX7_sizeBody_315) (fun _ h9 => h9) dX7_sizeBody_12 ?_
    refine lv_aload_n hx hb dX7_sizeBody_15 rfl (lv_at hl 0 rfl) ?_
    refine x_get (w := (wX G B tt)) (a := ρ + 1 + 1 + j) (v := .int (x (ρ + 1 + 1 + j) 1)) hx hb hts iX7_sizeBody_X0 hown hK hX (rg_ltm hρ hj) (shX_mi (G := G) (B := B) hρ hj) rfl 1 (by decide) (hts _ kX7_sizeBody_152) (fun _ h9 => h9) rfl dX7_sizeBody_16 ?_
    refine x_tld hx hb hS (hE.2.1 1 (by decide)) hk hk6 (by decide) dX7_sizeBody_19 ?_
    refine lv_goto (tgt := 28) hx hb dX7_sizeBody_20 (by decide) ?_
    rw [← hQ]
    refine x_iret (v := sizeK k) hx hb hr hX hS hlocks dX7_sizeBody_28 ?_
    refine ⟨?_, rfl⟩
    first | rfl | simp [c_3]

theorem kX7_markBody_152 : (.fieldLink RX7 152 "WindTaken$Mill" "kind" "I" : Cond) ∈ wsX7_markBody := by decide +kernel
theorem iX7_markBody_X0 : ∀ w ∈ wsX00, w ∈ wsX7_markBody := by decide +kernel
theorem kX7_markBody_318 : (.fieldLink RX7 318 "WindTaken" "MARK_BODY" "[I" : Cond) ∈ wsX7_markBody := by decide +kernel
abbrev rmX7_markBody : Room := { frames := 1, cells := 0, slots := 0, locals := 22 }
set_option maxHeartbeats 4000000 in
set_option maxRecDepth 100000 in
theorem c_X7_markBody (l : Launch) (G : GG) (B : Nat) (tt : Nat → Nat) (hW : WOK (wX G B tt)) (x : Mem) {ρ : Nat} (hρ : isRg ρ) {j : Nat} (hj : j < 8) {k : Nat} (hk : x (ρ + 1 + 1 + j) 1 = nI k) (hk6 : k < 6) : Met l yX7_markBody wsX7_markBody rmX7_markBody (XP G (wX G B tt) [.ref (B + (ρ + 1 + 1 + j))] x) (va_Qi (fun r u => r = (markK k) ∧ u = x) (XB G (wX G B tt)) (blkA B (B + 117))) 0 0 (blkA B (B + 117)) := by
  refine Met.ofW (cc := cX7_markBody) (maxL := 1) (ret := (some .int)) (by decide) rfl ?_
  intro pp ee ss mm aa bb mt cd s1 Bd hml hv
  obtain ⟨hae, hX, hK, hE⟩ := hv
  have hx := Bd.exec
  have hb := Bd.bytes
  have hr := Bd.returns
  have hts := atoms_spec (ws := wsX7_markBody) Bd.pre
  have hown : ss.vm.findClass RX7 = some mm.cls := findClass_of_methodNamed Bd.named
  have hlocks := Bd.notSynchronized
  have hS : va_S (blkA B (B + 117)) ss.heap ss.heap [] := va_S.rf
  have hl := lv_entry ([.ref (B + (ρ + 1 + 1 + j))]) (n := 1) (Nat.le_of_ble_eq_true rfl)
  subst hae
  rw [lg_entry_eq]
  generalize (lg_sl ([.ref (B + (ρ + 1 + 1 + j))]) ++ List.replicate (1 - (lg_sl ([.ref (B + (ρ + 1 + 1 + j))])).length) Slot.unset).toArray = ls at hl ⊢
  have hl : lv_has ls 1 [(0, .ref (B + (ρ + 1 + 1 + j)))] := hl
  generalize ([.ref (B + (ρ + 1 + 1 + j))] : List Value).toArray = aa at hts ⊢
  show W pp l ee rmX7_markBody ss mm aa bb mt cd ss.heap [] 0 0 _ (F0 mm 0 ls [])
  generalize hQ : MQ bb (va_Qi (fun r u => r = (markK k) ∧ u = x) (XB G (wX G B tt)) (blkA B (B + 117))) aa ss 0 0 (blkA B (B + 117)) = Q
  refine lv_aload_n hx hb dX7_markBody_0 rfl (lv_at hl 0 rfl) ?_
  refine x_get (w := (wX G B tt)) (a := ρ + 1 + 1 + j) (v := .int (x (ρ + 1 + 1 + j) 1)) hx hb hts iX7_markBody_X0 hown hK hX (rg_ltm hρ hj) (shX_mi (G := G) (B := B) hρ hj) rfl 1 (by decide) (hts _ kX7_markBody_152) (fun _ h9 => h9) rfl dX7_markBody_1 ?_
  refine lv_iconst (v := 0) hx hb dX7_markBody_4 (by decide) ?_
  refine lv_iconst (v := 5) hx hb dX7_markBody_5 (by decide) ?_
  refine x_ip (w := (wX G B tt)) (x := x) (v := bI (decide (((0 : Int32)) ≤ (x (ρ + 1 + 1 + j) 1)) && decide ((x (ρ + 1 + 1 + j) 1) ≤ ((5 : Int32))))) (va_runS (As := [.int (x (ρ + 1 + 1 + j) 1), .int (0), .int (5)]) (rest := []) ⟨hx, hb, hml, hown, hts⟩ (c_X7_isWithin (l := l) (G := G) (B := B) (tt := tt) (hW := hW) (x := x) (v := x (ρ + 1 + 1 + j) 1) (lo := 0) (hi := 5)) (va_cwS 3 hts gX7_markBody_X7_isWithin rfl rfl rfl (by decide +kernel) ⟨Nat.le_of_ble_eq_true rfl, Nat.le_of_ble_eq_true rfl⟩) (x_ps (w := (wX G B tt)) hW hX hK hE hS [.int (x (ρ + 1 + 1 + j) 1), .int (0), .int (5)]) rfl rfl hl.1 rfl (lv_room (Nat.le_of_ble_eq_true rfl)) dX7_markBody_6 ⟨Nat.zero_le _, Nat.zero_le _⟩) hS (fun H_1 lo_2 hX hS => ?_)
  refine x_ifeq (tgt := 23) hx hb dX7_markBody_9 (by decide) (fun c_3 => ?_) (fun c_3 => ?_)
  · exact absurd c_3 (by rw [hk, kd_in k hk6]; decide)
  · refine va_gets hx hb (hE.1 2 (by decide)) hS hown (hts _ kX7_markBody_318) (fun _ h9 => h9) dX7_markBody_12 ?_
    refine lv_aload_n hx hb dX7_markBody_15 rfl (lv_at hl 0 rfl) ?_
    refine x_get (w := (wX G B tt)) (a := ρ + 1 + 1 + j) (v := .int (x (ρ + 1 + 1 + j) 1)) hx hb hts iX7_markBody_X0 hown hK hX (rg_ltm hρ hj) (shX_mi (G := G) (B := B) hρ hj) rfl 1 (by decide) (hts _ kX7_markBody_152) (fun _ h9 => h9) rfl dX7_markBody_16 ?_
    refine x_tld hx hb hS (hE.2.1 2 (by decide)) hk hk6 (by decide) dX7_markBody_19 ?_
    refine lv_goto (tgt := 28) hx hb dX7_markBody_20 (by decide) ?_
    rw [← hQ]
    refine x_iret (v := markK k) hx hb hr hX hS hlocks dX7_markBody_28 ?_
    refine ⟨?_, rfl⟩
    first | rfl | simp [c_3]

def PT_X7_as (x : Mem) (m : Int32) (k : Int32) (n : Nat) (nw : Nat → Int32) (r : Int32) (u : Mem) : Prop := (if (decide (0 ≤ m) && decide (m < x 5 1)) = false then (r = (-1000001) ∧ u = x) else (if (decide (((0 : Int32)) ≤ k) && decide (k ≤ ((5 : Int32)))) = true then (if (isKf 6 (tn (x (5 + 1 + 1 + (tn m)) 1)) (tn k)) = false then (r = -1000010 - 3 ∧ u = mst x 0 8 3) else (r = m ∧ u = mst x 0 8 0)) else (r = (-1000001) ∧ u = x)))
theorem kX7_as_25 : (.fieldLink RX7 25 "WindTaken" "ridge" "LWindTaken$Ridge;" : Cond) ∈ wsX7_as := by decide +kernel
theorem iX7_as_X7 : ∀ w ∈ wsX70, w ∈ wsX7_as := by decide +kernel
theorem kX7_as_59 : (.constant RX7 59 (-1000001) : Cond) ∈ wsX7_as := by decide +kernel
theorem kX7_as_135 : (.fieldLink RX7 135 "WindTaken$Ridge" "mills" "[LWindTaken$Mill;" : Cond) ∈ wsX7_as := by decide +kernel
theorem iX7_as_X3 : ∀ w ∈ wsX30, w ∈ wsX7_as := by decide +kernel
theorem kX7_as_152 : (.fieldLink RX7 152 "WindTaken$Mill" "kind" "I" : Cond) ∈ wsX7_as := by decide +kernel
theorem iX7_as_X0 : ∀ w ∈ wsX00, w ∈ wsX7_as := by decide +kernel
abbrev rmX7_as : Room := { frames := 1, cells := 0, slots := 0, locals := 23 }
set_option maxHeartbeats 4000000 in
set_option maxRecDepth 100000 in
theorem c_X7_as (l : Launch) (G : GG) (B : Nat) (tt : Nat → Nat) (hW : WOK (wX G B tt)) (x : Mem) (m : Int32) (k : Int32) {n : Nat} {nw : Nat → Int32} (hR : RR n x 5 nw) (hkk : ∀ j, j < n → ∃ k, k < 6 ∧ sK nw j = nI k) : Met l yX7_as wsX7_as rmX7_as (XP G (wX G B tt) [.ref (B + (0)), .int (m), .int (k)] x) (va_Qi (fun r u => PT_X7_as x m k n nw r u) (XB G (wX G B tt)) (blkA B (B + 117))) 0 0 (blkA B (B + 117)) := by
  refine Met.ofW (cc := cX7_as) (maxL := 3) (ret := (some .int)) (by decide) rfl ?_
  intro pp ee ss mm aa bb mt cd s1 Bd hml hv
  obtain ⟨hae, hX, hK, hE⟩ := hv
  have hx := Bd.exec
  have hb := Bd.bytes
  have hr := Bd.returns
  have hts := atoms_spec (ws := wsX7_as) Bd.pre
  have hown : ss.vm.findClass RX7 = some mm.cls := findClass_of_methodNamed Bd.named
  have hlocks := Bd.notSynchronized
  have hS : va_S (blkA B (B + 117)) ss.heap ss.heap [] := va_S.rf
  have hl := lv_entry ([.ref (B + (0)), .int (m), .int (k)]) (n := 3) (Nat.le_of_ble_eq_true rfl)
  subst hae
  rw [lg_entry_eq]
  generalize (lg_sl ([.ref (B + (0)), .int (m), .int (k)]) ++ List.replicate (3 - (lg_sl ([.ref (B + (0)), .int (m), .int (k)])).length) Slot.unset).toArray = ls at hl ⊢
  have hl : lv_has ls 3 [(0, .ref (B + (0))), (1, .int (m)), (2, .int (k))] := hl
  generalize ([.ref (B + (0)), .int (m), .int (k)] : List Value).toArray = aa at hts ⊢
  show W pp l ee rmX7_as ss mm aa bb mt cd ss.heap [] 0 0 _ (F0 mm 0 ls [])
  generalize hQ : MQ bb (va_Qi (fun r u => PT_X7_as x m k n nw r u) (XB G (wX G B tt)) (blkA B (B + 117))) aa ss 0 0 (blkA B (B + 117)) = Q
  have hn8 := hR.1
  refine lv_aload_n hx hb dX7_as_0 rfl (lv_at hl 0 rfl) ?_
  refine x_get (w := (wX G B tt)) (a := 0) (v := .ref (B + (5))) hx hb hts iX7_as_X7 hown hK hX (Nat.le_of_ble_eq_true rfl) (shX_mn (G := G) (B := B)) rfl 2 (by decide) (hts _ kX7_as_25) (fun _ h9 => h9) rfl dX7_as_1 ?_
  refine lv_iload_n hx hb dX7_as_4 rfl (lv_at hl 1 rfl) ?_
  refine x_ip (w := (wX G B tt)) (x := x) (v := bI (decide (0 ≤ m) && decide (m < x 5 1))) (va_runV (As := [.int (m)]) (rest := []) ⟨hx, hb, hml, hown, hts⟩ (c_X3_has (l := l) (G := G) (B := B) (tt := tt) (hW := hW) (x := x) (ρ := 5) (hρ := rg5) (v := m)) (cwV 1 hts gX7_as_X3_has rfl rfl rfl (by decide +kernel) ⟨Nat.le_of_ble_eq_true rfl, Nat.le_of_ble_eq_true rfl⟩) (x_pv (w := (wX G B tt)) (a := 5) hW hX hK hE hS [.int (m)] (rg_lt rg5) (shX_ri (G := G) (B := B) rg5) rfl) rfl rfl hl.1 rfl (lv_room (Nat.le_of_ble_eq_true rfl)) dX7_as_5 ⟨Nat.zero_le _, Nat.zero_le _⟩) hS (fun H_1 lo_2 hX hS => ?_)
  refine x_ifeq (tgt := 20) hx hb dX7_as_8 (by decide) (fun c_3 => ?_) (fun c_3 => ?_)
  · refine lv_ldc (v := (-1000001)) hx hb hown (hts _ kX7_as_59) dX7_as_20 ?_
    rw [← hQ]
    refine x_iret (v := (-1000001)) hx hb hr hX hS hlocks dX7_as_22 ?_
    show PT_X7_as _ _ _ _ _ _ _
    unfold PT_X7_as
    rw [if_pos c_3]
    exact ⟨rfl, rfl⟩
  · obtain ⟨hme, hmn⟩ := hasM hR.cnt hn8 c_3
    obtain ⟨hkx, hkx6⟩ := kdN (x := x (5 + 1 + 1 + tn m) 1) (by rw [hR.kd hmn]; exact hkk (tn m) hmn)
    refine lv_iload_n hx hb dX7_as_11 rfl (lv_at hl 2 rfl) ?_
    refine lv_iconst (v := 0) hx hb dX7_as_12 (by decide) ?_
    refine lv_iconst (v := 5) hx hb dX7_as_13 (by decide) ?_
    refine x_ip (w := (wX G B tt)) (x := x) (v := bI (decide (((0 : Int32)) ≤ k) && decide (k ≤ ((5 : Int32))))) (va_runS (As := [.int (k), .int (0), .int (5)]) (rest := []) ⟨hx, hb, hml, hown, hts⟩ (c_X7_isWithin (l := l) (G := G) (B := B) (tt := tt) (hW := hW) (x := x) (v := k) (lo := 0) (hi := 5)) (va_cwS 3 hts gX7_as_X7_isWithin rfl rfl rfl (by decide +kernel) ⟨Nat.le_of_ble_eq_true rfl, Nat.le_of_ble_eq_true rfl⟩) (x_ps (w := (wX G B tt)) hW hX hK hE hS [.int (k), .int (0), .int (5)]) rfl rfl hl.1 rfl (lv_room (Nat.le_of_ble_eq_true rfl)) dX7_as_14 ⟨Nat.zero_le _, Nat.zero_le _⟩) hS (fun H_4 lo_5 hX hS => ?_)
    refine x_ifne (tgt := 23) hx hb dX7_as_17 (by decide) (fun c_6 => ?_) (fun c_6 => ?_)
    · obtain ⟨hkbe, hkb5⟩ := within_nI (k := 5) rfl (by decide) c_6
      refine lv_aload_n hx hb dX7_as_23 rfl (lv_at hl 0 rfl) ?_
      refine x_get (w := (wX G B tt)) (a := 0) (v := .ref (B + (5))) hx hb hts iX7_as_X7 hown hK hX (Nat.le_of_ble_eq_true rfl) (shX_mn (G := G) (B := B)) rfl 2 (by decide) (hts _ kX7_as_25) (fun _ h9 => h9) rfl dX7_as_24 ?_
      refine x_get (w := (wX G B tt)) (a := 5) (v := .ref (B + (5 + 1))) hx hb hts iX7_as_X3 hown hK hX (rg_lt rg5) (shX_ri (G := G) (B := B) rg5) rfl 0 (by decide) (hts _ kX7_as_135) (fun _ h9 => h9) rfl dX7_as_27 ?_
      refine lv_iload_n hx hb dX7_as_30 rfl (lv_at hl 1 rfl) ?_
      refine x_aald (w := (wX G B tt)) (a := 5 + 1) (n := 8) (j := tn m) (q := B + (5 + 1 + 1 + (tn m))) (t0 := 2) hx hb hK hX (rg_lt1 rg5) (shX_ma (G := G) (B := B) (f := x (5 + 1)) rg5) rfl hme (by omega) (by decide) rfl dX7_as_31 ?_
      refine x_get (w := (wX G B tt)) (a := 5 + 1 + 1 + (tn m)) (v := .int (x (5 + 1 + 1 + (tn m)) 1)) hx hb hts iX7_as_X0 hown hK hX (rg_ltm rg5 (by omega)) (shX_mi (G := G) (B := B) rg5 (by omega)) rfl 1 (by decide) (hts _ kX7_as_152) (fun _ h9 => h9) rfl dX7_as_32 ?_
      refine lv_iload_n hx hb dX7_as_35 rfl (lv_at hl 2 rfl) ?_
      refine W.eq (g2 := F0 mm 36 ls [.int (k), .int (nI (tn (x (5 + 1 + 1 + (tn m)) 1)))]) (congrArg (fun z9 : Int32 => F0 mm 36 ls [.int (k), .int (z9)]) hkx) ?_
      refine W.eq (g2 := F0 mm 36 ls [.int (nI (tn k)), .int (nI (tn (x (5 + 1 + 1 + (tn m)) 1)))]) (congrArg (fun z9 : Int32 => F0 mm 36 ls [.int (z9), .int (nI (tn (x (5 + 1 + 1 + (tn m)) 1)))]) hkbe) ?_
      refine x_ip (w := (wX G B tt)) (x := x) (v := bI (isKf 6 (tn (x (5 + 1 + 1 + (tn m)) 1)) (tn k))) (va_runS (As := [.int (nI (tn (x (5 + 1 + 1 + (tn m)) 1))), .int (nI (tn k))]) (rest := []) ⟨hx, hb, hml, hown, hts⟩ (c_X7_isKind (l := l) (G := G) (B := B) (tt := tt) (hW := hW) (x := x) (a := tn (x (5 + 1 + 1 + (tn m)) 1)) (b := tn k) (ha6 := (by omega)) (hb6 := (by omega))) (va_cwS 2 hts gX7_as_X7_isKind rfl rfl rfl (by decide +kernel) ⟨Nat.le_of_ble_eq_true rfl, Nat.le_of_ble_eq_true rfl⟩) (x_ps (w := (wX G B tt)) hW hX hK hE hS [.int (nI (tn (x (5 + 1 + 1 + (tn m)) 1))), .int (nI (tn k))]) rfl rfl hl.1 rfl (lv_room (Nat.le_of_ble_eq_true rfl)) dX7_as_36 ⟨Nat.zero_le _, Nat.zero_le _⟩) hS (fun H_7 lo_8 hX hS => ?_)
      refine x_ifeq (tgt := 50) hx hb dX7_as_39 (by decide) (fun c_9 => ?_) (fun c_9 => ?_)
      · refine lv_aload_n hx hb dX7_as_50 rfl (lv_at hl 0 rfl) ?_
        refine lv_iconst (v := 3) hx hb dX7_as_51 (by decide) ?_
        refine x_if (w := (wX G B tt)) (va_runV (As := [.int (3)]) (rest := []) ⟨hx, hb, hml, hown, hts⟩ (c_X7_found (l := l) (G := G) (B := B) (tt := tt) (hW := hW) (x := x) (f := 3)) (cwV 1 hts gX7_as_X7_found rfl rfl rfl (by decide +kernel) ⟨Nat.le_of_ble_eq_true rfl, Nat.le_of_ble_eq_true rfl⟩) (x_pv (w := (wX G B tt)) (a := 0) hW hX hK hE hS [.int (3)] (Nat.le_of_ble_eq_true rfl) (shX_mn (G := G) (B := B)) rfl) rfl rfl hl.1 rfl (lv_room (Nat.le_of_ble_eq_true rfl)) dX7_as_52 ⟨Nat.zero_le _, Nat.zero_le _⟩) hS (fun r_12 x_13 H_10 lo_11 h_52 hX hS => ?_)
        try dsimp only at h_52
        rw [← hQ]
        refine x_iret (v := r_12) hx hb hr hX hS hlocks dX7_as_55 ?_
        show PT_X7_as _ _ _ _ _ _ _
        unfold PT_X7_as
        rw [if_neg (ne_of_true c_3), if_pos c_6, if_pos c_9]
        exact h_52
      · refine lv_aload_n hx hb dX7_as_42 rfl (lv_at hl 0 rfl) ?_
        refine lv_iload_n hx hb dX7_as_43 rfl (lv_at hl 1 rfl) ?_
        refine x_if (w := (wX G B tt)) (va_runV (As := [.int (m)]) (rest := []) ⟨hx, hb, hml, hown, hts⟩ (c_X7_unfound (l := l) (G := G) (B := B) (tt := tt) (hW := hW) (x := x) (a := m)) (cwV 1 hts gX7_as_X7_unfound rfl rfl rfl (by decide +kernel) ⟨Nat.le_of_ble_eq_true rfl, Nat.le_of_ble_eq_true rfl⟩) (x_pv (w := (wX G B tt)) (a := 0) hW hX hK hE hS [.int (m)] (Nat.le_of_ble_eq_true rfl) (shX_mn (G := G) (B := B)) rfl) rfl rfl hl.1 rfl (lv_room (Nat.le_of_ble_eq_true rfl)) dX7_as_44 ⟨Nat.zero_le _, Nat.zero_le _⟩) hS (fun r_16 x_17 H_14 lo_15 h_44 hX hS => ?_)
        try dsimp only at h_44
        refine lv_goto (tgt := 55) hx hb dX7_as_47 (by decide) ?_
        rw [← hQ]
        refine x_iret (v := r_16) hx hb hr hX hS hlocks dX7_as_55 ?_
        show PT_X7_as _ _ _ _ _ _ _
        unfold PT_X7_as
        rw [if_neg (ne_of_true c_3), if_pos c_6, if_neg (ne_of_true c_9)]
        exact h_44
    · refine lv_ldc (v := (-1000001)) hx hb hown (hts _ kX7_as_59) dX7_as_20 ?_
      rw [← hQ]
      refine x_iret (v := (-1000001)) hx hb hr hX hS hlocks dX7_as_22 ?_
      show PT_X7_as _ _ _ _ _ _ _
      unfold PT_X7_as
      rw [if_neg (ne_of_true c_3), if_neg (ne_of_false c_6)]
      exact ⟨rfl, rfl⟩
