abbrev rmX2_takeSort : Room := { frames := 6, cells := 0, slots := 0, locals := 130 }
set_option maxHeartbeats 4000000 in
set_option maxRecDepth 100000 in
theorem c_X2_takeSort (l : Launch) (G : GG) (B : Nat) (tt : Nat → Nat) (hW : WOK (wX G B tt)) (x : Mem) {f : Nat → Int32} {t : Nat} {p : Nat} {w : Int32} (hRD : RD f t p w x) (ht400 : t ≤ 400) (hpt : p ≤ t) : Met l yX2_takeSort wsX2_takeSort rmX2_takeSort (XP G (wX G B tt) [.ref (B + (2))] x) (va_Qi (fun r u => r = nI (srtN f t p) ∧ RD f t (tkP f t p w (decide (srtN f t p ≠ 0))) (tkW w (decide (srtN f t p ≠ 0))) u ∧ ∀ a, a ≠ 2 → u a = x a) (XB G (wX G B tt)) (blkA B (B + 117))) 0 0 (blkA B (B + 117)) := by
  refine Met.ofW (cc := cX2_takeSort) (maxL := 3) (ret := (some .int)) (by decide) rfl ?_
  intro pp ee ss mm aa bb mt cd s1 Bd hml hv
  obtain ⟨hae, hX, hK, hE⟩ := hv
  have hx := Bd.exec
  have hb := Bd.bytes
  have hr := Bd.returns
  have hts := atoms_spec (ws := wsX2_takeSort) Bd.pre
  have hown : ss.vm.findClass RX2 = some mm.cls := findClass_of_methodNamed Bd.named
  have hlocks := Bd.notSynchronized
  have hS : va_S (blkA B (B + 117)) ss.heap ss.heap [] := va_S.rf
  have hl := lv_entry ([.ref (B + (2))]) (n := 3) (Nat.le_of_ble_eq_true rfl)
  subst hae
  rw [lg_entry_eq]
  generalize (lg_sl ([.ref (B + (2))]) ++ List.replicate (3 - (lg_sl ([.ref (B + (2))])).length) Slot.unset).toArray = ls at hl ⊢
  have hl : lv_has ls 3 [(0, .ref (B + (2)))] := hl
  generalize ([.ref (B + (2))] : List Value).toArray = aa at hts ⊢
  show W pp l ee rmX2_takeSort ss mm aa bb mt cd ss.heap [] 0 0 _ (F0 mm 0 ls [])
  generalize hQ : MQ bb (va_Qi (fun r u => r = nI (srtN f t p) ∧ RD f t (tkP f t p w (decide (srtN f t p ≠ 0))) (tkW w (decide (srtN f t p ≠ 0))) u ∧ ∀ a, a ≠ 2 → u a = x a) (XB G (wX G B tt)) (blkA B (B + 117))) aa ss 0 0 (blkA B (B + 117)) = Q
  refine lv_iconst (v := 0) hx hb dX2_takeSort_0 (by decide) ?_
  refine lv_istore_n (lv' := [(1, .int (0)), (0, .ref (B + (2)))]) hx hb dX2_takeSort_1 rfl hl (by decide) rfl (fun ls hl => ?_)
  refine lv_iconst (v := 1) hx hb dX2_takeSort_2 (by decide) ?_
  refine lv_istore_n (lv' := [(2, .int (1)), (1, .int (0)), (0, .ref (B + (2)))]) hx hb dX2_takeSort_3 rfl hl (by decide) rfl (fun ls hl => ?_)
  have L_1 : ∀ (n9 : Nat) (k : Nat) (kd : Nat)  (_ : n9 = 6 - k) (_ : 1 ≤ k ∧ k ≤ 6 ∧ kd = srtP (fun j => nmB f t p (j + 1)) (k - 1)) (H_2 : Heap) (lo_3 : List Loc) (_ : MR G (wX G B tt) x H_2) (_ : va_S (blkA B (B + 117)) ss.heap H_2 lo_3) (ls : Array Slot) (_ : lv_has ls 3 [(2, .int (nI k)), (1, .int (nI kd)), (0, .ref (B + (2)))]), W pp l ee rmX2_takeSort ss mm aa bb mt cd H_2 lo_3 0 0 Q (F0 mm 4 ls []) := by
    intro n9
    induction n9 using Nat.strongRecOn with
    | _ n9 ih => 
      have ih_4 := ih
      intro k kd hn9 hI H_2 lo_3 hX hS ls hl
      obtain ⟨hk1, hk6, hkd⟩ := hI
      refine lv_iload_n hx hb dX2_takeSort_4 rfl (lv_at hl 0 rfl) ?_
      refine lv_iconst (v := 5) hx hb dX2_takeSort_5 (by decide) ?_
      refine lv_icmp_gt (tgt := 28) hx hb dX2_takeSort_6 (by decide) (fun c_4 => ?_) (fun c_4 => ?_)
      · have nc_4 := (n_lt (a := 5) (b := k) rfl rfl (by omega) (by omega)).mp c_4
        have e9 : k = 6 := by omega
        have hk9 : kd = srtN f t p := by rw [hkd, e9]; rfl
        have hs5 : srtN f t p < 6 := Nat.lt_succ_of_le (srtP_le _ 5)
        subst hk9
        refine lv_aload_n hx hb dX2_takeSort_28 rfl (lv_at hl 2 rfl) ?_
        refine lv_iload_n hx hb dX2_takeSort_29 rfl (lv_at hl 1 rfl) ?_
        have kJ_7 : ∀ (v_6 : Bool) (_ : v_6 = (if (nI (srtN f t p)) = 0 then false else true)) (H_8 : Heap) (lo_9 : List Loc) (_ : MR G (wX G B tt) x H_8) (_ : va_S (blkA B (B + 117)) ss.heap H_8 lo_9) (ls : Array Slot) (_ : lv_has ls 3 [(2, .int (nI k)), (1, .int (nI (srtN f t p))), (0, .ref (B + (2)))]), W pp l ee rmX2_takeSort ss mm aa bb mt cd H_8 lo_9 0 0 Q (F0 mm 38 ls [.int (bI (v_6)), .ref (B + (2))]) := by
          intro v_6 ev_6 H_8 lo_9 hX hS ls hl
          have hv : v_6 = decide (srtN f t p ≠ 0) := by rw [ev_6]; exact nz_dec _ hs5
          subst hv
          refine x_vf (w := (wX G B tt)) (va_runV (As := [.int (bI ((decide (srtN f t p ≠ 0))))]) (rest := []) ⟨hx, hb, hml, hown, hts⟩ (c_X2_take (l := l) (G := G) (B := B) (tt := tt) (hW := hW) (x := x) (b := (decide (srtN f t p ≠ 0))) (f := f) (t := t) (p := p) (w := w) (hRD := hRD) (ht400 := ht400) (hpt := hpt)) (cwV 1 hts gX2_takeSort_X2_take rfl rfl rfl (by decide +kernel) ⟨Nat.le_of_ble_eq_true rfl, Nat.le_of_ble_eq_true rfl⟩) (x_pv (w := (wX G B tt)) (a := 2) hW hX hK hE hS [.int (bI ((decide (srtN f t p ≠ 0))))] (Nat.le_of_ble_eq_true rfl) (shX_rd (G := G) (B := B)) rfl) rfl rfl hl.1 rfl (lv_room (Nat.le_of_ble_eq_true rfl)) dX2_takeSort_38 ⟨Nat.zero_le _, Nat.zero_le _⟩) hS (fun x_12 H_10 lo_11 h_38 hX hS => ?_)
          try dsimp only at h_38
          refine lv_iload_n hx hb dX2_takeSort_41 rfl (lv_at hl 1 rfl) ?_
          rw [← hQ]
          refine x_iret (v := nI (srtN f t p)) hx hb hr hX hS hlocks dX2_takeSort_42 ?_
          exact ⟨rfl, h_38⟩
        refine lv_if_eq (tgt := 37) hx hb dX2_takeSort_30 (by decide) (fun c_5 => ?_) (fun c_5 => ?_)
        · refine lv_iconst (v := 0) hx hb dX2_takeSort_37 (by decide) ?_
          exact kJ_7 (false) (by rw [if_pos c_5]) _ _ hX hS ls (lv_sub hl [0, 1, 2] rfl)
        · refine lv_iconst (v := 1) hx hb dX2_takeSort_33 (by decide) ?_
          refine lv_goto (tgt := 38) hx hb dX2_takeSort_34 (by decide) ?_
          exact kJ_7 (true) (by rw [if_neg c_5]) _ _ hX hS ls (lv_sub hl [0, 1, 2] rfl)
      · have nc_4 := Nat.not_lt.mp (fun q => c_4 ((n_lt (a := 5) (b := k) rfl rfl (by omega) (by omega)).mpr q))
        refine lv_aload_n hx hb dX2_takeSort_9 rfl (lv_at hl 2 rfl) ?_
        refine lv_iload_n hx hb dX2_takeSort_10 rfl (lv_at hl 0 rfl) ?_
        refine x_rf (w := (wX G B tt)) (va_runS (As := [.int (nI k)]) (rest := [.ref (B + (2))]) ⟨hx, hb, hml, hown, hts⟩ (c_sortName_any (l := l) (G := G) (B := B) (tt := tt) (hW := hW) (x := x) (k := k) (hk1 := (by omega)) (hk5 := (by omega))) (va_cwS 1 hts gX2_takeSort_X2_sortName rfl rfl rfl (by decide +kernel) ⟨Nat.le_of_ble_eq_true rfl, Nat.le_of_ble_eq_true rfl⟩) (x_ps (w := (wX G B tt)) hW hX hK hE hS [.int (nI k)]) rfl rfl hl.1 rfl (lv_room (Nat.le_of_ble_eq_true rfl)) dX2_takeSort_11 ⟨Nat.zero_le _, Nat.zero_le _⟩) hS (fun x_15 H_13 lo_14 h_11 hX hS => ?_)
        try dsimp only at h_11
        rw [h_11] at hX
        refine x_ip (w := (wX G B tt)) (x := x) (v := bI (nmB f t p ((k + 1)))) (va_runV (As := [.ref (tt (100 + (k + 1)))]) (rest := []) ⟨hx, hb, hml, hown, hts⟩ (c_X2_isName (l := l) (G := G) (B := B) (tt := tt) (hW := hW) (x := x) (sq := (k + 1)) (f := f) (t := t) (p := p) (w := w) (hRD := hRD) (ht400 := ht400) (hpt := hpt) (hq7 := (by omega))) (cwV 1 hts gX2_takeSort_X2_isName rfl rfl rfl (by decide +kernel) ⟨Nat.le_of_ble_eq_true rfl, Nat.le_of_ble_eq_true rfl⟩) (x_pv (w := (wX G B tt)) (a := 2) hW hX hK hE hS [.ref (tt (100 + (k + 1)))] (Nat.le_of_ble_eq_true rfl) (shX_rd (G := G) (B := B)) rfl) rfl rfl hl.1 rfl (lv_room (Nat.le_of_ble_eq_true rfl)) dX2_takeSort_14 ⟨Nat.zero_le _, Nat.zero_le _⟩) hS (fun H_16 lo_17 hX hS => ?_)
        refine x_ifeq (tgt := 22) hx hb dX2_takeSort_17 (by decide) (fun c_18 => ?_) (fun c_18 => ?_)
        · refine lv_iinc (v := nI (k + 1)) (lv' := [(2, .int (nI (k + 1))), (1, .int (nI kd)), (0, .ref (B + (2)))]) hx hb dX2_takeSort_22 hl (k := 0) rfl (inc_nI _) (by decide) rfl (fun ls hl => ?_)
          refine lv_goto (tgt := 4) hx hb dX2_takeSort_25 (by decide) ?_
          exact ih_4 _ (by omega) (k + 1) (kd) rfl (by first | exact ⟨by omega, by omega, srt_n (P := fun j => nmB f t p (j + 1)) c_18 hk1 hkd⟩ | exact ⟨by omega, by omega, srt_y (P := fun j => nmB f t p (j + 1)) c_18 hk1⟩) _ _ hX hS ls (lv_sub hl [0, 1, 2] rfl)
        · refine lv_iload_n hx hb dX2_takeSort_20 rfl (lv_at hl 0 rfl) ?_
          refine lv_istore_n (lv' := [(1, .int (nI k)), (2, .int (nI k)), (0, .ref (B + (2)))]) hx hb dX2_takeSort_21 rfl hl (by decide) rfl (fun ls hl => ?_)
          refine lv_iinc (v := nI (k + 1)) (lv' := [(2, .int (nI (k + 1))), (1, .int (nI k)), (0, .ref (B + (2)))]) hx hb dX2_takeSort_22 hl (k := 1) rfl (inc_nI _) (by decide) rfl (fun ls hl => ?_)
          refine lv_goto (tgt := 4) hx hb dX2_takeSort_25 (by decide) ?_
          exact ih_4 _ (by omega) (k + 1) (k) rfl (by first | exact ⟨by omega, by omega, srt_n (P := fun j => nmB f t p (j + 1)) c_18 hk1 hkd⟩ | exact ⟨by omega, by omega, srt_y (P := fun j => nmB f t p (j + 1)) c_18 hk1⟩) _ _ hX hS ls (lv_sub hl [0, 1, 2] rfl)
  exact L_1 _ (1) (0) rfl ⟨Nat.le_refl 1, by decide, rfl⟩ _ _ hX hS ls (lv_sub hl [0, 1, 2] rfl)

theorem kX2_readLaw_56 : (.fieldLink RX2 56 "WindTaken$Ridge" "take" "I" : Cond) ∈ wsX2_readLaw := by decide +kernel
theorem iX2_readLaw_X3 : ∀ w ∈ wsX30, w ∈ wsX2_readLaw := by decide +kernel
theorem kX2_readLaw_59 : (.fieldLink RX2 59 "WindTaken$Ridge" "due" "I" : Cond) ∈ wsX2_readLaw := by decide +kernel
theorem kX2_readLaw_62 : (.fieldLink RX2 62 "WindTaken$Ridge" "price" "I" : Cond) ∈ wsX2_readLaw := by decide +kernel
abbrev rmX2_readLaw : Room := { frames := 7, cells := 0, slots := 0, locals := 151 }
set_option maxHeartbeats 4000000 in
set_option maxRecDepth 100000 in
theorem c_X2_readLaw (l : Launch) (G : GG) (B : Nat) (tt : Nat → Nat) (hW : WOK (wX G B tt)) (x : Mem) {f : Nat → Int32} {t : Nat} {p : Nat} {w : Int32} (hRD : RD f t p w x) (ht400 : t ≤ 400) (hpt : p ≤ t) : Met l yX2_readLaw wsX2_readLaw rmX2_readLaw (XP G (wX G B tt) [.ref (B + (2)), .ref (B + (15))] x) (va_Qv (fun u => RD f t (lw5 f t (p, w)).1 (lw5 f t (p, w)).2 u ∧ (∀ a, a ≠ 2 → a ≠ 15 → u a = x a) ∧ (∀ s, s ≠ 3 → s ≠ 4 → s ≠ 5 → u 15 s = x 15 s) ∧ ((lw5 f t (p, w)).2 = 0 → u 15 3 = tvI f t (lw1 f t (p, w)).1 ∧ u 15 4 = tvI f t (lw2 f t (p, w)).1 ∧ u 15 5 = tvI f t (lw3 f t (p, w)).1)) (XB G (wX G B tt)) (blkA B (B + 117))) 0 0 (blkA B (B + 117)) := by
  refine Met.ofW (cc := cX2_readLaw) (maxL := 2) (ret := none) (by decide) rfl ?_
  intro pp ee ss mm aa bb mt cd s1 Bd hml hv
  obtain ⟨hae, hX, hK, hE⟩ := hv
  have hx := Bd.exec
  have hb := Bd.bytes
  have hr := Bd.returns
  have hts := atoms_spec (ws := wsX2_readLaw) Bd.pre
  have hown : ss.vm.findClass RX2 = some mm.cls := findClass_of_methodNamed Bd.named
  have hlocks := Bd.notSynchronized
  have hS : va_S (blkA B (B + 117)) ss.heap ss.heap [] := va_S.rf
  have hl := lv_entry ([.ref (B + (2)), .ref (B + (15))]) (n := 2) (Nat.le_of_ble_eq_true rfl)
  subst hae
  rw [lg_entry_eq]
  generalize (lg_sl ([.ref (B + (2)), .ref (B + (15))]) ++ List.replicate (2 - (lg_sl ([.ref (B + (2)), .ref (B + (15))])).length) Slot.unset).toArray = ls at hl ⊢
  have hl : lv_has ls 2 [(0, .ref (B + (2))), (1, .ref (B + (15)))] := hl
  generalize ([.ref (B + (2)), .ref (B + (15))] : List Value).toArray = aa at hts ⊢
  show W pp l ee rmX2_readLaw ss mm aa bb mt cd ss.heap [] 0 0 _ (F0 mm 0 ls [])
  generalize hQ : MQ bb (va_Qv (fun u => RD f t (lw5 f t (p, w)).1 (lw5 f t (p, w)).2 u ∧ (∀ a, a ≠ 2 → a ≠ 15 → u a = x a) ∧ (∀ s, s ≠ 3 → s ≠ 4 → s ≠ 5 → u 15 s = x 15 s) ∧ ((lw5 f t (p, w)).2 = 0 → u 15 3 = tvI f t (lw1 f t (p, w)).1 ∧ u 15 4 = tvI f t (lw2 f t (p, w)).1 ∧ u 15 5 = tvI f t (lw3 f t (p, w)).1)) (XB G (wX G B tt)) (blkA B (B + 117))) aa ss 0 0 (blkA B (B + 117)) = Q
  refine lv_aload_n hx hb dX2_readLaw_0 rfl (lv_at hl 0 rfl) ?_
  refine va_ldcS hx hb hown (hE.2.2.1 0 _ _ rfl) dX2_readLaw_1 ?_
  refine x_vf (w := (wX G B tt)) (va_runV (As := [.ref (tt (100 + 0))]) (rest := []) ⟨hx, hb, hml, hown, hts⟩ (c_X2_takeName (l := l) (G := G) (B := B) (tt := tt) (hW := hW) (x := x) (sq := 0) (f := f) (t := t) (p := p) (w := w) (hRD := hRD) (ht400 := ht400) (hpt := hpt) (hq7 := (by omega))) (cwV 1 hts gX2_readLaw_X2_takeName rfl rfl rfl (by decide +kernel) ⟨Nat.le_of_ble_eq_true rfl, Nat.le_of_ble_eq_true rfl⟩) (x_pv (w := (wX G B tt)) (a := 2) hW hX hK hE hS [.ref (tt (100 + 0))] (Nat.le_of_ble_eq_true rfl) (shX_rd (G := G) (B := B)) rfl) rfl rfl hl.1 rfl (lv_room (Nat.le_of_ble_eq_true rfl)) dX2_readLaw_3 ⟨Nat.zero_le _, Nat.zero_le _⟩) hS (fun x_3 H_1 lo_2 h_3 hX hS => ?_)
  try dsimp only at h_3
  have hp1 : (lw1 f t (p, w)).1 ≤ t := stB_le (s := (p, w)) hpt
  have hD1 : RD f t (lw1 f t (p, w)).1 (lw1 f t (p, w)).2 x_3 := h_3.1
  have hv1 := fun z => hD1.2.2.1.2.2.2 z
  refine lv_aload_n hx hb dX2_readLaw_6 rfl (lv_at hl 1 rfl) ?_
  refine lv_aload_n hx hb dX2_readLaw_7 rfl (lv_at hl 0 rfl) ?_
  refine lv_iconst (v := 0) hx hb dX2_readLaw_8 (by decide) ?_
  refine lv_bipush (v := 90) hx hb dX2_readLaw_9 (by decide) ?_
  refine x_if (w := (wX G B tt)) (va_runV (As := [.int (0), .int (90)]) (rest := [.ref (B + (15))]) ⟨hx, hb, hml, hown, hts⟩ (c_X2_takeNumber (l := l) (G := G) (B := B) (tt := tt) (hW := hW) (x := x_3) (lo := 0) (hi := 90) (f := f) (t := t) (p := (lw1 f t (p, w)).1) (w := (lw1 f t (p, w)).2) (hRD := hD1) (ht400 := ht400) (hpt := hp1)) (cwV 2 hts gX2_readLaw_X2_takeNumber rfl rfl rfl (by decide +kernel) ⟨Nat.le_of_ble_eq_true rfl, Nat.le_of_ble_eq_true rfl⟩) (x_pv (w := (wX G B tt)) (a := 2) hW hX hK hE hS [.int (0), .int (90)] (Nat.le_of_ble_eq_true rfl) (shX_rd (G := G) (B := B)) rfl) rfl rfl hl.1 rfl (lv_room (Nat.le_of_ble_eq_true rfl)) dX2_readLaw_11 ⟨Nat.zero_le _, Nat.zero_le _⟩) hS (fun r_6 x_7 H_4 lo_5 h_11 hX hS => ?_)
  try dsimp only at h_11
  have hp2 : (lw2 f t (p, w)).1 ≤ t := stN_le hp1
  have hE2 : RD f t (lw2 f t (p, w)).1 (lw2 f t (p, w)).2 x_7 := h_11.2.1
  refine x_put (w := (wX G B tt)) (a := 15) (v := r_6) (ty := .int) hx hb hts iX2_readLaw_X3 tyX3 tyX3_ok nmX3 hown hK hW hX hS (rg_lt rg15) (shX_ri (G := G) (B := B) rg15) rfl 3 (by decide) (hts _ kX2_readLaw_56) (fun _ h9 => h9) rfl (by decide +kernel) rfl rfl (Nat.le_of_ble_eq_true rfl) (shX_ri (G := G) (B := B) rg15) dX2_readLaw_14 (fun H_9 lo_10 hX hS => ?_)
  obtain ⟨x_8, ex_8⟩ : ∃ z, z = mst x_7 (15) 3 (r_6) := ⟨_, rfl⟩
  rw [← ex_8] at hX
  have hD2 : RD f t (lw2 f t (p, w)).1 (lw2 f t (p, w)).2 x_8 := by rw [ex_8]; exact hE2.w15 (by decide)
  have hv2 := fun z => hD2.2.2.1.2.2.2 z
  refine lv_aload_n hx hb dX2_readLaw_17 rfl (lv_at hl 1 rfl) ?_
  refine lv_aload_n hx hb dX2_readLaw_18 rfl (lv_at hl 0 rfl) ?_
  refine lv_iconst (v := 0) hx hb dX2_readLaw_19 (by decide) ?_
  refine lv_bipush (v := 50) hx hb dX2_readLaw_20 (by decide) ?_
  refine x_if (w := (wX G B tt)) (va_runV (As := [.int (0), .int (50)]) (rest := [.ref (B + (15))]) ⟨hx, hb, hml, hown, hts⟩ (c_X2_takeNumber (l := l) (G := G) (B := B) (tt := tt) (hW := hW) (x := x_8) (lo := 0) (hi := 50) (f := f) (t := t) (p := (lw2 f t (p, w)).1) (w := (lw2 f t (p, w)).2) (hRD := hD2) (ht400 := ht400) (hpt := hp2)) (cwV 2 hts gX2_readLaw_X2_takeNumber rfl rfl rfl (by decide +kernel) ⟨Nat.le_of_ble_eq_true rfl, Nat.le_of_ble_eq_true rfl⟩) (x_pv (w := (wX G B tt)) (a := 2) hW hX hK hE hS [.int (0), .int (50)] (Nat.le_of_ble_eq_true rfl) (shX_rd (G := G) (B := B)) rfl) rfl rfl hl.1 rfl (lv_room (Nat.le_of_ble_eq_true rfl)) dX2_readLaw_22 ⟨Nat.zero_le _, Nat.zero_le _⟩) hS (fun r_13 x_14 H_11 lo_12 h_22 hX hS => ?_)
  try dsimp only at h_22
  have hp3 : (lw3 f t (p, w)).1 ≤ t := stN_le hp2
  have hE3 : RD f t (lw3 f t (p, w)).1 (lw3 f t (p, w)).2 x_14 := h_22.2.1
  refine x_put (w := (wX G B tt)) (a := 15) (v := r_13) (ty := .int) hx hb hts iX2_readLaw_X3 tyX3 tyX3_ok nmX3 hown hK hW hX hS (rg_lt rg15) (shX_ri (G := G) (B := B) rg15) rfl 4 (by decide) (hts _ kX2_readLaw_59) (fun _ h9 => h9) rfl (by decide +kernel) rfl rfl (Nat.le_of_ble_eq_true rfl) (shX_ri (G := G) (B := B) rg15) dX2_readLaw_25 (fun H_16 lo_17 hX hS => ?_)
  obtain ⟨x_15, ex_15⟩ : ∃ z, z = mst x_14 (15) 4 (r_13) := ⟨_, rfl⟩
  rw [← ex_15] at hX
  have hD3 : RD f t (lw3 f t (p, w)).1 (lw3 f t (p, w)).2 x_15 := by rw [ex_15]; exact hE3.w15 (by decide)
  have hv3 := fun z => hD3.2.2.1.2.2.2 z
  refine lv_aload_n hx hb dX2_readLaw_28 rfl (lv_at hl 1 rfl) ?_
  refine lv_aload_n hx hb dX2_readLaw_29 rfl (lv_at hl 0 rfl) ?_
  refine lv_iconst (v := 0) hx hb dX2_readLaw_30 (by decide) ?_
  refine lv_bipush (v := 99) hx hb dX2_readLaw_31 (by decide) ?_
  refine x_if (w := (wX G B tt)) (va_runV (As := [.int (0), .int (99)]) (rest := [.ref (B + (15))]) ⟨hx, hb, hml, hown, hts⟩ (c_X2_takeNumber (l := l) (G := G) (B := B) (tt := tt) (hW := hW) (x := x_15) (lo := 0) (hi := 99) (f := f) (t := t) (p := (lw3 f t (p, w)).1) (w := (lw3 f t (p, w)).2) (hRD := hD3) (ht400 := ht400) (hpt := hp3)) (cwV 2 hts gX2_readLaw_X2_takeNumber rfl rfl rfl (by decide +kernel) ⟨Nat.le_of_ble_eq_true rfl, Nat.le_of_ble_eq_true rfl⟩) (x_pv (w := (wX G B tt)) (a := 2) hW hX hK hE hS [.int (0), .int (99)] (Nat.le_of_ble_eq_true rfl) (shX_rd (G := G) (B := B)) rfl) rfl rfl hl.1 rfl (lv_room (Nat.le_of_ble_eq_true rfl)) dX2_readLaw_33 ⟨Nat.zero_le _, Nat.zero_le _⟩) hS (fun r_20 x_21 H_18 lo_19 h_33 hX hS => ?_)
  try dsimp only at h_33
  have hp4 : (lw4 f t (p, w)).1 ≤ t := stN_le hp3
  have hE4 : RD f t (lw4 f t (p, w)).1 (lw4 f t (p, w)).2 x_21 := h_33.2.1
  refine x_put (w := (wX G B tt)) (a := 15) (v := r_20) (ty := .int) hx hb hts iX2_readLaw_X3 tyX3 tyX3_ok nmX3 hown hK hW hX hS (rg_lt rg15) (shX_ri (G := G) (B := B) rg15) rfl 5 (by decide) (hts _ kX2_readLaw_62) (fun _ h9 => h9) rfl (by decide +kernel) rfl rfl (Nat.le_of_ble_eq_true rfl) (shX_ri (G := G) (B := B) rg15) dX2_readLaw_36 (fun H_23 lo_24 hX hS => ?_)
  obtain ⟨x_22, ex_22⟩ : ∃ z, z = mst x_21 (15) 5 (r_20) := ⟨_, rfl⟩
  rw [← ex_22] at hX
  have hD4 : RD f t (lw4 f t (p, w)).1 (lw4 f t (p, w)).2 x_22 := by rw [ex_22]; exact hE4.w15 (by decide)
  refine lv_aload_n hx hb dX2_readLaw_39 rfl (lv_at hl 0 rfl) ?_
  refine x_vf (w := (wX G B tt)) (va_runV (As := []) (rest := []) ⟨hx, hb, hml, hown, hts⟩ (c_X2_takeSign (l := l) (G := G) (B := B) (tt := tt) (hW := hW) (x := x_22) (f := f) (t := t) (p := (lw4 f t (p, w)).1) (w := (lw4 f t (p, w)).2) (hRD := hD4) (ht400 := ht400) (hpt := hp4)) (cwV 0 hts gX2_readLaw_X2_takeSign rfl rfl rfl (by decide +kernel) ⟨Nat.le_of_ble_eq_true rfl, Nat.le_of_ble_eq_true rfl⟩) (x_pv (w := (wX G B tt)) (a := 2) hW hX hK hE hS [] (Nat.le_of_ble_eq_true rfl) (shX_rd (G := G) (B := B)) rfl) rfl rfl hl.1 rfl (lv_room (Nat.le_of_ble_eq_true rfl)) dX2_readLaw_40 ⟨Nat.zero_le _, Nat.zero_le _⟩) hS (fun x_27 H_25 lo_26 h_40 hX hS => ?_)
  try dsimp only at h_40
  rw [← hQ]
  refine x_vret hx hb hr hX hS hlocks dX2_readLaw_43 ?_
  obtain ⟨q5, o5⟩ := h_40
  obtain ⟨r2, -, o2⟩ := h_11
  obtain ⟨r3, -, o3⟩ := h_22
  obtain ⟨r4, -, o4⟩ := h_33
  have o1 := h_3.2
  refine ⟨q5, fun a h1 h2 => ?_, fun s s1 s2 s3 => ?_, fun z => ?_⟩
  · rw [o5 a h1, ex_22, mst_ne h2, o4 a h1, ex_15, mst_ne h2, o3 a h1, ex_8, mst_ne h2, o2 a h1, o1 a h1]
  · rw [o5 15 (by decide), ex_22, mst_eq, upd_ne s3, o4 15 (by decide), ex_15, mst_eq, upd_ne s2, o3 15 (by decide), ex_8, mst_eq, upd_ne s1, o2 15 (by decide), o1 15 (by decide)]
  · obtain ⟨-, z4⟩ := tkW_0 z
    obtain ⟨z3, y4, -⟩ := stN_0 z4
    obtain ⟨z2, y3, -⟩ := stN_0 z3
    obtain ⟨z1, y2, -⟩ := stN_0 z2
    refine ⟨?_, ?_, ?_⟩
    · rw [o5 15 (by decide), ex_22, mst_eq, upd_ne (by decide), o4 15 (by decide), ex_15, mst_eq, upd_ne (by decide), o3 15 (by decide), ex_8, mst_self, r2, hv1 y2]
    · rw [o5 15 (by decide), ex_22, mst_eq, upd_ne (by decide), o4 15 (by decide), ex_15, mst_self, r3, hv2 y3]
    · rw [o5 15 (by decide), ex_22, mst_self, r4, hv3 y4]
