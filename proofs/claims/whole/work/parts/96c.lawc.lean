set_option maxHeartbeats 4000000 in
set_option maxRecDepth 100000 in
theorem lc_best {p : Program} {l : Launch} {e : Env} {s : State} {m : MethodId} {below : List Frame} {meth : Method} {c : Code} {b L : Nat} {xs : Nat → Int32} {G : GG} {B : Nat} {tt : Nat → Nat} {Q : State → Prop} {x y : Mem} {H : Heap} {locs : List Loc} {i : Nat} (C : LX p s m c b L xs G B tt) (hI : LI G B tt s x y H locs) (hi : i + 6 ≤ L) {ls : Array Slot} (hl : lv_has ls 4 [(3, .int (nI i)), (2, .ref (B + 117 + 0)), (1, .ref (B + 0)), (0, .ref b)]) (K : ∀ (x1 y1 : Mem) (H1 : Heap) (locs1 : List Loc), LI G B tt s x1 y1 H1 locs1 → W p l e room_1 s m #[Value.ref b] below meth c H1 locs1 130 2967 Q (F0 m 1315 ls [])) : W p l e room_1 s m #[Value.ref b] below meth c H locs 130 2967 Q (F0 m 760 ls []) := by
  obtain ⟨hx, hb, hml, hown, hts, hXs, hbl, hB, hK, hE, hL4⟩ := id C
  obtain ⟨hsz, hX, hY, hS, hL⟩ := hI
  obtain ⟨n, hR, hG⟩ := hL.2.2.2.2.2.1
  obtain ⟨hcx, hcy, hn8⟩ := hR.ge
  obtain ⟨t, ht4, htx, hty, hTE⟩ := hL.2.1
  obtain ⟨kt, hkt16, hktx, hkty, hktr⟩ := hL.2.2.2.2.1
  have hRo := hL.1.rok
  have hYo := hL.1.yok
  have hkk1 : ∀ j, j < n → ∃ k, 1 ≤ k ∧ k < 6 ∧ sK (y 5) j = nI k := fun j hj => (hG.2 j hj).1
  have hkk6 : ∀ j, j < n → ∃ k, k < 6 ∧ sK (y 5) j = nI k := fun j hj => by obtain ⟨k, k1, k2, k3⟩ := (hG.2 j hj).1; exact ⟨k, k2, k3⟩
  have hfl : ∀ j, j < n → sF (y 5) j 0 ≤ 9 := fun j hj => (hG.2 j hj).2.1
  obtain ⟨nk, hnk⟩ : ∃ nk : Nat → Nat, ∀ k, k < 2 → RR (nk k) x (45 + 10 * k) (y (6 + k)) ∧ RG (nk k) (y (6 + k)) := by
    obtain ⟨n0, h0⟩ := hL.2.2.2.2.2.2 0 (by decide)
    obtain ⟨n1, h1⟩ := hL.2.2.2.2.2.2 1 (by decide)
    refine ⟨fun k => if k = 0 then n0 else n1, fun k hk => ?_⟩
    have hk2 : k = 0 ∨ k = 1 := by omega
    rcases hk2 with rfl | rfl
    · exact h0
    · exact h1
  refine lv_aload_n hx hb dL_law_760 rfl (lv_at hl 2 rfl) ?_
  refine lv_aload_n hx hb dL_law_761 rfl (lv_at hl 3 rfl) ?_
  refine lv_iload_n hx hb dL_law_762 rfl (lv_at hl 0 rfl) ?_
  refine lv_iconst (v := 1) hx hb dL_law_763 (by decide) ?_
  refine lv_iadd hx hb dL_law_764 ?_
  refine l_sld (j := i + 1) hx hb hXs hbl hB hS (n_add (y := 1) (b := 1) rfl rfl) (by omega) hL4 dL_law_765 ?_
  refine lv_aload_n hx hb dL_law_766 rfl (lv_at hl 3 rfl) ?_
  refine lv_iload_n hx hb dL_law_767 rfl (lv_at hl 0 rfl) ?_
  refine lv_iconst (v := 2) hx hb dL_law_768 (by decide) ?_
  refine lv_iadd hx hb dL_law_769 ?_
  refine l_sld (j := i + 2) hx hb hXs hbl hB hS (n_add (y := 2) (b := 2) rfl rfl) (by omega) hL4 dL_law_770 ?_
  refine lv_aload_n hx hb dL_law_771 rfl (lv_at hl 3 rfl) ?_
  refine lv_iload_n hx hb dL_law_772 rfl (lv_at hl 0 rfl) ?_
  refine lv_iconst (v := 3) hx hb dL_law_773 (by decide) ?_
  refine lv_iadd hx hb dL_law_774 ?_
  refine l_sld (j := i + 3) hx hb hXs hbl hB hS (n_add (y := 3) (b := 3) rfl rfl) (by omega) hL4 dL_law_775 ?_
  refine l_if (w := (wX G B tt)) (va_runV (As := [.int (xs (i + 1)), .int (xs (i + 2)), .int (xs (i + 3))]) (rest := []) ⟨hx, hb, hml, hown, hts⟩ (c_X7_best (l := l) (G := G) (B := B) (tt := tt) (hW := wX_ok G B tt) (x := x) (q := xs (i + 1)) (w := xs (i + 2)) (wh := xs (i + 3)) (n := n) (nw := (y 5)) (hR := hR)) (cwV 3 hts gL_law_X7_best rfl rfl rfl (by decide +kernel) ⟨Nat.le_of_ble_eq_true rfl, Nat.le_of_ble_eq_true rfl⟩) (l_pv (w := wX G B tt) (a := 0) (wX_ok G B tt) hX hK hE (l_q hS hB) [.int (xs (i + 1)), .int (xs (i + 2)), .int (xs (i + 3))] (Nat.le_of_ble_eq_true rfl) (shX_mn (G := G) (B := B)) rfl) rfl rfl hl.1 rfl (lv_room (Nat.le_of_ble_eq_true rfl)) dL_law_776 ⟨Nat.le_of_ble_eq_true rfl, Nat.le_of_ble_eq_true rfl⟩) hS (fun q h => h.1) (fun r1 u1 H lo q1 hU hz hk hS => ?_)
  try dsimp only at q1
  have hY := hY.far (fun a ha => hk _ (by have ha9 : a < 13 := ha; show B + 117 + a < _; omega) (fun z => absurd z.2 (by show ¬ B + 117 + a < B + 117; omega)))
  have hX := hU
  have hsz := Nat.le_trans hsz hz
  refine lv_aload_n hx hb dL_law_779 rfl (lv_at hl 1 rfl) ?_
  refine lv_aload_n hx hb dL_law_780 rfl (lv_at hl 3 rfl) ?_
  refine lv_iload_n hx hb dL_law_781 rfl (lv_at hl 0 rfl) ?_
  refine lv_iconst (v := 1) hx hb dL_law_782 (by decide) ?_
  refine lv_iadd hx hb dL_law_783 ?_
  refine l_sld (j := i + 1) hx hb hXs hbl hB hS (n_add (y := 1) (b := 1) rfl rfl) (by omega) hL4 dL_law_784 ?_
  refine lv_aload_n hx hb dL_law_785 rfl (lv_at hl 3 rfl) ?_
  refine lv_iload_n hx hb dL_law_786 rfl (lv_at hl 0 rfl) ?_
  refine lv_iconst (v := 2) hx hb dL_law_787 (by decide) ?_
  refine lv_iadd hx hb dL_law_788 ?_
  refine l_sld (j := i + 2) hx hb hXs hbl hB hS (n_add (y := 2) (b := 2) rfl rfl) (by omega) hL4 dL_law_789 ?_
  refine lv_aload_n hx hb dL_law_790 rfl (lv_at hl 3 rfl) ?_
  refine lv_iload_n hx hb dL_law_791 rfl (lv_at hl 0 rfl) ?_
  refine lv_iconst (v := 3) hx hb dL_law_792 (by decide) ?_
  refine lv_iadd hx hb dL_law_793 ?_
  refine l_sld (j := i + 3) hx hb hXs hbl hB hS (n_add (y := 3) (b := 3) rfl rfl) (by omega) hL4 dL_law_794 ?_
  refine l_if (w := (wM G (B + 117))) (va_runV (As := [.int (xs (i + 1)), .int (xs (i + 2)), .int (xs (i + 3))]) (rest := [.int (r1)]) ⟨hx, hb, hml, hown, hts⟩ (c_X8_best (l := l) (G := G) (B := B + 117) (hW := wM_ok G (B + 117)) (x := y) (q := xs (i + 1)) (w := xs (i + 2)) (wh := xs (i + 3)) (n := n) (hN := hcy) (hn8 := hn8)) (cwV 3 hts gL_law_X8_best rfl rfl rfl (by decide +kernel) ⟨Nat.le_of_ble_eq_true rfl, Nat.le_of_ble_eq_true rfl⟩) (l_pv (w := wM G (B + 117)) (a := 0) (wM_ok G (B + 117)) hY hK trivial (l_q hS hB) [.int (xs (i + 1)), .int (xs (i + 2)), .int (xs (i + 3))] (Nat.le_of_ble_eq_true rfl) (shM_0 (G := G) (B := B + 117)) rfl) rfl rfl hl.1 rfl (lv_room (Nat.le_of_ble_eq_true rfl)) dL_law_795 ⟨Nat.le_of_ble_eq_true rfl, Nat.le_of_ble_eq_true rfl⟩) hS (fun q h => Nat.le_trans (Nat.le_add_right B 117) h.1) (fun r2 u2 H lo q2 hU hz hk hS => ?_)
  try dsimp only at q2
  have hX := hX.far (fun a ha => hk _ (by have ha9 : a < 117 := ha; show B + a < _; omega) (fun z => absurd z.1 (by have ha9 : a < 117 := ha; show ¬ B + 117 ≤ B + a; omega)))
  have hsz := Nat.le_trans hsz hz
  have e9 := q_best hL hR q1 q2
  refine lv_icmp_eq (tgt := 1315) hx hb dL_law_798 (by decide) (fun c9 => ?_) (fun c9 => absurd e9.1 c9)
  exact K _ _ _ _ ⟨hsz, hX, hU, hS, e9.2⟩
set_option maxHeartbeats 4000000 in
set_option maxRecDepth 100000 in
theorem lc_part {p : Program} {l : Launch} {e : Env} {s : State} {m : MethodId} {below : List Frame} {meth : Method} {c : Code} {b L : Nat} {xs : Nat → Int32} {G : GG} {B : Nat} {tt : Nat → Nat} {Q : State → Prop} {x y : Mem} {H : Heap} {locs : List Loc} {i : Nat} (C : LX p s m c b L xs G B tt) (hI : LI G B tt s x y H locs) (hi : i + 6 ≤ L) {ls : Array Slot} (hl : lv_has ls 4 [(3, .int (nI i)), (2, .ref (B + 117 + 0)), (1, .ref (B + 0)), (0, .ref b)]) (K : ∀ (x1 y1 : Mem) (H1 : Heap) (locs1 : List Loc), LI G B tt s x1 y1 H1 locs1 → W p l e room_1 s m #[Value.ref b] below meth c H1 locs1 130 2967 Q (F0 m 1315 ls [])) : W p l e room_1 s m #[Value.ref b] below meth c H locs 130 2967 Q (F0 m 803 ls []) := by
  obtain ⟨hx, hb, hml, hown, hts, hXs, hbl, hB, hK, hE, hL4⟩ := id C
  obtain ⟨hsz, hX, hY, hS, hL⟩ := hI
  obtain ⟨n, hR, hG⟩ := hL.2.2.2.2.2.1
  obtain ⟨hcx, hcy, hn8⟩ := hR.ge
  obtain ⟨t, ht4, htx, hty, hTE⟩ := hL.2.1
  obtain ⟨kt, hkt16, hktx, hkty, hktr⟩ := hL.2.2.2.2.1
  have hRo := hL.1.rok
  have hYo := hL.1.yok
  have hkk1 : ∀ j, j < n → ∃ k, 1 ≤ k ∧ k < 6 ∧ sK (y 5) j = nI k := fun j hj => (hG.2 j hj).1
  have hkk6 : ∀ j, j < n → ∃ k, k < 6 ∧ sK (y 5) j = nI k := fun j hj => by obtain ⟨k, k1, k2, k3⟩ := (hG.2 j hj).1; exact ⟨k, k2, k3⟩
  have hfl : ∀ j, j < n → sF (y 5) j 0 ≤ 9 := fun j hj => (hG.2 j hj).2.1
  obtain ⟨nk, hnk⟩ : ∃ nk : Nat → Nat, ∀ k, k < 2 → RR (nk k) x (45 + 10 * k) (y (6 + k)) ∧ RG (nk k) (y (6 + k)) := by
    obtain ⟨n0, h0⟩ := hL.2.2.2.2.2.2 0 (by decide)
    obtain ⟨n1, h1⟩ := hL.2.2.2.2.2.2 1 (by decide)
    refine ⟨fun k => if k = 0 then n0 else n1, fun k hk => ?_⟩
    have hk2 : k = 0 ∨ k = 1 := by omega
    rcases hk2 with rfl | rfl
    · exact h0
    · exact h1
  refine lv_aload_n hx hb dL_law_803 rfl (lv_at hl 2 rfl) ?_
  refine lv_aload_n hx hb dL_law_804 rfl (lv_at hl 3 rfl) ?_
  refine lv_iload_n hx hb dL_law_805 rfl (lv_at hl 0 rfl) ?_
  refine lv_iconst (v := 1) hx hb dL_law_806 (by decide) ?_
  refine lv_iadd hx hb dL_law_807 ?_
  refine l_sld (j := i + 1) hx hb hXs hbl hB hS (n_add (y := 1) (b := 1) rfl rfl) (by omega) hL4 dL_law_808 ?_
  refine lv_aload_n hx hb dL_law_809 rfl (lv_at hl 3 rfl) ?_
  refine lv_iload_n hx hb dL_law_810 rfl (lv_at hl 0 rfl) ?_
  refine lv_iconst (v := 2) hx hb dL_law_811 (by decide) ?_
  refine lv_iadd hx hb dL_law_812 ?_
  refine l_sld (j := i + 2) hx hb hXs hbl hB hS (n_add (y := 2) (b := 2) rfl rfl) (by omega) hL4 dL_law_813 ?_
  refine lv_aload_n hx hb dL_law_814 rfl (lv_at hl 3 rfl) ?_
  refine lv_iload_n hx hb dL_law_815 rfl (lv_at hl 0 rfl) ?_
  refine lv_iconst (v := 3) hx hb dL_law_816 (by decide) ?_
  refine lv_iadd hx hb dL_law_817 ?_
  refine l_sld (j := i + 3) hx hb hXs hbl hB hS (n_add (y := 3) (b := 3) rfl rfl) (by omega) hL4 dL_law_818 ?_
  refine l_if (w := (wX G B tt)) (va_runV (As := [.int (xs (i + 1)), .int (xs (i + 2)), .int (xs (i + 3))]) (rest := []) ⟨hx, hb, hml, hown, hts⟩ (c_X7_part (l := l) (G := G) (B := B) (tt := tt) (hW := wX_ok G B tt) (x := x) (q := xs (i + 1)) (w := xs (i + 2)) (m := xs (i + 3)) (n := n) (nw := (y 5)) (hR := hR)) (cwV 3 hts gL_law_X7_part rfl rfl rfl (by decide +kernel) ⟨Nat.le_of_ble_eq_true rfl, Nat.le_of_ble_eq_true rfl⟩) (l_pv (w := wX G B tt) (a := 0) (wX_ok G B tt) hX hK hE (l_q hS hB) [.int (xs (i + 1)), .int (xs (i + 2)), .int (xs (i + 3))] (Nat.le_of_ble_eq_true rfl) (shX_mn (G := G) (B := B)) rfl) rfl rfl hl.1 rfl (lv_room (Nat.le_of_ble_eq_true rfl)) dL_law_819 ⟨Nat.le_of_ble_eq_true rfl, Nat.le_of_ble_eq_true rfl⟩) hS (fun q h => h.1) (fun r1 u1 H lo q1 hU hz hk hS => ?_)
  try dsimp only at q1
  have hY := hY.far (fun a ha => hk _ (by have ha9 : a < 13 := ha; show B + 117 + a < _; omega) (fun z => absurd z.2 (by show ¬ B + 117 + a < B + 117; omega)))
  have hX := hU
  have hsz := Nat.le_trans hsz hz
  refine lv_aload_n hx hb dL_law_822 rfl (lv_at hl 1 rfl) ?_
  refine lv_aload_n hx hb dL_law_823 rfl (lv_at hl 3 rfl) ?_
  refine lv_iload_n hx hb dL_law_824 rfl (lv_at hl 0 rfl) ?_
  refine lv_iconst (v := 1) hx hb dL_law_825 (by decide) ?_
  refine lv_iadd hx hb dL_law_826 ?_
  refine l_sld (j := i + 1) hx hb hXs hbl hB hS (n_add (y := 1) (b := 1) rfl rfl) (by omega) hL4 dL_law_827 ?_
  refine lv_aload_n hx hb dL_law_828 rfl (lv_at hl 3 rfl) ?_
  refine lv_iload_n hx hb dL_law_829 rfl (lv_at hl 0 rfl) ?_
  refine lv_iconst (v := 2) hx hb dL_law_830 (by decide) ?_
  refine lv_iadd hx hb dL_law_831 ?_
  refine l_sld (j := i + 2) hx hb hXs hbl hB hS (n_add (y := 2) (b := 2) rfl rfl) (by omega) hL4 dL_law_832 ?_
  refine lv_aload_n hx hb dL_law_833 rfl (lv_at hl 3 rfl) ?_
  refine lv_iload_n hx hb dL_law_834 rfl (lv_at hl 0 rfl) ?_
  refine lv_iconst (v := 3) hx hb dL_law_835 (by decide) ?_
  refine lv_iadd hx hb dL_law_836 ?_
  refine l_sld (j := i + 3) hx hb hXs hbl hB hS (n_add (y := 3) (b := 3) rfl rfl) (by omega) hL4 dL_law_837 ?_
  refine l_if (w := (wM G (B + 117))) (va_runV (As := [.int (xs (i + 1)), .int (xs (i + 2)), .int (xs (i + 3))]) (rest := [.int (r1)]) ⟨hx, hb, hml, hown, hts⟩ (c_X8_part (l := l) (G := G) (B := B + 117) (hW := wM_ok G (B + 117)) (x := y) (q := xs (i + 1)) (w := xs (i + 2)) (m := xs (i + 3)) (n := n) (hN := hcy) (hn8 := hn8)) (cwV 3 hts gL_law_X8_part rfl rfl rfl (by decide +kernel) ⟨Nat.le_of_ble_eq_true rfl, Nat.le_of_ble_eq_true rfl⟩) (l_pv (w := wM G (B + 117)) (a := 0) (wM_ok G (B + 117)) hY hK trivial (l_q hS hB) [.int (xs (i + 1)), .int (xs (i + 2)), .int (xs (i + 3))] (Nat.le_of_ble_eq_true rfl) (shM_0 (G := G) (B := B + 117)) rfl) rfl rfl hl.1 rfl (lv_room (Nat.le_of_ble_eq_true rfl)) dL_law_838 ⟨Nat.le_of_ble_eq_true rfl, Nat.le_of_ble_eq_true rfl⟩) hS (fun q h => Nat.le_trans (Nat.le_add_right B 117) h.1) (fun r2 u2 H lo q2 hU hz hk hS => ?_)
  try dsimp only at q2
  have hX := hX.far (fun a ha => hk _ (by have ha9 : a < 117 := ha; show B + a < _; omega) (fun z => absurd z.1 (by have ha9 : a < 117 := ha; show ¬ B + 117 ≤ B + a; omega)))
  have hsz := Nat.le_trans hsz hz
  have e9 := q_part hL hR q1 q2
  refine lv_icmp_eq (tgt := 1315) hx hb dL_law_841 (by decide) (fun c9 => ?_) (fun c9 => absurd e9.1 c9)
  exact K _ _ _ _ ⟨hsz, hX, hU, hS, e9.2⟩
set_option maxHeartbeats 4000000 in
set_option maxRecDepth 100000 in
theorem lc_still {p : Program} {l : Launch} {e : Env} {s : State} {m : MethodId} {below : List Frame} {meth : Method} {c : Code} {b L : Nat} {xs : Nat → Int32} {G : GG} {B : Nat} {tt : Nat → Nat} {Q : State → Prop} {x y : Mem} {H : Heap} {locs : List Loc} {i : Nat} (C : LX p s m c b L xs G B tt) (hI : LI G B tt s x y H locs) (hi : i + 6 ≤ L) {ls : Array Slot} (hl : lv_has ls 4 [(3, .int (nI i)), (2, .ref (B + 117 + 0)), (1, .ref (B + 0)), (0, .ref b)]) (K : ∀ (x1 y1 : Mem) (H1 : Heap) (locs1 : List Loc), LI G B tt s x1 y1 H1 locs1 → W p l e room_1 s m #[Value.ref b] below meth c H1 locs1 130 2967 Q (F0 m 1315 ls [])) : W p l e room_1 s m #[Value.ref b] below meth c H locs 130 2967 Q (F0 m 846 ls []) := by
  obtain ⟨hx, hb, hml, hown, hts, hXs, hbl, hB, hK, hE, hL4⟩ := id C
  obtain ⟨hsz, hX, hY, hS, hL⟩ := hI
  obtain ⟨n, hR, hG⟩ := hL.2.2.2.2.2.1
  obtain ⟨hcx, hcy, hn8⟩ := hR.ge
  obtain ⟨t, ht4, htx, hty, hTE⟩ := hL.2.1
  obtain ⟨kt, hkt16, hktx, hkty, hktr⟩ := hL.2.2.2.2.1
  have hRo := hL.1.rok
  have hYo := hL.1.yok
  have hkk1 : ∀ j, j < n → ∃ k, 1 ≤ k ∧ k < 6 ∧ sK (y 5) j = nI k := fun j hj => (hG.2 j hj).1
  have hkk6 : ∀ j, j < n → ∃ k, k < 6 ∧ sK (y 5) j = nI k := fun j hj => by obtain ⟨k, k1, k2, k3⟩ := (hG.2 j hj).1; exact ⟨k, k2, k3⟩
  have hfl : ∀ j, j < n → sF (y 5) j 0 ≤ 9 := fun j hj => (hG.2 j hj).2.1
  obtain ⟨nk, hnk⟩ : ∃ nk : Nat → Nat, ∀ k, k < 2 → RR (nk k) x (45 + 10 * k) (y (6 + k)) ∧ RG (nk k) (y (6 + k)) := by
    obtain ⟨n0, h0⟩ := hL.2.2.2.2.2.2 0 (by decide)
    obtain ⟨n1, h1⟩ := hL.2.2.2.2.2.2 1 (by decide)
    refine ⟨fun k => if k = 0 then n0 else n1, fun k hk => ?_⟩
    have hk2 : k = 0 ∨ k = 1 := by omega
    rcases hk2 with rfl | rfl
    · exact h0
    · exact h1
  refine lv_aload_n hx hb dL_law_846 rfl (lv_at hl 2 rfl) ?_
  refine lv_aload_n hx hb dL_law_847 rfl (lv_at hl 3 rfl) ?_
  refine lv_iload_n hx hb dL_law_848 rfl (lv_at hl 0 rfl) ?_
  refine lv_iconst (v := 1) hx hb dL_law_849 (by decide) ?_
  refine lv_iadd hx hb dL_law_850 ?_
  refine l_sld (j := i + 1) hx hb hXs hbl hB hS (n_add (y := 1) (b := 1) rfl rfl) (by omega) hL4 dL_law_851 ?_
  refine lv_aload_n hx hb dL_law_852 rfl (lv_at hl 3 rfl) ?_
  refine lv_iload_n hx hb dL_law_853 rfl (lv_at hl 0 rfl) ?_
  refine lv_iconst (v := 2) hx hb dL_law_854 (by decide) ?_
  refine lv_iadd hx hb dL_law_855 ?_
  refine l_sld (j := i + 2) hx hb hXs hbl hB hS (n_add (y := 2) (b := 2) rfl rfl) (by omega) hL4 dL_law_856 ?_
  refine lv_aload_n hx hb dL_law_857 rfl (lv_at hl 3 rfl) ?_
  refine lv_iload_n hx hb dL_law_858 rfl (lv_at hl 0 rfl) ?_
  refine lv_iconst (v := 3) hx hb dL_law_859 (by decide) ?_
  refine lv_iadd hx hb dL_law_860 ?_
  refine l_sld (j := i + 3) hx hb hXs hbl hB hS (n_add (y := 3) (b := 3) rfl rfl) (by omega) hL4 dL_law_861 ?_
  refine lv_aload_n hx hb dL_law_862 rfl (lv_at hl 3 rfl) ?_
  refine lv_iload_n hx hb dL_law_863 rfl (lv_at hl 0 rfl) ?_
  refine lv_iconst (v := 4) hx hb dL_law_864 (by decide) ?_
  refine lv_iadd hx hb dL_law_865 ?_
  refine l_sld (j := i + 4) hx hb hXs hbl hB hS (n_add (y := 4) (b := 4) rfl rfl) (by omega) hL4 dL_law_866 ?_
  refine lv_aload_n hx hb dL_law_867 rfl (lv_at hl 3 rfl) ?_
  refine lv_iload_n hx hb dL_law_868 rfl (lv_at hl 0 rfl) ?_
  refine lv_iconst (v := 5) hx hb dL_law_869 (by decide) ?_
  refine lv_iadd hx hb dL_law_870 ?_
  refine l_sld (j := i + 5) hx hb hXs hbl hB hS (n_add (y := 5) (b := 5) rfl rfl) (by omega) hL4 dL_law_871 ?_
  refine l_if (w := (wX G B tt)) (va_runV (As := [.int (xs (i + 1)), .int (xs (i + 2)), .int (xs (i + 3)), .int (xs (i + 4)), .int (xs (i + 5))]) (rest := []) ⟨hx, hb, hml, hown, hts⟩ (c_X7_still (l := l) (G := G) (B := B) (tt := tt) (hW := wX_ok G B tt) (x := x) (q := xs (i + 1)) (w := xs (i + 2)) (a := xs (i + 3)) (b2 := xs (i + 4)) (wh := xs (i + 5)) (n := n) (nw := (y 5)) (hR := hR)) (cwV 5 hts gL_law_X7_still rfl rfl rfl (by decide +kernel) ⟨Nat.le_of_ble_eq_true rfl, Nat.le_of_ble_eq_true rfl⟩) (l_pv (w := wX G B tt) (a := 0) (wX_ok G B tt) hX hK hE (l_q hS hB) [.int (xs (i + 1)), .int (xs (i + 2)), .int (xs (i + 3)), .int (xs (i + 4)), .int (xs (i + 5))] (Nat.le_of_ble_eq_true rfl) (shX_mn (G := G) (B := B)) rfl) rfl rfl hl.1 rfl (lv_room (Nat.le_of_ble_eq_true rfl)) dL_law_872 ⟨Nat.le_of_ble_eq_true rfl, Nat.le_of_ble_eq_true rfl⟩) hS (fun q h => h.1) (fun r1 u1 H lo q1 hU hz hk hS => ?_)
  try dsimp only at q1
  have hY := hY.far (fun a ha => hk _ (by have ha9 : a < 13 := ha; show B + 117 + a < _; omega) (fun z => absurd z.2 (by show ¬ B + 117 + a < B + 117; omega)))
  have hX := hU
  have hsz := Nat.le_trans hsz hz
  refine lv_aload_n hx hb dL_law_875 rfl (lv_at hl 1 rfl) ?_
  refine lv_aload_n hx hb dL_law_876 rfl (lv_at hl 3 rfl) ?_
  refine lv_iload_n hx hb dL_law_877 rfl (lv_at hl 0 rfl) ?_
  refine lv_iconst (v := 1) hx hb dL_law_878 (by decide) ?_
  refine lv_iadd hx hb dL_law_879 ?_
  refine l_sld (j := i + 1) hx hb hXs hbl hB hS (n_add (y := 1) (b := 1) rfl rfl) (by omega) hL4 dL_law_880 ?_
  refine lv_aload_n hx hb dL_law_881 rfl (lv_at hl 3 rfl) ?_
  refine lv_iload_n hx hb dL_law_882 rfl (lv_at hl 0 rfl) ?_
  refine lv_iconst (v := 2) hx hb dL_law_883 (by decide) ?_
  refine lv_iadd hx hb dL_law_884 ?_
  refine l_sld (j := i + 2) hx hb hXs hbl hB hS (n_add (y := 2) (b := 2) rfl rfl) (by omega) hL4 dL_law_885 ?_
  refine lv_aload_n hx hb dL_law_886 rfl (lv_at hl 3 rfl) ?_
  refine lv_iload_n hx hb dL_law_887 rfl (lv_at hl 0 rfl) ?_
  refine lv_iconst (v := 3) hx hb dL_law_888 (by decide) ?_
  refine lv_iadd hx hb dL_law_889 ?_
  refine l_sld (j := i + 3) hx hb hXs hbl hB hS (n_add (y := 3) (b := 3) rfl rfl) (by omega) hL4 dL_law_890 ?_
  refine lv_aload_n hx hb dL_law_891 rfl (lv_at hl 3 rfl) ?_
  refine lv_iload_n hx hb dL_law_892 rfl (lv_at hl 0 rfl) ?_
  refine lv_iconst (v := 4) hx hb dL_law_893 (by decide) ?_
  refine lv_iadd hx hb dL_law_894 ?_
  refine l_sld (j := i + 4) hx hb hXs hbl hB hS (n_add (y := 4) (b := 4) rfl rfl) (by omega) hL4 dL_law_895 ?_
  refine lv_aload_n hx hb dL_law_896 rfl (lv_at hl 3 rfl) ?_
  refine lv_iload_n hx hb dL_law_897 rfl (lv_at hl 0 rfl) ?_
  refine lv_iconst (v := 5) hx hb dL_law_898 (by decide) ?_
  refine lv_iadd hx hb dL_law_899 ?_
  refine l_sld (j := i + 5) hx hb hXs hbl hB hS (n_add (y := 5) (b := 5) rfl rfl) (by omega) hL4 dL_law_900 ?_
  refine l_if (w := (wM G (B + 117))) (va_runV (As := [.int (xs (i + 1)), .int (xs (i + 2)), .int (xs (i + 3)), .int (xs (i + 4)), .int (xs (i + 5))]) (rest := [.int (r1)]) ⟨hx, hb, hml, hown, hts⟩ (c_X8_still (l := l) (G := G) (B := B + 117) (hW := wM_ok G (B + 117)) (x := y) (q := xs (i + 1)) (w := xs (i + 2)) (a := xs (i + 3)) (b2 := xs (i + 4)) (wh := xs (i + 5)) (n := n) (hN := hcy) (hn8 := hn8)) (cwV 5 hts gL_law_X8_still rfl rfl rfl (by decide +kernel) ⟨Nat.le_of_ble_eq_true rfl, Nat.le_of_ble_eq_true rfl⟩) (l_pv (w := wM G (B + 117)) (a := 0) (wM_ok G (B + 117)) hY hK trivial (l_q hS hB) [.int (xs (i + 1)), .int (xs (i + 2)), .int (xs (i + 3)), .int (xs (i + 4)), .int (xs (i + 5))] (Nat.le_of_ble_eq_true rfl) (shM_0 (G := G) (B := B + 117)) rfl) rfl rfl hl.1 rfl (lv_room (Nat.le_of_ble_eq_true rfl)) dL_law_901 ⟨Nat.le_of_ble_eq_true rfl, Nat.le_of_ble_eq_true rfl⟩) hS (fun q h => Nat.le_trans (Nat.le_add_right B 117) h.1) (fun r2 u2 H lo q2 hU hz hk hS => ?_)
  try dsimp only at q2
  have hX := hX.far (fun a ha => hk _ (by have ha9 : a < 117 := ha; show B + a < _; omega) (fun z => absurd z.1 (by have ha9 : a < 117 := ha; show ¬ B + 117 ≤ B + a; omega)))
  have hsz := Nat.le_trans hsz hz
  have e9 := q_still hL hR hG q1 q2
  refine lv_icmp_eq (tgt := 1315) hx hb dL_law_904 (by decide) (fun c9 => ?_) (fun c9 => absurd e9.1 c9)
  exact K _ _ _ _ ⟨hsz, hX, hU, hS, e9.2⟩
set_option maxHeartbeats 4000000 in
set_option maxRecDepth 100000 in
theorem lc_higher {p : Program} {l : Launch} {e : Env} {s : State} {m : MethodId} {below : List Frame} {meth : Method} {c : Code} {b L : Nat} {xs : Nat → Int32} {G : GG} {B : Nat} {tt : Nat → Nat} {Q : State → Prop} {x y : Mem} {H : Heap} {locs : List Loc} {i : Nat} (C : LX p s m c b L xs G B tt) (hI : LI G B tt s x y H locs) (hi : i + 6 ≤ L) {ls : Array Slot} (hl : lv_has ls 4 [(3, .int (nI i)), (2, .ref (B + 117 + 0)), (1, .ref (B + 0)), (0, .ref b)]) (K : ∀ (x1 y1 : Mem) (H1 : Heap) (locs1 : List Loc), LI G B tt s x1 y1 H1 locs1 → W p l e room_1 s m #[Value.ref b] below meth c H1 locs1 130 2967 Q (F0 m 1315 ls [])) : W p l e room_1 s m #[Value.ref b] below meth c H locs 130 2967 Q (F0 m 909 ls []) := by
  obtain ⟨hx, hb, hml, hown, hts, hXs, hbl, hB, hK, hE, hL4⟩ := id C
  obtain ⟨hsz, hX, hY, hS, hL⟩ := hI
  obtain ⟨n, hR, hG⟩ := hL.2.2.2.2.2.1
  obtain ⟨hcx, hcy, hn8⟩ := hR.ge
  obtain ⟨t, ht4, htx, hty, hTE⟩ := hL.2.1
  obtain ⟨kt, hkt16, hktx, hkty, hktr⟩ := hL.2.2.2.2.1
  have hRo := hL.1.rok
  have hYo := hL.1.yok
  have hkk1 : ∀ j, j < n → ∃ k, 1 ≤ k ∧ k < 6 ∧ sK (y 5) j = nI k := fun j hj => (hG.2 j hj).1
  have hkk6 : ∀ j, j < n → ∃ k, k < 6 ∧ sK (y 5) j = nI k := fun j hj => by obtain ⟨k, k1, k2, k3⟩ := (hG.2 j hj).1; exact ⟨k, k2, k3⟩
  have hfl : ∀ j, j < n → sF (y 5) j 0 ≤ 9 := fun j hj => (hG.2 j hj).2.1
  obtain ⟨nk, hnk⟩ : ∃ nk : Nat → Nat, ∀ k, k < 2 → RR (nk k) x (45 + 10 * k) (y (6 + k)) ∧ RG (nk k) (y (6 + k)) := by
    obtain ⟨n0, h0⟩ := hL.2.2.2.2.2.2 0 (by decide)
    obtain ⟨n1, h1⟩ := hL.2.2.2.2.2.2 1 (by decide)
    refine ⟨fun k => if k = 0 then n0 else n1, fun k hk => ?_⟩
    have hk2 : k = 0 ∨ k = 1 := by omega
    rcases hk2 with rfl | rfl
    · exact h0
    · exact h1
  refine lv_aload_n hx hb dL_law_909 rfl (lv_at hl 2 rfl) ?_
  refine lv_aload_n hx hb dL_law_910 rfl (lv_at hl 3 rfl) ?_
  refine lv_iload_n hx hb dL_law_911 rfl (lv_at hl 0 rfl) ?_
  refine lv_iconst (v := 1) hx hb dL_law_912 (by decide) ?_
  refine lv_iadd hx hb dL_law_913 ?_
  refine l_sld (j := i + 1) hx hb hXs hbl hB hS (n_add (y := 1) (b := 1) rfl rfl) (by omega) hL4 dL_law_914 ?_
  refine lv_aload_n hx hb dL_law_915 rfl (lv_at hl 3 rfl) ?_
  refine lv_iload_n hx hb dL_law_916 rfl (lv_at hl 0 rfl) ?_
  refine lv_iconst (v := 2) hx hb dL_law_917 (by decide) ?_
  refine lv_iadd hx hb dL_law_918 ?_
  refine l_sld (j := i + 2) hx hb hXs hbl hB hS (n_add (y := 2) (b := 2) rfl rfl) (by omega) hL4 dL_law_919 ?_
  refine lv_aload_n hx hb dL_law_920 rfl (lv_at hl 3 rfl) ?_
  refine lv_iload_n hx hb dL_law_921 rfl (lv_at hl 0 rfl) ?_
  refine lv_iconst (v := 3) hx hb dL_law_922 (by decide) ?_
  refine lv_iadd hx hb dL_law_923 ?_
  refine l_sld (j := i + 3) hx hb hXs hbl hB hS (n_add (y := 3) (b := 3) rfl rfl) (by omega) hL4 dL_law_924 ?_
  refine lv_aload_n hx hb dL_law_925 rfl (lv_at hl 3 rfl) ?_
  refine lv_iload_n hx hb dL_law_926 rfl (lv_at hl 0 rfl) ?_
  refine lv_iconst (v := 4) hx hb dL_law_927 (by decide) ?_
  refine lv_iadd hx hb dL_law_928 ?_
  refine l_sld (j := i + 4) hx hb hXs hbl hB hS (n_add (y := 4) (b := 4) rfl rfl) (by omega) hL4 dL_law_929 ?_
  refine l_if (w := (wX G B tt)) (va_runV (As := [.int (xs (i + 1)), .int (xs (i + 2)), .int (xs (i + 3)), .int (xs (i + 4))]) (rest := []) ⟨hx, hb, hml, hown, hts⟩ (c_X7_higher (l := l) (G := G) (B := B) (tt := tt) (hW := wX_ok G B tt) (x := x) (q := xs (i + 1)) (w := xs (i + 2)) (ml := xs (i + 3)) (wh := xs (i + 4)) (n := n) (nw := (y 5)) (hR := hR) (hfl := hfl)) (cwV 4 hts gL_law_X7_higher rfl rfl rfl (by decide +kernel) ⟨Nat.le_of_ble_eq_true rfl, Nat.le_of_ble_eq_true rfl⟩) (l_pv (w := wX G B tt) (a := 0) (wX_ok G B tt) hX hK hE (l_q hS hB) [.int (xs (i + 1)), .int (xs (i + 2)), .int (xs (i + 3)), .int (xs (i + 4))] (Nat.le_of_ble_eq_true rfl) (shX_mn (G := G) (B := B)) rfl) rfl rfl hl.1 rfl (lv_room (Nat.le_of_ble_eq_true rfl)) dL_law_930 ⟨Nat.le_of_ble_eq_true rfl, Nat.le_of_ble_eq_true rfl⟩) hS (fun q h => h.1) (fun r1 u1 H lo q1 hU hz hk hS => ?_)
  try dsimp only at q1
  have hY := hY.far (fun a ha => hk _ (by have ha9 : a < 13 := ha; show B + 117 + a < _; omega) (fun z => absurd z.2 (by show ¬ B + 117 + a < B + 117; omega)))
  have hX := hU
  have hsz := Nat.le_trans hsz hz
  refine lv_aload_n hx hb dL_law_933 rfl (lv_at hl 1 rfl) ?_
  refine lv_aload_n hx hb dL_law_934 rfl (lv_at hl 3 rfl) ?_
  refine lv_iload_n hx hb dL_law_935 rfl (lv_at hl 0 rfl) ?_
  refine lv_iconst (v := 1) hx hb dL_law_936 (by decide) ?_
  refine lv_iadd hx hb dL_law_937 ?_
  refine l_sld (j := i + 1) hx hb hXs hbl hB hS (n_add (y := 1) (b := 1) rfl rfl) (by omega) hL4 dL_law_938 ?_
  refine lv_aload_n hx hb dL_law_939 rfl (lv_at hl 3 rfl) ?_
  refine lv_iload_n hx hb dL_law_940 rfl (lv_at hl 0 rfl) ?_
  refine lv_iconst (v := 2) hx hb dL_law_941 (by decide) ?_
  refine lv_iadd hx hb dL_law_942 ?_
  refine l_sld (j := i + 2) hx hb hXs hbl hB hS (n_add (y := 2) (b := 2) rfl rfl) (by omega) hL4 dL_law_943 ?_
  refine lv_aload_n hx hb dL_law_944 rfl (lv_at hl 3 rfl) ?_
  refine lv_iload_n hx hb dL_law_945 rfl (lv_at hl 0 rfl) ?_
  refine lv_iconst (v := 3) hx hb dL_law_946 (by decide) ?_
  refine lv_iadd hx hb dL_law_947 ?_
  refine l_sld (j := i + 3) hx hb hXs hbl hB hS (n_add (y := 3) (b := 3) rfl rfl) (by omega) hL4 dL_law_948 ?_
  refine lv_aload_n hx hb dL_law_949 rfl (lv_at hl 3 rfl) ?_
  refine lv_iload_n hx hb dL_law_950 rfl (lv_at hl 0 rfl) ?_
  refine lv_iconst (v := 4) hx hb dL_law_951 (by decide) ?_
  refine lv_iadd hx hb dL_law_952 ?_
  refine l_sld (j := i + 4) hx hb hXs hbl hB hS (n_add (y := 4) (b := 4) rfl rfl) (by omega) hL4 dL_law_953 ?_
  refine l_if (w := (wM G (B + 117))) (va_runV (As := [.int (xs (i + 1)), .int (xs (i + 2)), .int (xs (i + 3)), .int (xs (i + 4))]) (rest := [.int (r1)]) ⟨hx, hb, hml, hown, hts⟩ (c_X8_higher (l := l) (G := G) (B := B + 117) (hW := wM_ok G (B + 117)) (x := y) (q := xs (i + 1)) (w := xs (i + 2)) (ml := xs (i + 3)) (wh := xs (i + 4)) (n := n) (hN := hcy) (hn8 := hn8)) (cwV 4 hts gL_law_X8_higher rfl rfl rfl (by decide +kernel) ⟨Nat.le_of_ble_eq_true rfl, Nat.le_of_ble_eq_true rfl⟩) (l_pv (w := wM G (B + 117)) (a := 0) (wM_ok G (B + 117)) hY hK trivial (l_q hS hB) [.int (xs (i + 1)), .int (xs (i + 2)), .int (xs (i + 3)), .int (xs (i + 4))] (Nat.le_of_ble_eq_true rfl) (shM_0 (G := G) (B := B + 117)) rfl) rfl rfl hl.1 rfl (lv_room (Nat.le_of_ble_eq_true rfl)) dL_law_954 ⟨Nat.le_of_ble_eq_true rfl, Nat.le_of_ble_eq_true rfl⟩) hS (fun q h => Nat.le_trans (Nat.le_add_right B 117) h.1) (fun r2 u2 H lo q2 hU hz hk hS => ?_)
  try dsimp only at q2
  have hX := hX.far (fun a ha => hk _ (by have ha9 : a < 117 := ha; show B + a < _; omega) (fun z => absurd z.1 (by have ha9 : a < 117 := ha; show ¬ B + 117 ≤ B + a; omega)))
  have hsz := Nat.le_trans hsz hz
  have e9 := q_higher hL hR hG q1 q2
  refine lv_icmp_eq (tgt := 1315) hx hb dL_law_957 (by decide) (fun c9 => ?_) (fun c9 => absurd e9.1 c9)
  exact K _ _ _ _ ⟨hsz, hX, hU, hS, e9.2⟩
set_option maxHeartbeats 4000000 in
set_option maxRecDepth 100000 in
theorem lc_owes {p : Program} {l : Launch} {e : Env} {s : State} {m : MethodId} {below : List Frame} {meth : Method} {c : Code} {b L : Nat} {xs : Nat → Int32} {G : GG} {B : Nat} {tt : Nat → Nat} {Q : State → Prop} {x y : Mem} {H : Heap} {locs : List Loc} {i : Nat} (C : LX p s m c b L xs G B tt) (hI : LI G B tt s x y H locs) (hi : i + 6 ≤ L) {ls : Array Slot} (hl : lv_has ls 4 [(3, .int (nI i)), (2, .ref (B + 117 + 0)), (1, .ref (B + 0)), (0, .ref b)]) (K : ∀ (x1 y1 : Mem) (H1 : Heap) (locs1 : List Loc), LI G B tt s x1 y1 H1 locs1 → W p l e room_1 s m #[Value.ref b] below meth c H1 locs1 130 2967 Q (F0 m 1315 ls [])) : W p l e room_1 s m #[Value.ref b] below meth c H locs 130 2967 Q (F0 m 962 ls []) := by
  obtain ⟨hx, hb, hml, hown, hts, hXs, hbl, hB, hK, hE, hL4⟩ := id C
  obtain ⟨hsz, hX, hY, hS, hL⟩ := hI
  obtain ⟨n, hR, hG⟩ := hL.2.2.2.2.2.1
  obtain ⟨hcx, hcy, hn8⟩ := hR.ge
  obtain ⟨t, ht4, htx, hty, hTE⟩ := hL.2.1
  obtain ⟨kt, hkt16, hktx, hkty, hktr⟩ := hL.2.2.2.2.1
  have hRo := hL.1.rok
  have hYo := hL.1.yok
  have hkk1 : ∀ j, j < n → ∃ k, 1 ≤ k ∧ k < 6 ∧ sK (y 5) j = nI k := fun j hj => (hG.2 j hj).1
  have hkk6 : ∀ j, j < n → ∃ k, k < 6 ∧ sK (y 5) j = nI k := fun j hj => by obtain ⟨k, k1, k2, k3⟩ := (hG.2 j hj).1; exact ⟨k, k2, k3⟩
  have hfl : ∀ j, j < n → sF (y 5) j 0 ≤ 9 := fun j hj => (hG.2 j hj).2.1
  obtain ⟨nk, hnk⟩ : ∃ nk : Nat → Nat, ∀ k, k < 2 → RR (nk k) x (45 + 10 * k) (y (6 + k)) ∧ RG (nk k) (y (6 + k)) := by
    obtain ⟨n0, h0⟩ := hL.2.2.2.2.2.2 0 (by decide)
    obtain ⟨n1, h1⟩ := hL.2.2.2.2.2.2 1 (by decide)
    refine ⟨fun k => if k = 0 then n0 else n1, fun k hk => ?_⟩
    have hk2 : k = 0 ∨ k = 1 := by omega
    rcases hk2 with rfl | rfl
    · exact h0
    · exact h1
  refine lv_aload_n hx hb dL_law_962 rfl (lv_at hl 2 rfl) ?_
  refine lv_aload_n hx hb dL_law_963 rfl (lv_at hl 3 rfl) ?_
  refine lv_iload_n hx hb dL_law_964 rfl (lv_at hl 0 rfl) ?_
  refine lv_iconst (v := 1) hx hb dL_law_965 (by decide) ?_
  refine lv_iadd hx hb dL_law_966 ?_
  refine l_sld (j := i + 1) hx hb hXs hbl hB hS (n_add (y := 1) (b := 1) rfl rfl) (by omega) hL4 dL_law_967 ?_
  refine lv_aload_n hx hb dL_law_968 rfl (lv_at hl 3 rfl) ?_
  refine lv_iload_n hx hb dL_law_969 rfl (lv_at hl 0 rfl) ?_
  refine lv_iconst (v := 2) hx hb dL_law_970 (by decide) ?_
  refine lv_iadd hx hb dL_law_971 ?_
  refine l_sld (j := i + 2) hx hb hXs hbl hB hS (n_add (y := 2) (b := 2) rfl rfl) (by omega) hL4 dL_law_972 ?_
  refine lv_aload_n hx hb dL_law_973 rfl (lv_at hl 3 rfl) ?_
  refine lv_iload_n hx hb dL_law_974 rfl (lv_at hl 0 rfl) ?_
  refine lv_iconst (v := 3) hx hb dL_law_975 (by decide) ?_
  refine lv_iadd hx hb dL_law_976 ?_
  refine l_sld (j := i + 3) hx hb hXs hbl hB hS (n_add (y := 3) (b := 3) rfl rfl) (by omega) hL4 dL_law_977 ?_
  refine lv_aload_n hx hb dL_law_978 rfl (lv_at hl 3 rfl) ?_
  refine lv_iload_n hx hb dL_law_979 rfl (lv_at hl 0 rfl) ?_
  refine lv_iconst (v := 4) hx hb dL_law_980 (by decide) ?_
  refine lv_iadd hx hb dL_law_981 ?_
  refine l_sld (j := i + 4) hx hb hXs hbl hB hS (n_add (y := 4) (b := 4) rfl rfl) (by omega) hL4 dL_law_982 ?_
  refine l_if (w := (wX G B tt)) (va_runV (As := [.int (xs (i + 1)), .int (xs (i + 2)), .int (xs (i + 3)), .int (xs (i + 4))]) (rest := []) ⟨hx, hb, hml, hown, hts⟩ (c_X7_owes (l := l) (G := G) (B := B) (tt := tt) (hW := wX_ok G B tt) (x := x) (q := xs (i + 1)) (w := xs (i + 2)) (a := xs (i + 3)) (b2 := xs (i + 4)) (n := n) (nw := (y 5)) (hR := hR)) (cwV 4 hts gL_law_X7_owes rfl rfl rfl (by decide +kernel) ⟨Nat.le_of_ble_eq_true rfl, Nat.le_of_ble_eq_true rfl⟩) (l_pv (w := wX G B tt) (a := 0) (wX_ok G B tt) hX hK hE (l_q hS hB) [.int (xs (i + 1)), .int (xs (i + 2)), .int (xs (i + 3)), .int (xs (i + 4))] (Nat.le_of_ble_eq_true rfl) (shX_mn (G := G) (B := B)) rfl) rfl rfl hl.1 rfl (lv_room (Nat.le_of_ble_eq_true rfl)) dL_law_983 ⟨Nat.le_of_ble_eq_true rfl, Nat.le_of_ble_eq_true rfl⟩) hS (fun q h => h.1) (fun r1 u1 H lo q1 hU hz hk hS => ?_)
  try dsimp only at q1
  have hY := hY.far (fun a ha => hk _ (by have ha9 : a < 13 := ha; show B + 117 + a < _; omega) (fun z => absurd z.2 (by show ¬ B + 117 + a < B + 117; omega)))
  have hX := hU
  have hsz := Nat.le_trans hsz hz
  refine lv_aload_n hx hb dL_law_986 rfl (lv_at hl 1 rfl) ?_
  refine lv_aload_n hx hb dL_law_987 rfl (lv_at hl 3 rfl) ?_
  refine lv_iload_n hx hb dL_law_988 rfl (lv_at hl 0 rfl) ?_
  refine lv_iconst (v := 1) hx hb dL_law_989 (by decide) ?_
  refine lv_iadd hx hb dL_law_990 ?_
  refine l_sld (j := i + 1) hx hb hXs hbl hB hS (n_add (y := 1) (b := 1) rfl rfl) (by omega) hL4 dL_law_991 ?_
  refine lv_aload_n hx hb dL_law_992 rfl (lv_at hl 3 rfl) ?_
  refine lv_iload_n hx hb dL_law_993 rfl (lv_at hl 0 rfl) ?_
  refine lv_iconst (v := 2) hx hb dL_law_994 (by decide) ?_
  refine lv_iadd hx hb dL_law_995 ?_
  refine l_sld (j := i + 2) hx hb hXs hbl hB hS (n_add (y := 2) (b := 2) rfl rfl) (by omega) hL4 dL_law_996 ?_
  refine lv_aload_n hx hb dL_law_997 rfl (lv_at hl 3 rfl) ?_
  refine lv_iload_n hx hb dL_law_998 rfl (lv_at hl 0 rfl) ?_
  refine lv_iconst (v := 3) hx hb dL_law_999 (by decide) ?_
  refine lv_iadd hx hb dL_law_1000 ?_
  refine l_sld (j := i + 3) hx hb hXs hbl hB hS (n_add (y := 3) (b := 3) rfl rfl) (by omega) hL4 dL_law_1001 ?_
  refine lv_aload_n hx hb dL_law_1002 rfl (lv_at hl 3 rfl) ?_
  refine lv_iload_n hx hb dL_law_1003 rfl (lv_at hl 0 rfl) ?_
  refine lv_iconst (v := 4) hx hb dL_law_1004 (by decide) ?_
  refine lv_iadd hx hb dL_law_1005 ?_
  refine l_sld (j := i + 4) hx hb hXs hbl hB hS (n_add (y := 4) (b := 4) rfl rfl) (by omega) hL4 dL_law_1006 ?_
  refine l_if (w := (wM G (B + 117))) (va_runV (As := [.int (xs (i + 1)), .int (xs (i + 2)), .int (xs (i + 3)), .int (xs (i + 4))]) (rest := [.int (r1)]) ⟨hx, hb, hml, hown, hts⟩ (c_X8_owes (l := l) (G := G) (B := B + 117) (hW := wM_ok G (B + 117)) (x := y) (q := xs (i + 1)) (w := xs (i + 2)) (a := xs (i + 3)) (b2 := xs (i + 4)) (n := n) (hN := hcy) (hn8 := hn8)) (cwV 4 hts gL_law_X8_owes rfl rfl rfl (by decide +kernel) ⟨Nat.le_of_ble_eq_true rfl, Nat.le_of_ble_eq_true rfl⟩) (l_pv (w := wM G (B + 117)) (a := 0) (wM_ok G (B + 117)) hY hK trivial (l_q hS hB) [.int (xs (i + 1)), .int (xs (i + 2)), .int (xs (i + 3)), .int (xs (i + 4))] (Nat.le_of_ble_eq_true rfl) (shM_0 (G := G) (B := B + 117)) rfl) rfl rfl hl.1 rfl (lv_room (Nat.le_of_ble_eq_true rfl)) dL_law_1007 ⟨Nat.le_of_ble_eq_true rfl, Nat.le_of_ble_eq_true rfl⟩) hS (fun q h => Nat.le_trans (Nat.le_add_right B 117) h.1) (fun r2 u2 H lo q2 hU hz hk hS => ?_)
  try dsimp only at q2
  have hX := hX.far (fun a ha => hk _ (by have ha9 : a < 117 := ha; show B + a < _; omega) (fun z => absurd z.1 (by have ha9 : a < 117 := ha; show ¬ B + 117 ≤ B + a; omega)))
  have hsz := Nat.le_trans hsz hz
  have e9 := q_owes hL hR hG q1 q2
  refine lv_icmp_eq (tgt := 1315) hx hb dL_law_1010 (by decide) (fun c9 => ?_) (fun c9 => absurd e9.1 c9)
  exact K _ _ _ _ ⟨hsz, hX, hU, hS, e9.2⟩
set_option maxHeartbeats 4000000 in
set_option maxRecDepth 100000 in
theorem lc_night {p : Program} {l : Launch} {e : Env} {s : State} {m : MethodId} {below : List Frame} {meth : Method} {c : Code} {b L : Nat} {xs : Nat → Int32} {G : GG} {B : Nat} {tt : Nat → Nat} {Q : State → Prop} {x y : Mem} {H : Heap} {locs : List Loc} {i : Nat} (C : LX p s m c b L xs G B tt) (hI : LI G B tt s x y H locs) (hi : i + 6 ≤ L) {ls : Array Slot} (hl : lv_has ls 4 [(3, .int (nI i)), (2, .ref (B + 117 + 0)), (1, .ref (B + 0)), (0, .ref b)]) (K : ∀ (x1 y1 : Mem) (H1 : Heap) (locs1 : List Loc), LI G B tt s x1 y1 H1 locs1 → W p l e room_1 s m #[Value.ref b] below meth c H1 locs1 130 2967 Q (F0 m 1315 ls [])) : W p l e room_1 s m #[Value.ref b] below meth c H locs 130 2967 Q (F0 m 1015 ls []) := by
  obtain ⟨hx, hb, hml, hown, hts, hXs, hbl, hB, hK, hE, hL4⟩ := id C
  obtain ⟨hsz, hX, hY, hS, hL⟩ := hI
  obtain ⟨n, hR, hG⟩ := hL.2.2.2.2.2.1
  obtain ⟨hcx, hcy, hn8⟩ := hR.ge
  obtain ⟨t, ht4, htx, hty, hTE⟩ := hL.2.1
  obtain ⟨kt, hkt16, hktx, hkty, hktr⟩ := hL.2.2.2.2.1
  have hRo := hL.1.rok
  have hYo := hL.1.yok
  have hkk1 : ∀ j, j < n → ∃ k, 1 ≤ k ∧ k < 6 ∧ sK (y 5) j = nI k := fun j hj => (hG.2 j hj).1
  have hkk6 : ∀ j, j < n → ∃ k, k < 6 ∧ sK (y 5) j = nI k := fun j hj => by obtain ⟨k, k1, k2, k3⟩ := (hG.2 j hj).1; exact ⟨k, k2, k3⟩
  have hfl : ∀ j, j < n → sF (y 5) j 0 ≤ 9 := fun j hj => (hG.2 j hj).2.1
  obtain ⟨nk, hnk⟩ : ∃ nk : Nat → Nat, ∀ k, k < 2 → RR (nk k) x (45 + 10 * k) (y (6 + k)) ∧ RG (nk k) (y (6 + k)) := by
    obtain ⟨n0, h0⟩ := hL.2.2.2.2.2.2 0 (by decide)
    obtain ⟨n1, h1⟩ := hL.2.2.2.2.2.2 1 (by decide)
    refine ⟨fun k => if k = 0 then n0 else n1, fun k hk => ?_⟩
    have hk2 : k = 0 ∨ k = 1 := by omega
    rcases hk2 with rfl | rfl
    · exact h0
    · exact h1
  refine lv_aload_n hx hb dL_law_1015 rfl (lv_at hl 2 rfl) ?_
  refine lv_aload_n hx hb dL_law_1016 rfl (lv_at hl 3 rfl) ?_
  refine lv_iload_n hx hb dL_law_1017 rfl (lv_at hl 0 rfl) ?_
  refine lv_iconst (v := 1) hx hb dL_law_1018 (by decide) ?_
  refine lv_iadd hx hb dL_law_1019 ?_
  refine l_sld (j := i + 1) hx hb hXs hbl hB hS (n_add (y := 1) (b := 1) rfl rfl) (by omega) hL4 dL_law_1020 ?_
  refine lv_aload_n hx hb dL_law_1021 rfl (lv_at hl 3 rfl) ?_
  refine lv_iload_n hx hb dL_law_1022 rfl (lv_at hl 0 rfl) ?_
  refine lv_iconst (v := 2) hx hb dL_law_1023 (by decide) ?_
  refine lv_iadd hx hb dL_law_1024 ?_
  refine l_sld (j := i + 2) hx hb hXs hbl hB hS (n_add (y := 2) (b := 2) rfl rfl) (by omega) hL4 dL_law_1025 ?_
  refine lv_aload_n hx hb dL_law_1026 rfl (lv_at hl 3 rfl) ?_
  refine lv_iload_n hx hb dL_law_1027 rfl (lv_at hl 0 rfl) ?_
  refine lv_iconst (v := 3) hx hb dL_law_1028 (by decide) ?_
  refine lv_iadd hx hb dL_law_1029 ?_
  refine l_sld (j := i + 3) hx hb hXs hbl hB hS (n_add (y := 3) (b := 3) rfl rfl) (by omega) hL4 dL_law_1030 ?_
  refine lv_aload_n hx hb dL_law_1031 rfl (lv_at hl 3 rfl) ?_
  refine lv_iload_n hx hb dL_law_1032 rfl (lv_at hl 0 rfl) ?_
  refine lv_iconst (v := 4) hx hb dL_law_1033 (by decide) ?_
  refine lv_iadd hx hb dL_law_1034 ?_
  refine l_sld (j := i + 4) hx hb hXs hbl hB hS (n_add (y := 4) (b := 4) rfl rfl) (by omega) hL4 dL_law_1035 ?_
  refine lv_aload_n hx hb dL_law_1036 rfl (lv_at hl 3 rfl) ?_
  refine lv_iload_n hx hb dL_law_1037 rfl (lv_at hl 0 rfl) ?_
  refine lv_iconst (v := 5) hx hb dL_law_1038 (by decide) ?_
  refine lv_iadd hx hb dL_law_1039 ?_
  refine l_sld (j := i + 5) hx hb hXs hbl hB hS (n_add (y := 5) (b := 5) rfl rfl) (by omega) hL4 dL_law_1040 ?_
  refine l_if (w := (wX G B tt)) (va_runV (As := [.int (xs (i + 1)), .int (xs (i + 2)), .int (xs (i + 3)), .int (xs (i + 4)), .int (xs (i + 5))]) (rest := []) ⟨hx, hb, hml, hown, hts⟩ (c_X7_night (l := l) (G := G) (B := B) (tt := tt) (hW := wX_ok G B tt) (x := x) (q := xs (i + 1)) (w := xs (i + 2)) (nh := xs (i + 3)) (a := xs (i + 4)) (i := xs (i + 5)) (n := n) (nw := (y 5)) (hR := hR)) (cwV 5 hts gL_law_X7_night rfl rfl rfl (by decide +kernel) ⟨Nat.le_of_ble_eq_true rfl, Nat.le_of_ble_eq_true rfl⟩) (l_pv (w := wX G B tt) (a := 0) (wX_ok G B tt) hX hK hE (l_q hS hB) [.int (xs (i + 1)), .int (xs (i + 2)), .int (xs (i + 3)), .int (xs (i + 4)), .int (xs (i + 5))] (Nat.le_of_ble_eq_true rfl) (shX_mn (G := G) (B := B)) rfl) rfl rfl hl.1 rfl (lv_room (Nat.le_of_ble_eq_true rfl)) dL_law_1041 ⟨Nat.le_of_ble_eq_true rfl, Nat.le_of_ble_eq_true rfl⟩) hS (fun q h => h.1) (fun r1 u1 H lo q1 hU hz hk hS => ?_)
  try dsimp only at q1
  have hY := hY.far (fun a ha => hk _ (by have ha9 : a < 13 := ha; show B + 117 + a < _; omega) (fun z => absurd z.2 (by show ¬ B + 117 + a < B + 117; omega)))
  have hX := hU
  have hsz := Nat.le_trans hsz hz
  refine lv_aload_n hx hb dL_law_1044 rfl (lv_at hl 1 rfl) ?_
  refine lv_aload_n hx hb dL_law_1045 rfl (lv_at hl 3 rfl) ?_
  refine lv_iload_n hx hb dL_law_1046 rfl (lv_at hl 0 rfl) ?_
  refine lv_iconst (v := 1) hx hb dL_law_1047 (by decide) ?_
  refine lv_iadd hx hb dL_law_1048 ?_
  refine l_sld (j := i + 1) hx hb hXs hbl hB hS (n_add (y := 1) (b := 1) rfl rfl) (by omega) hL4 dL_law_1049 ?_
  refine lv_aload_n hx hb dL_law_1050 rfl (lv_at hl 3 rfl) ?_
  refine lv_iload_n hx hb dL_law_1051 rfl (lv_at hl 0 rfl) ?_
  refine lv_iconst (v := 2) hx hb dL_law_1052 (by decide) ?_
  refine lv_iadd hx hb dL_law_1053 ?_
  refine l_sld (j := i + 2) hx hb hXs hbl hB hS (n_add (y := 2) (b := 2) rfl rfl) (by omega) hL4 dL_law_1054 ?_
  refine lv_aload_n hx hb dL_law_1055 rfl (lv_at hl 3 rfl) ?_
  refine lv_iload_n hx hb dL_law_1056 rfl (lv_at hl 0 rfl) ?_
  refine lv_iconst (v := 3) hx hb dL_law_1057 (by decide) ?_
  refine lv_iadd hx hb dL_law_1058 ?_
  refine l_sld (j := i + 3) hx hb hXs hbl hB hS (n_add (y := 3) (b := 3) rfl rfl) (by omega) hL4 dL_law_1059 ?_
  refine lv_aload_n hx hb dL_law_1060 rfl (lv_at hl 3 rfl) ?_
  refine lv_iload_n hx hb dL_law_1061 rfl (lv_at hl 0 rfl) ?_
  refine lv_iconst (v := 4) hx hb dL_law_1062 (by decide) ?_
  refine lv_iadd hx hb dL_law_1063 ?_
  refine l_sld (j := i + 4) hx hb hXs hbl hB hS (n_add (y := 4) (b := 4) rfl rfl) (by omega) hL4 dL_law_1064 ?_
  refine lv_aload_n hx hb dL_law_1065 rfl (lv_at hl 3 rfl) ?_
  refine lv_iload_n hx hb dL_law_1066 rfl (lv_at hl 0 rfl) ?_
  refine lv_iconst (v := 5) hx hb dL_law_1067 (by decide) ?_
  refine lv_iadd hx hb dL_law_1068 ?_
  refine l_sld (j := i + 5) hx hb hXs hbl hB hS (n_add (y := 5) (b := 5) rfl rfl) (by omega) hL4 dL_law_1069 ?_
  refine l_if (w := (wM G (B + 117))) (va_runV (As := [.int (xs (i + 1)), .int (xs (i + 2)), .int (xs (i + 3)), .int (xs (i + 4)), .int (xs (i + 5))]) (rest := [.int (r1)]) ⟨hx, hb, hml, hown, hts⟩ (c_X8_night (l := l) (G := G) (B := B + 117) (hW := wM_ok G (B + 117)) (x := y) (q := xs (i + 1)) (w := xs (i + 2)) (nh := xs (i + 3)) (a := xs (i + 4)) (i := xs (i + 5)) (n := n) (hN := hcy) (hn8 := hn8) (hY := hYo)) (cwV 5 hts gL_law_X8_night rfl rfl rfl (by decide +kernel) ⟨Nat.le_of_ble_eq_true rfl, Nat.le_of_ble_eq_true rfl⟩) (l_pv (w := wM G (B + 117)) (a := 0) (wM_ok G (B + 117)) hY hK trivial (l_q hS hB) [.int (xs (i + 1)), .int (xs (i + 2)), .int (xs (i + 3)), .int (xs (i + 4)), .int (xs (i + 5))] (Nat.le_of_ble_eq_true rfl) (shM_0 (G := G) (B := B + 117)) rfl) rfl rfl hl.1 rfl (lv_room (Nat.le_of_ble_eq_true rfl)) dL_law_1070 ⟨Nat.le_of_ble_eq_true rfl, Nat.le_of_ble_eq_true rfl⟩) hS (fun q h => Nat.le_trans (Nat.le_add_right B 117) h.1) (fun r2 u2 H lo q2 hU hz hk hS => ?_)
  try dsimp only at q2
  have hX := hX.far (fun a ha => hk _ (by have ha9 : a < 117 := ha; show B + a < _; omega) (fun z => absurd z.1 (by have ha9 : a < 117 := ha; show ¬ B + 117 ≤ B + a; omega)))
  have hsz := Nat.le_trans hsz hz
  have e9 := q_night hL hR q1 q2
  refine lv_icmp_eq (tgt := 1315) hx hb dL_law_1073 (by decide) (fun c9 => ?_) (fun c9 => absurd e9.1 c9)
  exact K _ _ _ _ ⟨hsz, hX, hU, hS, e9.2⟩
set_option maxHeartbeats 4000000 in
set_option maxRecDepth 100000 in
theorem lc_years {p : Program} {l : Launch} {e : Env} {s : State} {m : MethodId} {below : List Frame} {meth : Method} {c : Code} {b L : Nat} {xs : Nat → Int32} {G : GG} {B : Nat} {tt : Nat → Nat} {Q : State → Prop} {x y : Mem} {H : Heap} {locs : List Loc} {i : Nat} (C : LX p s m c b L xs G B tt) (hI : LI G B tt s x y H locs) (hi : i + 6 ≤ L) {ls : Array Slot} (hl : lv_has ls 4 [(3, .int (nI i)), (2, .ref (B + 117 + 0)), (1, .ref (B + 0)), (0, .ref b)]) (K : ∀ (x1 y1 : Mem) (H1 : Heap) (locs1 : List Loc), LI G B tt s x1 y1 H1 locs1 → W p l e room_1 s m #[Value.ref b] below meth c H1 locs1 130 2967 Q (F0 m 1315 ls [])) : W p l e room_1 s m #[Value.ref b] below meth c H locs 130 2967 Q (F0 m 1078 ls []) := by
  obtain ⟨hx, hb, hml, hown, hts, hXs, hbl, hB, hK, hE, hL4⟩ := id C
  obtain ⟨hsz, hX, hY, hS, hL⟩ := hI
  obtain ⟨n, hR, hG⟩ := hL.2.2.2.2.2.1
  obtain ⟨hcx, hcy, hn8⟩ := hR.ge
  obtain ⟨t, ht4, htx, hty, hTE⟩ := hL.2.1
  obtain ⟨kt, hkt16, hktx, hkty, hktr⟩ := hL.2.2.2.2.1
  have hRo := hL.1.rok
  have hYo := hL.1.yok
  have hkk1 : ∀ j, j < n → ∃ k, 1 ≤ k ∧ k < 6 ∧ sK (y 5) j = nI k := fun j hj => (hG.2 j hj).1
  have hkk6 : ∀ j, j < n → ∃ k, k < 6 ∧ sK (y 5) j = nI k := fun j hj => by obtain ⟨k, k1, k2, k3⟩ := (hG.2 j hj).1; exact ⟨k, k2, k3⟩
  have hfl : ∀ j, j < n → sF (y 5) j 0 ≤ 9 := fun j hj => (hG.2 j hj).2.1
  obtain ⟨nk, hnk⟩ : ∃ nk : Nat → Nat, ∀ k, k < 2 → RR (nk k) x (45 + 10 * k) (y (6 + k)) ∧ RG (nk k) (y (6 + k)) := by
    obtain ⟨n0, h0⟩ := hL.2.2.2.2.2.2 0 (by decide)
    obtain ⟨n1, h1⟩ := hL.2.2.2.2.2.2 1 (by decide)
    refine ⟨fun k => if k = 0 then n0 else n1, fun k hk => ?_⟩
    have hk2 : k = 0 ∨ k = 1 := by omega
    rcases hk2 with rfl | rfl
    · exact h0
    · exact h1
  refine lv_aload_n hx hb dL_law_1078 rfl (lv_at hl 2 rfl) ?_
  refine lv_aload_n hx hb dL_law_1079 rfl (lv_at hl 3 rfl) ?_
  refine lv_iload_n hx hb dL_law_1080 rfl (lv_at hl 0 rfl) ?_
  refine lv_iconst (v := 1) hx hb dL_law_1081 (by decide) ?_
  refine lv_iadd hx hb dL_law_1082 ?_
  refine l_sld (j := i + 1) hx hb hXs hbl hB hS (n_add (y := 1) (b := 1) rfl rfl) (by omega) hL4 dL_law_1083 ?_
  refine lv_aload_n hx hb dL_law_1084 rfl (lv_at hl 3 rfl) ?_
  refine lv_iload_n hx hb dL_law_1085 rfl (lv_at hl 0 rfl) ?_
  refine lv_iconst (v := 2) hx hb dL_law_1086 (by decide) ?_
  refine lv_iadd hx hb dL_law_1087 ?_
  refine l_sld (j := i + 2) hx hb hXs hbl hB hS (n_add (y := 2) (b := 2) rfl rfl) (by omega) hL4 dL_law_1088 ?_
  refine lv_aload_n hx hb dL_law_1089 rfl (lv_at hl 3 rfl) ?_
  refine lv_iload_n hx hb dL_law_1090 rfl (lv_at hl 0 rfl) ?_
  refine lv_iconst (v := 3) hx hb dL_law_1091 (by decide) ?_
  refine lv_iadd hx hb dL_law_1092 ?_
  refine l_sld (j := i + 3) hx hb hXs hbl hB hS (n_add (y := 3) (b := 3) rfl rfl) (by omega) hL4 dL_law_1093 ?_
  refine l_if (w := (wX G B tt)) (va_runV (As := [.int (xs (i + 1)), .int (xs (i + 2)), .int (xs (i + 3))]) (rest := []) ⟨hx, hb, hml, hown, hts⟩ (c_X7_years (l := l) (G := G) (B := B) (tt := tt) (hW := wX_ok G B tt) (x := x) (ny := xs (i + 1)) (seed := xs (i + 2)) (m := xs (i + 3)) (n := n) (nw := (y 5)) (hR := hR)) (cwV 3 hts gL_law_X7_years rfl rfl rfl (by decide +kernel) ⟨Nat.le_of_ble_eq_true rfl, Nat.le_of_ble_eq_true rfl⟩) (l_pv (w := wX G B tt) (a := 0) (wX_ok G B tt) hX hK hE (l_q hS hB) [.int (xs (i + 1)), .int (xs (i + 2)), .int (xs (i + 3))] (Nat.le_of_ble_eq_true rfl) (shX_mn (G := G) (B := B)) rfl) rfl rfl hl.1 rfl (lv_room (Nat.le_of_ble_eq_true rfl)) dL_law_1094 ⟨Nat.le_of_ble_eq_true rfl, Nat.le_of_ble_eq_true rfl⟩) hS (fun q h => h.1) (fun r1 u1 H lo q1 hU hz hk hS => ?_)
  try dsimp only at q1
  have hY := hY.far (fun a ha => hk _ (by have ha9 : a < 13 := ha; show B + 117 + a < _; omega) (fun z => absurd z.2 (by show ¬ B + 117 + a < B + 117; omega)))
  have hX := hU
  have hsz := Nat.le_trans hsz hz
  refine lv_aload_n hx hb dL_law_1097 rfl (lv_at hl 1 rfl) ?_
  refine lv_aload_n hx hb dL_law_1098 rfl (lv_at hl 3 rfl) ?_
  refine lv_iload_n hx hb dL_law_1099 rfl (lv_at hl 0 rfl) ?_
  refine lv_iconst (v := 1) hx hb dL_law_1100 (by decide) ?_
  refine lv_iadd hx hb dL_law_1101 ?_
  refine l_sld (j := i + 1) hx hb hXs hbl hB hS (n_add (y := 1) (b := 1) rfl rfl) (by omega) hL4 dL_law_1102 ?_
  refine lv_aload_n hx hb dL_law_1103 rfl (lv_at hl 3 rfl) ?_
  refine lv_iload_n hx hb dL_law_1104 rfl (lv_at hl 0 rfl) ?_
  refine lv_iconst (v := 2) hx hb dL_law_1105 (by decide) ?_
  refine lv_iadd hx hb dL_law_1106 ?_
  refine l_sld (j := i + 2) hx hb hXs hbl hB hS (n_add (y := 2) (b := 2) rfl rfl) (by omega) hL4 dL_law_1107 ?_
  refine lv_aload_n hx hb dL_law_1108 rfl (lv_at hl 3 rfl) ?_
  refine lv_iload_n hx hb dL_law_1109 rfl (lv_at hl 0 rfl) ?_
  refine lv_iconst (v := 3) hx hb dL_law_1110 (by decide) ?_
  refine lv_iadd hx hb dL_law_1111 ?_
  refine l_sld (j := i + 3) hx hb hXs hbl hB hS (n_add (y := 3) (b := 3) rfl rfl) (by omega) hL4 dL_law_1112 ?_
  refine l_if (w := (wM G (B + 117))) (va_runV (As := [.int (xs (i + 1)), .int (xs (i + 2)), .int (xs (i + 3))]) (rest := [.int (r1)]) ⟨hx, hb, hml, hown, hts⟩ (c_X8_years (l := l) (G := G) (B := B + 117) (hW := wM_ok G (B + 117)) (x := y) (ny := xs (i + 1)) (seed := xs (i + 2)) (m := xs (i + 3)) (n := n) (hN := hcy) (hn8 := hn8)) (cwV 3 hts gL_law_X8_years rfl rfl rfl (by decide +kernel) ⟨Nat.le_of_ble_eq_true rfl, Nat.le_of_ble_eq_true rfl⟩) (l_pv (w := wM G (B + 117)) (a := 0) (wM_ok G (B + 117)) hY hK trivial (l_q hS hB) [.int (xs (i + 1)), .int (xs (i + 2)), .int (xs (i + 3))] (Nat.le_of_ble_eq_true rfl) (shM_0 (G := G) (B := B + 117)) rfl) rfl rfl hl.1 rfl (lv_room (Nat.le_of_ble_eq_true rfl)) dL_law_1113 ⟨Nat.le_of_ble_eq_true rfl, Nat.le_of_ble_eq_true rfl⟩) hS (fun q h => Nat.le_trans (Nat.le_add_right B 117) h.1) (fun r2 u2 H lo q2 hU hz hk hS => ?_)
  try dsimp only at q2
  have hX := hX.far (fun a ha => hk _ (by have ha9 : a < 117 := ha; show B + a < _; omega) (fun z => absurd z.1 (by have ha9 : a < 117 := ha; show ¬ B + 117 ≤ B + a; omega)))
  have hsz := Nat.le_trans hsz hz
  have e9 := q_years hL hR q1 q2
  refine lv_icmp_eq (tgt := 1315) hx hb dL_law_1116 (by decide) (fun c9 => ?_) (fun c9 => absurd e9.1 c9)
  exact K _ _ _ _ ⟨hsz, hX, hU, hS, e9.2⟩
set_option maxHeartbeats 4000000 in
set_option maxRecDepth 100000 in
theorem lc_image {p : Program} {l : Launch} {e : Env} {s : State} {m : MethodId} {below : List Frame} {meth : Method} {c : Code} {b L : Nat} {xs : Nat → Int32} {G : GG} {B : Nat} {tt : Nat → Nat} {Q : State → Prop} {x y : Mem} {H : Heap} {locs : List Loc} {i : Nat} (C : LX p s m c b L xs G B tt) (hI : LI G B tt s x y H locs) (hi : i + 6 ≤ L) {ls : Array Slot} (hl : lv_has ls 4 [(3, .int (nI i)), (2, .ref (B + 117 + 0)), (1, .ref (B + 0)), (0, .ref b)]) (K : ∀ (x1 y1 : Mem) (H1 : Heap) (locs1 : List Loc), LI G B tt s x1 y1 H1 locs1 → W p l e room_1 s m #[Value.ref b] below meth c H1 locs1 130 2967 Q (F0 m 1315 ls [])) : W p l e room_1 s m #[Value.ref b] below meth c H locs 130 2967 Q (F0 m 1121 ls []) := by
  obtain ⟨hx, hb, hml, hown, hts, hXs, hbl, hB, hK, hE, hL4⟩ := id C
  obtain ⟨hsz, hX, hY, hS, hL⟩ := hI
  obtain ⟨n, hR, hG⟩ := hL.2.2.2.2.2.1
  obtain ⟨hcx, hcy, hn8⟩ := hR.ge
  obtain ⟨t, ht4, htx, hty, hTE⟩ := hL.2.1
  obtain ⟨kt, hkt16, hktx, hkty, hktr⟩ := hL.2.2.2.2.1
  have hRo := hL.1.rok
  have hYo := hL.1.yok
  have hkk1 : ∀ j, j < n → ∃ k, 1 ≤ k ∧ k < 6 ∧ sK (y 5) j = nI k := fun j hj => (hG.2 j hj).1
  have hkk6 : ∀ j, j < n → ∃ k, k < 6 ∧ sK (y 5) j = nI k := fun j hj => by obtain ⟨k, k1, k2, k3⟩ := (hG.2 j hj).1; exact ⟨k, k2, k3⟩
  have hfl : ∀ j, j < n → sF (y 5) j 0 ≤ 9 := fun j hj => (hG.2 j hj).2.1
  obtain ⟨nk, hnk⟩ : ∃ nk : Nat → Nat, ∀ k, k < 2 → RR (nk k) x (45 + 10 * k) (y (6 + k)) ∧ RG (nk k) (y (6 + k)) := by
    obtain ⟨n0, h0⟩ := hL.2.2.2.2.2.2 0 (by decide)
    obtain ⟨n1, h1⟩ := hL.2.2.2.2.2.2 1 (by decide)
    refine ⟨fun k => if k = 0 then n0 else n1, fun k hk => ?_⟩
    have hk2 : k = 0 ∨ k = 1 := by omega
    rcases hk2 with rfl | rfl
    · exact h0
    · exact h1
  refine lv_aload_n hx hb dL_law_1121 rfl (lv_at hl 2 rfl) ?_
  refine lv_aload_n hx hb dL_law_1122 rfl (lv_at hl 3 rfl) ?_
  refine lv_iload_n hx hb dL_law_1123 rfl (lv_at hl 0 rfl) ?_
  refine lv_iconst (v := 1) hx hb dL_law_1124 (by decide) ?_
  refine lv_iadd hx hb dL_law_1125 ?_
  refine l_sld (j := i + 1) hx hb hXs hbl hB hS (n_add (y := 1) (b := 1) rfl rfl) (by omega) hL4 dL_law_1126 ?_
  refine l_if (w := (wX G B tt)) (va_runV (As := [.int (xs (i + 1))]) (rest := []) ⟨hx, hb, hml, hown, hts⟩ (c_X7_image (l := l) (G := G) (B := B) (tt := tt) (hW := wX_ok G B tt) (x := x) (k := xs (i + 1)) (n := n) (nw := (y 5)) (hR := hR)) (cwV 1 hts gL_law_X7_image rfl rfl rfl (by decide +kernel) ⟨Nat.le_of_ble_eq_true rfl, Nat.le_of_ble_eq_true rfl⟩) (l_pv (w := wX G B tt) (a := 0) (wX_ok G B tt) hX hK hE (l_q hS hB) [.int (xs (i + 1))] (Nat.le_of_ble_eq_true rfl) (shX_mn (G := G) (B := B)) rfl) rfl rfl hl.1 rfl (lv_room (Nat.le_of_ble_eq_true rfl)) dL_law_1127 ⟨Nat.le_of_ble_eq_true rfl, Nat.le_of_ble_eq_true rfl⟩) hS (fun q h => h.1) (fun r1 u1 H lo q1 hU hz hk hS => ?_)
  try dsimp only at q1
  have hY := hY.far (fun a ha => hk _ (by have ha9 : a < 13 := ha; show B + 117 + a < _; omega) (fun z => absurd z.2 (by show ¬ B + 117 + a < B + 117; omega)))
  have hX := hU
  have hsz := Nat.le_trans hsz hz
  refine lv_aload_n hx hb dL_law_1130 rfl (lv_at hl 1 rfl) ?_
  refine lv_aload_n hx hb dL_law_1131 rfl (lv_at hl 3 rfl) ?_
  refine lv_iload_n hx hb dL_law_1132 rfl (lv_at hl 0 rfl) ?_
  refine lv_iconst (v := 1) hx hb dL_law_1133 (by decide) ?_
  refine lv_iadd hx hb dL_law_1134 ?_
  refine l_sld (j := i + 1) hx hb hXs hbl hB hS (n_add (y := 1) (b := 1) rfl rfl) (by omega) hL4 dL_law_1135 ?_
  refine l_if (w := (wM G (B + 117))) (va_runV (As := [.int (xs (i + 1))]) (rest := [.int (r1)]) ⟨hx, hb, hml, hown, hts⟩ (c_X8_image (l := l) (G := G) (B := B + 117) (hW := wM_ok G (B + 117)) (x := y) (k := xs (i + 1)) (n := n) (hN := hcy) (hn8 := hn8)) (cwV 1 hts gL_law_X8_image rfl rfl rfl (by decide +kernel) ⟨Nat.le_of_ble_eq_true rfl, Nat.le_of_ble_eq_true rfl⟩) (l_pv (w := wM G (B + 117)) (a := 0) (wM_ok G (B + 117)) hY hK trivial (l_q hS hB) [.int (xs (i + 1))] (Nat.le_of_ble_eq_true rfl) (shM_0 (G := G) (B := B + 117)) rfl) rfl rfl hl.1 rfl (lv_room (Nat.le_of_ble_eq_true rfl)) dL_law_1136 ⟨Nat.le_of_ble_eq_true rfl, Nat.le_of_ble_eq_true rfl⟩) hS (fun q h => Nat.le_trans (Nat.le_add_right B 117) h.1) (fun r2 u2 H lo q2 hU hz hk hS => ?_)
  try dsimp only at q2
  have hX := hX.far (fun a ha => hk _ (by have ha9 : a < 117 := ha; show B + a < _; omega) (fun z => absurd z.1 (by have ha9 : a < 117 := ha; show ¬ B + 117 ≤ B + a; omega)))
  have hsz := Nat.le_trans hsz hz
  have e9 := q_image hL hR hG q1 q2
  refine lv_icmp_eq (tgt := 1315) hx hb dL_law_1139 (by decide) (fun c9 => ?_) (fun c9 => absurd e9.1 c9)
  exact K _ _ _ _ ⟨hsz, hX, hU, hS, e9.2⟩
