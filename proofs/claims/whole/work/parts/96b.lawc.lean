set_option maxHeartbeats 4000000 in
set_option maxRecDepth 100000 in
theorem lc_face {p : Program} {l : Launch} {e : Env} {s : State} {m : MethodId} {below : List Frame} {meth : Method} {c : Code} {b L : Nat} {xs : Nat → Int32} {G : GG} {B : Nat} {tt : Nat → Nat} {Q : State → Prop} {x y : Mem} {H : Heap} {locs : List Loc} {i : Nat} (C : LX p s m c b L xs G B tt) (hI : LI G B tt s x y H locs) (hi : i + 6 ≤ L) {ls : Array Slot} (hl : lv_has ls 4 [(3, .int (nI i)), (2, .ref (B + 117 + 0)), (1, .ref (B + 0)), (0, .ref b)]) (K : ∀ (x1 y1 : Mem) (H1 : Heap) (locs1 : List Loc), LI G B tt s x1 y1 H1 locs1 → W p l e room_1 s m #[Value.ref b] below meth c H1 locs1 130 2967 Q (F0 m 1315 ls [])) : W p l e room_1 s m #[Value.ref b] below meth c H locs 130 2967 Q (F0 m 466 ls []) := by
  obtain ⟨hx, hb, hml, hown, hts, hXs, hbl, hB, hK, hE, hL4⟩ := id C
  obtain ⟨hsz, hX, hY, hS, hL⟩ := hI
  obtain ⟨n, hR, hG⟩ := hL.2.2.2.2.2.1
  obtain ⟨hcx, hcy, hn8⟩ := hR.ge
  obtain ⟨t, ht4, htx, hty, hTE⟩ := hL.2.1
  obtain ⟨kt, hkt16, hktx, hkty, hktr⟩ := hL.2.2.2.2.1
  have hRo := hL.1.rok
  have hYo := hL.1.yok
  have hkk1 : ∀ j, j < n → ∃ k, 1 ≤ k ∧ k < 6 ∧ sK (y 5) j = nI k := fun j hj => (hG.2 j hj).1
  have hkk6 : ∀ j, j < n → ∃ k, k < 6 ∧ sK (y 5) j = nI k := fun j hj => by obtain ⟨k, k1, k2, k3⟩ := (hG.2 j hj).1; exact ⟨k, k2, k3⟩
  have hfl : ∀ j, j < n → sF (y 5) j 0 ≤ 9 := fun j hj => (hG.2 j hj).2.1
  obtain ⟨nk, hnk⟩ : ∃ nk : Nat → Nat, ∀ k, k < 2 → RR (nk k) x (45 + 10 * k) (y (6 + k)) ∧ RG (nk k) (y (6 + k)) := by
    obtain ⟨n0, h0⟩ := hL.2.2.2.2.2.2 0 (by decide)
    obtain ⟨n1, h1⟩ := hL.2.2.2.2.2.2 1 (by decide)
    refine ⟨fun k => if k = 0 then n0 else n1, fun k hk => ?_⟩
    have hk2 : k = 0 ∨ k = 1 := by omega
    rcases hk2 with rfl | rfl
    · exact h0
    · exact h1
  refine lv_aload_n hx hb dL_law_466 rfl (lv_at hl 2 rfl) ?_
  refine lv_aload_n hx hb dL_law_467 rfl (lv_at hl 3 rfl) ?_
  refine lv_iload_n hx hb dL_law_468 rfl (lv_at hl 0 rfl) ?_
  refine lv_iconst (v := 1) hx hb dL_law_469 (by decide) ?_
  refine lv_iadd hx hb dL_law_470 ?_
  refine l_sld (j := i + 1) hx hb hXs hbl hB hS (n_add (y := 1) (b := 1) rfl rfl) (by omega) hL4 dL_law_471 ?_
  refine lv_aload_n hx hb dL_law_472 rfl (lv_at hl 3 rfl) ?_
  refine lv_iload_n hx hb dL_law_473 rfl (lv_at hl 0 rfl) ?_
  refine lv_iconst (v := 2) hx hb dL_law_474 (by decide) ?_
  refine lv_iadd hx hb dL_law_475 ?_
  refine l_sld (j := i + 2) hx hb hXs hbl hB hS (n_add (y := 2) (b := 2) rfl rfl) (by omega) hL4 dL_law_476 ?_
  refine l_if (w := (wX G B tt)) (va_runV (As := [.int (xs (i + 1)), .int (xs (i + 2))]) (rest := []) ⟨hx, hb, hml, hown, hts⟩ (c_X7_face (l := l) (G := G) (B := B) (tt := tt) (hW := wX_ok G B tt) (x := x) (m := xs (i + 1)) (q := xs (i + 2)) (n := n) (nw := (y 5)) (hR := hR)) (cwV 2 hts gL_law_X7_face rfl rfl rfl (by decide +kernel) ⟨Nat.le_of_ble_eq_true rfl, Nat.le_of_ble_eq_true rfl⟩) (l_pv (w := wX G B tt) (a := 0) (wX_ok G B tt) hX hK hE (l_q hS hB) [.int (xs (i + 1)), .int (xs (i + 2))] (Nat.le_of_ble_eq_true rfl) (shX_mn (G := G) (B := B)) rfl) rfl rfl hl.1 rfl (lv_room (Nat.le_of_ble_eq_true rfl)) dL_law_477 ⟨Nat.le_of_ble_eq_true rfl, Nat.le_of_ble_eq_true rfl⟩) hS (fun q h => h.1) (fun r1 u1 H lo q1 hU hz hk hS => ?_)
  try dsimp only at q1
  have hY := hY.far (fun a ha => hk _ (by have ha9 : a < 13 := ha; show B + 117 + a < _; omega) (fun z => absurd z.2 (by show ¬ B + 117 + a < B + 117; omega)))
  have hX := hU
  have hsz := Nat.le_trans hsz hz
  refine lv_aload_n hx hb dL_law_480 rfl (lv_at hl 1 rfl) ?_
  refine lv_aload_n hx hb dL_law_481 rfl (lv_at hl 3 rfl) ?_
  refine lv_iload_n hx hb dL_law_482 rfl (lv_at hl 0 rfl) ?_
  refine lv_iconst (v := 1) hx hb dL_law_483 (by decide) ?_
  refine lv_iadd hx hb dL_law_484 ?_
  refine l_sld (j := i + 1) hx hb hXs hbl hB hS (n_add (y := 1) (b := 1) rfl rfl) (by omega) hL4 dL_law_485 ?_
  refine lv_aload_n hx hb dL_law_486 rfl (lv_at hl 3 rfl) ?_
  refine lv_iload_n hx hb dL_law_487 rfl (lv_at hl 0 rfl) ?_
  refine lv_iconst (v := 2) hx hb dL_law_488 (by decide) ?_
  refine lv_iadd hx hb dL_law_489 ?_
  refine l_sld (j := i + 2) hx hb hXs hbl hB hS (n_add (y := 2) (b := 2) rfl rfl) (by omega) hL4 dL_law_490 ?_
  refine l_if (w := (wM G (B + 117))) (va_runV (As := [.int (xs (i + 1)), .int (xs (i + 2))]) (rest := [.int (r1)]) ⟨hx, hb, hml, hown, hts⟩ (c_X8_face (l := l) (G := G) (B := B + 117) (hW := wM_ok G (B + 117)) (x := y) (m := xs (i + 1)) (q := xs (i + 2)) (n := n) (hN := hcy) (hn8 := hn8)) (cwV 2 hts gL_law_X8_face rfl rfl rfl (by decide +kernel) ⟨Nat.le_of_ble_eq_true rfl, Nat.le_of_ble_eq_true rfl⟩) (l_pv (w := wM G (B + 117)) (a := 0) (wM_ok G (B + 117)) hY hK trivial (l_q hS hB) [.int (xs (i + 1)), .int (xs (i + 2))] (Nat.le_of_ble_eq_true rfl) (shM_0 (G := G) (B := B + 117)) rfl) rfl rfl hl.1 rfl (lv_room (Nat.le_of_ble_eq_true rfl)) dL_law_491 ⟨Nat.le_of_ble_eq_true rfl, Nat.le_of_ble_eq_true rfl⟩) hS (fun q h => Nat.le_trans (Nat.le_add_right B 117) h.1) (fun r2 u2 H lo q2 hU hz hk hS => ?_)
  try dsimp only at q2
  have hX := hX.far (fun a ha => hk _ (by have ha9 : a < 117 := ha; show B + a < _; omega) (fun z => absurd z.1 (by have ha9 : a < 117 := ha; show ¬ B + 117 ≤ B + a; omega)))
  have hsz := Nat.le_trans hsz hz
  have e9 := q_face hL hR hG q1 q2
  refine lv_icmp_eq (tgt := 1315) hx hb dL_law_494 (by decide) (fun c9 => ?_) (fun c9 => absurd e9.1 c9)
  exact K _ _ _ _ ⟨hsz, hX, hU, hS, e9.2⟩
set_option maxHeartbeats 4000000 in
set_option maxRecDepth 100000 in
theorem lc_build {p : Program} {l : Launch} {e : Env} {s : State} {m : MethodId} {below : List Frame} {meth : Method} {c : Code} {b L : Nat} {xs : Nat → Int32} {G : GG} {B : Nat} {tt : Nat → Nat} {Q : State → Prop} {x y : Mem} {H : Heap} {locs : List Loc} {i : Nat} (C : LX p s m c b L xs G B tt) (hI : LI G B tt s x y H locs) (hi : i + 6 ≤ L) {ls : Array Slot} (hl : lv_has ls 4 [(3, .int (nI i)), (2, .ref (B + 117 + 0)), (1, .ref (B + 0)), (0, .ref b)]) (K : ∀ (x1 y1 : Mem) (H1 : Heap) (locs1 : List Loc), LI G B tt s x1 y1 H1 locs1 → W p l e room_1 s m #[Value.ref b] below meth c H1 locs1 130 2967 Q (F0 m 1315 ls [])) : W p l e room_1 s m #[Value.ref b] below meth c H locs 130 2967 Q (F0 m 499 ls []) := by
  obtain ⟨hx, hb, hml, hown, hts, hXs, hbl, hB, hK, hE, hL4⟩ := id C
  obtain ⟨hsz, hX, hY, hS, hL⟩ := hI
  obtain ⟨n, hR, hG⟩ := hL.2.2.2.2.2.1
  obtain ⟨hcx, hcy, hn8⟩ := hR.ge
  obtain ⟨t, ht4, htx, hty, hTE⟩ := hL.2.1
  obtain ⟨kt, hkt16, hktx, hkty, hktr⟩ := hL.2.2.2.2.1
  have hRo := hL.1.rok
  have hYo := hL.1.yok
  have hkk1 : ∀ j, j < n → ∃ k, 1 ≤ k ∧ k < 6 ∧ sK (y 5) j = nI k := fun j hj => (hG.2 j hj).1
  have hkk6 : ∀ j, j < n → ∃ k, k < 6 ∧ sK (y 5) j = nI k := fun j hj => by obtain ⟨k, k1, k2, k3⟩ := (hG.2 j hj).1; exact ⟨k, k2, k3⟩
  have hfl : ∀ j, j < n → sF (y 5) j 0 ≤ 9 := fun j hj => (hG.2 j hj).2.1
  obtain ⟨nk, hnk⟩ : ∃ nk : Nat → Nat, ∀ k, k < 2 → RR (nk k) x (45 + 10 * k) (y (6 + k)) ∧ RG (nk k) (y (6 + k)) := by
    obtain ⟨n0, h0⟩ := hL.2.2.2.2.2.2 0 (by decide)
    obtain ⟨n1, h1⟩ := hL.2.2.2.2.2.2 1 (by decide)
    refine ⟨fun k => if k = 0 then n0 else n1, fun k hk => ?_⟩
    have hk2 : k = 0 ∨ k = 1 := by omega
    rcases hk2 with rfl | rfl
    · exact h0
    · exact h1
  refine lv_aload_n hx hb dL_law_499 rfl (lv_at hl 2 rfl) ?_
  refine lv_aload_n hx hb dL_law_500 rfl (lv_at hl 3 rfl) ?_
  refine lv_iload_n hx hb dL_law_501 rfl (lv_at hl 0 rfl) ?_
  refine lv_iconst (v := 1) hx hb dL_law_502 (by decide) ?_
  refine lv_iadd hx hb dL_law_503 ?_
  refine l_sld (j := i + 1) hx hb hXs hbl hB hS (n_add (y := 1) (b := 1) rfl rfl) (by omega) hL4 dL_law_504 ?_
  refine l_if (w := (wX G B tt)) (va_runV (As := [.int (xs (i + 1))]) (rest := []) ⟨hx, hb, hml, hown, hts⟩ (c_X7_build (l := l) (G := G) (B := B) (tt := tt) (hW := wX_ok G B tt) (x := x) (m := xs (i + 1)) (n := n) (nw := (y 5)) (hR := hR)) (cwV 1 hts gL_law_X7_build rfl rfl rfl (by decide +kernel) ⟨Nat.le_of_ble_eq_true rfl, Nat.le_of_ble_eq_true rfl⟩) (l_pv (w := wX G B tt) (a := 0) (wX_ok G B tt) hX hK hE (l_q hS hB) [.int (xs (i + 1))] (Nat.le_of_ble_eq_true rfl) (shX_mn (G := G) (B := B)) rfl) rfl rfl hl.1 rfl (lv_room (Nat.le_of_ble_eq_true rfl)) dL_law_505 ⟨Nat.le_of_ble_eq_true rfl, Nat.le_of_ble_eq_true rfl⟩) hS (fun q h => h.1) (fun r1 u1 H lo q1 hU hz hk hS => ?_)
  try dsimp only at q1
  have hY := hY.far (fun a ha => hk _ (by have ha9 : a < 13 := ha; show B + 117 + a < _; omega) (fun z => absurd z.2 (by show ¬ B + 117 + a < B + 117; omega)))
  have hX := hU
  have hsz := Nat.le_trans hsz hz
  refine lv_aload_n hx hb dL_law_508 rfl (lv_at hl 1 rfl) ?_
  refine lv_aload_n hx hb dL_law_509 rfl (lv_at hl 3 rfl) ?_
  refine lv_iload_n hx hb dL_law_510 rfl (lv_at hl 0 rfl) ?_
  refine lv_iconst (v := 1) hx hb dL_law_511 (by decide) ?_
  refine lv_iadd hx hb dL_law_512 ?_
  refine l_sld (j := i + 1) hx hb hXs hbl hB hS (n_add (y := 1) (b := 1) rfl rfl) (by omega) hL4 dL_law_513 ?_
  refine l_if (w := (wM G (B + 117))) (va_runV (As := [.int (xs (i + 1))]) (rest := [.int (r1)]) ⟨hx, hb, hml, hown, hts⟩ (c_X8_build (l := l) (G := G) (B := B + 117) (hW := wM_ok G (B + 117)) (x := y) (m := xs (i + 1)) (n := n) (hN := hcy) (hn8 := hn8)) (cwV 1 hts gL_law_X8_build rfl rfl rfl (by decide +kernel) ⟨Nat.le_of_ble_eq_true rfl, Nat.le_of_ble_eq_true rfl⟩) (l_pv (w := wM G (B + 117)) (a := 0) (wM_ok G (B + 117)) hY hK trivial (l_q hS hB) [.int (xs (i + 1))] (Nat.le_of_ble_eq_true rfl) (shM_0 (G := G) (B := B + 117)) rfl) rfl rfl hl.1 rfl (lv_room (Nat.le_of_ble_eq_true rfl)) dL_law_514 ⟨Nat.le_of_ble_eq_true rfl, Nat.le_of_ble_eq_true rfl⟩) hS (fun q h => Nat.le_trans (Nat.le_add_right B 117) h.1) (fun r2 u2 H lo q2 hU hz hk hS => ?_)
  try dsimp only at q2
  have hX := hX.far (fun a ha => hk _ (by have ha9 : a < 117 := ha; show B + a < _; omega) (fun z => absurd z.1 (by have ha9 : a < 117 := ha; show ¬ B + 117 ≤ B + a; omega)))
  have hsz := Nat.le_trans hsz hz
  have e9 := q_build hL hR hG q1 q2
  refine lv_icmp_eq (tgt := 1315) hx hb dL_law_517 (by decide) (fun c9 => ?_) (fun c9 => absurd e9.1 c9)
  exact K _ _ _ _ ⟨hsz, hX, hU, hS, e9.2⟩
set_option maxHeartbeats 4000000 in
set_option maxRecDepth 100000 in
theorem lc_bring {p : Program} {l : Launch} {e : Env} {s : State} {m : MethodId} {below : List Frame} {meth : Method} {c : Code} {b L : Nat} {xs : Nat → Int32} {G : GG} {B : Nat} {tt : Nat → Nat} {Q : State → Prop} {x y : Mem} {H : Heap} {locs : List Loc} {i : Nat} (C : LX p s m c b L xs G B tt) (hI : LI G B tt s x y H locs) (hi : i + 6 ≤ L) {ls : Array Slot} (hl : lv_has ls 4 [(3, .int (nI i)), (2, .ref (B + 117 + 0)), (1, .ref (B + 0)), (0, .ref b)]) (K : ∀ (x1 y1 : Mem) (H1 : Heap) (locs1 : List Loc), LI G B tt s x1 y1 H1 locs1 → W p l e room_1 s m #[Value.ref b] below meth c H1 locs1 130 2967 Q (F0 m 1315 ls [])) : W p l e room_1 s m #[Value.ref b] below meth c H locs 130 2967 Q (F0 m 522 ls []) := by
  obtain ⟨hx, hb, hml, hown, hts, hXs, hbl, hB, hK, hE, hL4⟩ := id C
  obtain ⟨hsz, hX, hY, hS, hL⟩ := hI
  obtain ⟨n, hR, hG⟩ := hL.2.2.2.2.2.1
  obtain ⟨hcx, hcy, hn8⟩ := hR.ge
  obtain ⟨t, ht4, htx, hty, hTE⟩ := hL.2.1
  obtain ⟨kt, hkt16, hktx, hkty, hktr⟩ := hL.2.2.2.2.1
  have hRo := hL.1.rok
  have hYo := hL.1.yok
  have hkk1 : ∀ j, j < n → ∃ k, 1 ≤ k ∧ k < 6 ∧ sK (y 5) j = nI k := fun j hj => (hG.2 j hj).1
  have hkk6 : ∀ j, j < n → ∃ k, k < 6 ∧ sK (y 5) j = nI k := fun j hj => by obtain ⟨k, k1, k2, k3⟩ := (hG.2 j hj).1; exact ⟨k, k2, k3⟩
  have hfl : ∀ j, j < n → sF (y 5) j 0 ≤ 9 := fun j hj => (hG.2 j hj).2.1
  obtain ⟨nk, hnk⟩ : ∃ nk : Nat → Nat, ∀ k, k < 2 → RR (nk k) x (45 + 10 * k) (y (6 + k)) ∧ RG (nk k) (y (6 + k)) := by
    obtain ⟨n0, h0⟩ := hL.2.2.2.2.2.2 0 (by decide)
    obtain ⟨n1, h1⟩ := hL.2.2.2.2.2.2 1 (by decide)
    refine ⟨fun k => if k = 0 then n0 else n1, fun k hk => ?_⟩
    have hk2 : k = 0 ∨ k = 1 := by omega
    rcases hk2 with rfl | rfl
    · exact h0
    · exact h1
  refine lv_aload_n hx hb dL_law_522 rfl (lv_at hl 2 rfl) ?_
  refine lv_aload_n hx hb dL_law_523 rfl (lv_at hl 3 rfl) ?_
  refine lv_iload_n hx hb dL_law_524 rfl (lv_at hl 0 rfl) ?_
  refine lv_iconst (v := 1) hx hb dL_law_525 (by decide) ?_
  refine lv_iadd hx hb dL_law_526 ?_
  refine l_sld (j := i + 1) hx hb hXs hbl hB hS (n_add (y := 1) (b := 1) rfl rfl) (by omega) hL4 dL_law_527 ?_
  refine lv_aload_n hx hb dL_law_528 rfl (lv_at hl 3 rfl) ?_
  refine lv_iload_n hx hb dL_law_529 rfl (lv_at hl 0 rfl) ?_
  refine lv_iconst (v := 2) hx hb dL_law_530 (by decide) ?_
  refine lv_iadd hx hb dL_law_531 ?_
  refine l_sld (j := i + 2) hx hb hXs hbl hB hS (n_add (y := 2) (b := 2) rfl rfl) (by omega) hL4 dL_law_532 ?_
  refine l_if (w := (wX G B tt)) (va_runV (As := [.int (xs (i + 1)), .int (xs (i + 2))]) (rest := []) ⟨hx, hb, hml, hown, hts⟩ (c_X7_bring (l := l) (G := G) (B := B) (tt := tt) (hW := wX_ok G B tt) (x := x) (m := xs (i + 1)) (k := xs (i + 2)) (n := n) (nw := (y 5)) (hR := hR)) (cwV 2 hts gL_law_X7_bring rfl rfl rfl (by decide +kernel) ⟨Nat.le_of_ble_eq_true rfl, Nat.le_of_ble_eq_true rfl⟩) (l_pv (w := wX G B tt) (a := 0) (wX_ok G B tt) hX hK hE (l_q hS hB) [.int (xs (i + 1)), .int (xs (i + 2))] (Nat.le_of_ble_eq_true rfl) (shX_mn (G := G) (B := B)) rfl) rfl rfl hl.1 rfl (lv_room (Nat.le_of_ble_eq_true rfl)) dL_law_533 ⟨Nat.le_of_ble_eq_true rfl, Nat.le_of_ble_eq_true rfl⟩) hS (fun q h => h.1) (fun r1 u1 H lo q1 hU hz hk hS => ?_)
  try dsimp only at q1
  have hY := hY.far (fun a ha => hk _ (by have ha9 : a < 13 := ha; show B + 117 + a < _; omega) (fun z => absurd z.2 (by show ¬ B + 117 + a < B + 117; omega)))
  have hX := hU
  have hsz := Nat.le_trans hsz hz
  refine lv_aload_n hx hb dL_law_536 rfl (lv_at hl 1 rfl) ?_
  refine lv_aload_n hx hb dL_law_537 rfl (lv_at hl 3 rfl) ?_
  refine lv_iload_n hx hb dL_law_538 rfl (lv_at hl 0 rfl) ?_
  refine lv_iconst (v := 1) hx hb dL_law_539 (by decide) ?_
  refine lv_iadd hx hb dL_law_540 ?_
  refine l_sld (j := i + 1) hx hb hXs hbl hB hS (n_add (y := 1) (b := 1) rfl rfl) (by omega) hL4 dL_law_541 ?_
  refine lv_aload_n hx hb dL_law_542 rfl (lv_at hl 3 rfl) ?_
  refine lv_iload_n hx hb dL_law_543 rfl (lv_at hl 0 rfl) ?_
  refine lv_iconst (v := 2) hx hb dL_law_544 (by decide) ?_
  refine lv_iadd hx hb dL_law_545 ?_
  refine l_sld (j := i + 2) hx hb hXs hbl hB hS (n_add (y := 2) (b := 2) rfl rfl) (by omega) hL4 dL_law_546 ?_
  refine l_if (w := (wM G (B + 117))) (va_runV (As := [.int (xs (i + 1)), .int (xs (i + 2))]) (rest := [.int (r1)]) ⟨hx, hb, hml, hown, hts⟩ (c_X8_bring (l := l) (G := G) (B := B + 117) (hW := wM_ok G (B + 117)) (x := y) (m := xs (i + 1)) (k := xs (i + 2)) (n := n) (hN := hcy) (hn8 := hn8)) (cwV 2 hts gL_law_X8_bring rfl rfl rfl (by decide +kernel) ⟨Nat.le_of_ble_eq_true rfl, Nat.le_of_ble_eq_true rfl⟩) (l_pv (w := wM G (B + 117)) (a := 0) (wM_ok G (B + 117)) hY hK trivial (l_q hS hB) [.int (xs (i + 1)), .int (xs (i + 2))] (Nat.le_of_ble_eq_true rfl) (shM_0 (G := G) (B := B + 117)) rfl) rfl rfl hl.1 rfl (lv_room (Nat.le_of_ble_eq_true rfl)) dL_law_547 ⟨Nat.le_of_ble_eq_true rfl, Nat.le_of_ble_eq_true rfl⟩) hS (fun q h => Nat.le_trans (Nat.le_add_right B 117) h.1) (fun r2 u2 H lo q2 hU hz hk hS => ?_)
  try dsimp only at q2
  have hX := hX.far (fun a ha => hk _ (by have ha9 : a < 117 := ha; show B + a < _; omega) (fun z => absurd z.1 (by have ha9 : a < 117 := ha; show ¬ B + 117 ≤ B + a; omega)))
  have hsz := Nat.le_trans hsz hz
  have e9 := q_bring hL hR hG q1 q2
  refine lv_icmp_eq (tgt := 1315) hx hb dL_law_550 (by decide) (fun c9 => ?_) (fun c9 => absurd e9.1 c9)
  exact K _ _ _ _ ⟨hsz, hX, hU, hS, e9.2⟩
set_option maxHeartbeats 4000000 in
set_option maxRecDepth 100000 in
theorem lc_hour {p : Program} {l : Launch} {e : Env} {s : State} {m : MethodId} {below : List Frame} {meth : Method} {c : Code} {b L : Nat} {xs : Nat → Int32} {G : GG} {B : Nat} {tt : Nat → Nat} {Q : State → Prop} {x y : Mem} {H : Heap} {locs : List Loc} {i : Nat} (C : LX p s m c b L xs G B tt) (hI : LI G B tt s x y H locs) (hi : i + 6 ≤ L) {ls : Array Slot} (hl : lv_has ls 4 [(3, .int (nI i)), (2, .ref (B + 117 + 0)), (1, .ref (B + 0)), (0, .ref b)]) (K : ∀ (x1 y1 : Mem) (H1 : Heap) (locs1 : List Loc), LI G B tt s x1 y1 H1 locs1 → W p l e room_1 s m #[Value.ref b] below meth c H1 locs1 130 2967 Q (F0 m 1315 ls [])) : W p l e room_1 s m #[Value.ref b] below meth c H locs 130 2967 Q (F0 m 555 ls []) := by
  obtain ⟨hx, hb, hml, hown, hts, hXs, hbl, hB, hK, hE, hL4⟩ := id C
  obtain ⟨hsz, hX, hY, hS, hL⟩ := hI
  obtain ⟨n, hR, hG⟩ := hL.2.2.2.2.2.1
  obtain ⟨hcx, hcy, hn8⟩ := hR.ge
  obtain ⟨t, ht4, htx, hty, hTE⟩ := hL.2.1
  obtain ⟨kt, hkt16, hktx, hkty, hktr⟩ := hL.2.2.2.2.1
  have hRo := hL.1.rok
  have hYo := hL.1.yok
  have hkk1 : ∀ j, j < n → ∃ k, 1 ≤ k ∧ k < 6 ∧ sK (y 5) j = nI k := fun j hj => (hG.2 j hj).1
  have hkk6 : ∀ j, j < n → ∃ k, k < 6 ∧ sK (y 5) j = nI k := fun j hj => by obtain ⟨k, k1, k2, k3⟩ := (hG.2 j hj).1; exact ⟨k, k2, k3⟩
  have hfl : ∀ j, j < n → sF (y 5) j 0 ≤ 9 := fun j hj => (hG.2 j hj).2.1
  obtain ⟨nk, hnk⟩ : ∃ nk : Nat → Nat, ∀ k, k < 2 → RR (nk k) x (45 + 10 * k) (y (6 + k)) ∧ RG (nk k) (y (6 + k)) := by
    obtain ⟨n0, h0⟩ := hL.2.2.2.2.2.2 0 (by decide)
    obtain ⟨n1, h1⟩ := hL.2.2.2.2.2.2 1 (by decide)
    refine ⟨fun k => if k = 0 then n0 else n1, fun k hk => ?_⟩
    have hk2 : k = 0 ∨ k = 1 := by omega
    rcases hk2 with rfl | rfl
    · exact h0
    · exact h1
  refine lv_aload_n hx hb dL_law_555 rfl (lv_at hl 2 rfl) ?_
  refine lv_aload_n hx hb dL_law_556 rfl (lv_at hl 3 rfl) ?_
  refine lv_iload_n hx hb dL_law_557 rfl (lv_at hl 0 rfl) ?_
  refine lv_iconst (v := 1) hx hb dL_law_558 (by decide) ?_
  refine lv_iadd hx hb dL_law_559 ?_
  refine l_sld (j := i + 1) hx hb hXs hbl hB hS (n_add (y := 1) (b := 1) rfl rfl) (by omega) hL4 dL_law_560 ?_
  refine lv_aload_n hx hb dL_law_561 rfl (lv_at hl 3 rfl) ?_
  refine lv_iload_n hx hb dL_law_562 rfl (lv_at hl 0 rfl) ?_
  refine lv_iconst (v := 2) hx hb dL_law_563 (by decide) ?_
  refine lv_iadd hx hb dL_law_564 ?_
  refine l_sld (j := i + 2) hx hb hXs hbl hB hS (n_add (y := 2) (b := 2) rfl rfl) (by omega) hL4 dL_law_565 ?_
  refine l_if (w := (wX G B tt)) (va_runV (As := [.int (xs (i + 1)), .int (xs (i + 2))]) (rest := []) ⟨hx, hb, hml, hown, hts⟩ (c_X7_hour (l := l) (G := G) (B := B) (tt := tt) (hW := wX_ok G B tt) (x := x) (q := xs (i + 1)) (w := xs (i + 2)) (n := n) (nw := (y 5)) (hR := hR)) (cwV 2 hts gL_law_X7_hour rfl rfl rfl (by decide +kernel) ⟨Nat.le_of_ble_eq_true rfl, Nat.le_of_ble_eq_true rfl⟩) (l_pv (w := wX G B tt) (a := 0) (wX_ok G B tt) hX hK hE (l_q hS hB) [.int (xs (i + 1)), .int (xs (i + 2))] (Nat.le_of_ble_eq_true rfl) (shX_mn (G := G) (B := B)) rfl) rfl rfl hl.1 rfl (lv_room (Nat.le_of_ble_eq_true rfl)) dL_law_566 ⟨Nat.le_of_ble_eq_true rfl, Nat.le_of_ble_eq_true rfl⟩) hS (fun q h => h.1) (fun r1 u1 H lo q1 hU hz hk hS => ?_)
  try dsimp only at q1
  have hY := hY.far (fun a ha => hk _ (by have ha9 : a < 13 := ha; show B + 117 + a < _; omega) (fun z => absurd z.2 (by show ¬ B + 117 + a < B + 117; omega)))
  have hX := hU
  have hsz := Nat.le_trans hsz hz
  refine lv_aload_n hx hb dL_law_569 rfl (lv_at hl 1 rfl) ?_
  refine lv_aload_n hx hb dL_law_570 rfl (lv_at hl 3 rfl) ?_
  refine lv_iload_n hx hb dL_law_571 rfl (lv_at hl 0 rfl) ?_
  refine lv_iconst (v := 1) hx hb dL_law_572 (by decide) ?_
  refine lv_iadd hx hb dL_law_573 ?_
  refine l_sld (j := i + 1) hx hb hXs hbl hB hS (n_add (y := 1) (b := 1) rfl rfl) (by omega) hL4 dL_law_574 ?_
  refine lv_aload_n hx hb dL_law_575 rfl (lv_at hl 3 rfl) ?_
  refine lv_iload_n hx hb dL_law_576 rfl (lv_at hl 0 rfl) ?_
  refine lv_iconst (v := 2) hx hb dL_law_577 (by decide) ?_
  refine lv_iadd hx hb dL_law_578 ?_
  refine l_sld (j := i + 2) hx hb hXs hbl hB hS (n_add (y := 2) (b := 2) rfl rfl) (by omega) hL4 dL_law_579 ?_
  refine l_if (w := (wM G (B + 117))) (va_runV (As := [.int (xs (i + 1)), .int (xs (i + 2))]) (rest := [.int (r1)]) ⟨hx, hb, hml, hown, hts⟩ (c_X8_hour (l := l) (G := G) (B := B + 117) (hW := wM_ok G (B + 117)) (x := y) (q := xs (i + 1)) (w := xs (i + 2)) (n := n) (hN := hcy) (hn8 := hn8)) (cwV 2 hts gL_law_X8_hour rfl rfl rfl (by decide +kernel) ⟨Nat.le_of_ble_eq_true rfl, Nat.le_of_ble_eq_true rfl⟩) (l_pv (w := wM G (B + 117)) (a := 0) (wM_ok G (B + 117)) hY hK trivial (l_q hS hB) [.int (xs (i + 1)), .int (xs (i + 2))] (Nat.le_of_ble_eq_true rfl) (shM_0 (G := G) (B := B + 117)) rfl) rfl rfl hl.1 rfl (lv_room (Nat.le_of_ble_eq_true rfl)) dL_law_580 ⟨Nat.le_of_ble_eq_true rfl, Nat.le_of_ble_eq_true rfl⟩) hS (fun q h => Nat.le_trans (Nat.le_add_right B 117) h.1) (fun r2 u2 H lo q2 hU hz hk hS => ?_)
  try dsimp only at q2
  have hX := hX.far (fun a ha => hk _ (by have ha9 : a < 117 := ha; show B + a < _; omega) (fun z => absurd z.1 (by have ha9 : a < 117 := ha; show ¬ B + 117 ≤ B + a; omega)))
  have hsz := Nat.le_trans hsz hz
  have e9 := q_hour hL hR hG q1 q2
  refine lv_icmp_eq (tgt := 1315) hx hb dL_law_583 (by decide) (fun c9 => ?_) (fun c9 => absurd e9.1 c9)
  exact K _ _ _ _ ⟨hsz, hX, hU, hS, e9.2⟩
set_option maxHeartbeats 4000000 in
set_option maxRecDepth 100000 in
theorem lc_hours {p : Program} {l : Launch} {e : Env} {s : State} {m : MethodId} {below : List Frame} {meth : Method} {c : Code} {b L : Nat} {xs : Nat → Int32} {G : GG} {B : Nat} {tt : Nat → Nat} {Q : State → Prop} {x y : Mem} {H : Heap} {locs : List Loc} {i : Nat} (C : LX p s m c b L xs G B tt) (hI : LI G B tt s x y H locs) (hi : i + 6 ≤ L) {ls : Array Slot} (hl : lv_has ls 4 [(3, .int (nI i)), (2, .ref (B + 117 + 0)), (1, .ref (B + 0)), (0, .ref b)]) (K : ∀ (x1 y1 : Mem) (H1 : Heap) (locs1 : List Loc), LI G B tt s x1 y1 H1 locs1 → W p l e room_1 s m #[Value.ref b] below meth c H1 locs1 130 2967 Q (F0 m 1315 ls [])) : W p l e room_1 s m #[Value.ref b] below meth c H locs 130 2967 Q (F0 m 588 ls []) := by
  obtain ⟨hx, hb, hml, hown, hts, hXs, hbl, hB, hK, hE, hL4⟩ := id C
  obtain ⟨hsz, hX, hY, hS, hL⟩ := hI
  obtain ⟨n, hR, hG⟩ := hL.2.2.2.2.2.1
  obtain ⟨hcx, hcy, hn8⟩ := hR.ge
  obtain ⟨t, ht4, htx, hty, hTE⟩ := hL.2.1
  obtain ⟨kt, hkt16, hktx, hkty, hktr⟩ := hL.2.2.2.2.1
  have hRo := hL.1.rok
  have hYo := hL.1.yok
  have hkk1 : ∀ j, j < n → ∃ k, 1 ≤ k ∧ k < 6 ∧ sK (y 5) j = nI k := fun j hj => (hG.2 j hj).1
  have hkk6 : ∀ j, j < n → ∃ k, k < 6 ∧ sK (y 5) j = nI k := fun j hj => by obtain ⟨k, k1, k2, k3⟩ := (hG.2 j hj).1; exact ⟨k, k2, k3⟩
  have hfl : ∀ j, j < n → sF (y 5) j 0 ≤ 9 := fun j hj => (hG.2 j hj).2.1
  obtain ⟨nk, hnk⟩ : ∃ nk : Nat → Nat, ∀ k, k < 2 → RR (nk k) x (45 + 10 * k) (y (6 + k)) ∧ RG (nk k) (y (6 + k)) := by
    obtain ⟨n0, h0⟩ := hL.2.2.2.2.2.2 0 (by decide)
    obtain ⟨n1, h1⟩ := hL.2.2.2.2.2.2 1 (by decide)
    refine ⟨fun k => if k = 0 then n0 else n1, fun k hk => ?_⟩
    have hk2 : k = 0 ∨ k = 1 := by omega
    rcases hk2 with rfl | rfl
    · exact h0
    · exact h1
  refine lv_aload_n hx hb dL_law_588 rfl (lv_at hl 2 rfl) ?_
  refine lv_aload_n hx hb dL_law_589 rfl (lv_at hl 3 rfl) ?_
  refine lv_iload_n hx hb dL_law_590 rfl (lv_at hl 0 rfl) ?_
  refine lv_iconst (v := 1) hx hb dL_law_591 (by decide) ?_
  refine lv_iadd hx hb dL_law_592 ?_
  refine l_sld (j := i + 1) hx hb hXs hbl hB hS (n_add (y := 1) (b := 1) rfl rfl) (by omega) hL4 dL_law_593 ?_
  refine lv_aload_n hx hb dL_law_594 rfl (lv_at hl 3 rfl) ?_
  refine lv_iload_n hx hb dL_law_595 rfl (lv_at hl 0 rfl) ?_
  refine lv_iconst (v := 2) hx hb dL_law_596 (by decide) ?_
  refine lv_iadd hx hb dL_law_597 ?_
  refine l_sld (j := i + 2) hx hb hXs hbl hB hS (n_add (y := 2) (b := 2) rfl rfl) (by omega) hL4 dL_law_598 ?_
  refine lv_aload_n hx hb dL_law_599 rfl (lv_at hl 3 rfl) ?_
  refine lv_iload_n hx hb dL_law_600 rfl (lv_at hl 0 rfl) ?_
  refine lv_iconst (v := 3) hx hb dL_law_601 (by decide) ?_
  refine lv_iadd hx hb dL_law_602 ?_
  refine l_sld (j := i + 3) hx hb hXs hbl hB hS (n_add (y := 3) (b := 3) rfl rfl) (by omega) hL4 dL_law_603 ?_
  refine l_if (w := (wX G B tt)) (va_runV (As := [.int (xs (i + 1)), .int (xs (i + 2)), .int (xs (i + 3))]) (rest := []) ⟨hx, hb, hml, hown, hts⟩ (c_X7_hours (l := l) (G := G) (B := B) (tt := tt) (hW := wX_ok G B tt) (x := x) (a := xs (i + 1)) (i := xs (i + 2)) (nh := xs (i + 3)) (n := n) (nw := (y 5)) (hR := hR) (hRo := hRo)) (cwV 3 hts gL_law_X7_hours rfl rfl rfl (by decide +kernel) ⟨Nat.le_of_ble_eq_true rfl, Nat.le_of_ble_eq_true rfl⟩) (l_pv (w := wX G B tt) (a := 0) (wX_ok G B tt) hX hK hE (l_q hS hB) [.int (xs (i + 1)), .int (xs (i + 2)), .int (xs (i + 3))] (Nat.le_of_ble_eq_true rfl) (shX_mn (G := G) (B := B)) rfl) rfl rfl hl.1 rfl (lv_room (Nat.le_of_ble_eq_true rfl)) dL_law_604 ⟨Nat.le_of_ble_eq_true rfl, Nat.le_of_ble_eq_true rfl⟩) hS (fun q h => h.1) (fun r1 u1 H lo q1 hU hz hk hS => ?_)
  try dsimp only at q1
  have hY := hY.far (fun a ha => hk _ (by have ha9 : a < 13 := ha; show B + 117 + a < _; omega) (fun z => absurd z.2 (by show ¬ B + 117 + a < B + 117; omega)))
  have hX := hU
  have hsz := Nat.le_trans hsz hz
  refine lv_aload_n hx hb dL_law_607 rfl (lv_at hl 1 rfl) ?_
  refine lv_aload_n hx hb dL_law_608 rfl (lv_at hl 3 rfl) ?_
  refine lv_iload_n hx hb dL_law_609 rfl (lv_at hl 0 rfl) ?_
  refine lv_iconst (v := 1) hx hb dL_law_610 (by decide) ?_
  refine lv_iadd hx hb dL_law_611 ?_
  refine l_sld (j := i + 1) hx hb hXs hbl hB hS (n_add (y := 1) (b := 1) rfl rfl) (by omega) hL4 dL_law_612 ?_
  refine lv_aload_n hx hb dL_law_613 rfl (lv_at hl 3 rfl) ?_
  refine lv_iload_n hx hb dL_law_614 rfl (lv_at hl 0 rfl) ?_
  refine lv_iconst (v := 2) hx hb dL_law_615 (by decide) ?_
  refine lv_iadd hx hb dL_law_616 ?_
  refine l_sld (j := i + 2) hx hb hXs hbl hB hS (n_add (y := 2) (b := 2) rfl rfl) (by omega) hL4 dL_law_617 ?_
  refine lv_aload_n hx hb dL_law_618 rfl (lv_at hl 3 rfl) ?_
  refine lv_iload_n hx hb dL_law_619 rfl (lv_at hl 0 rfl) ?_
  refine lv_iconst (v := 3) hx hb dL_law_620 (by decide) ?_
  refine lv_iadd hx hb dL_law_621 ?_
  refine l_sld (j := i + 3) hx hb hXs hbl hB hS (n_add (y := 3) (b := 3) rfl rfl) (by omega) hL4 dL_law_622 ?_
  refine l_if (w := (wM G (B + 117))) (va_runV (As := [.int (xs (i + 1)), .int (xs (i + 2)), .int (xs (i + 3))]) (rest := [.int (r1)]) ⟨hx, hb, hml, hown, hts⟩ (c_X8_hours (l := l) (G := G) (B := B + 117) (hW := wM_ok G (B + 117)) (x := y) (a := xs (i + 1)) (i := xs (i + 2)) (nh := xs (i + 3)) (n := n) (hN := hcy) (hn8 := hn8) (hY := hYo)) (cwV 3 hts gL_law_X8_hours rfl rfl rfl (by decide +kernel) ⟨Nat.le_of_ble_eq_true rfl, Nat.le_of_ble_eq_true rfl⟩) (l_pv (w := wM G (B + 117)) (a := 0) (wM_ok G (B + 117)) hY hK trivial (l_q hS hB) [.int (xs (i + 1)), .int (xs (i + 2)), .int (xs (i + 3))] (Nat.le_of_ble_eq_true rfl) (shM_0 (G := G) (B := B + 117)) rfl) rfl rfl hl.1 rfl (lv_room (Nat.le_of_ble_eq_true rfl)) dL_law_623 ⟨Nat.le_of_ble_eq_true rfl, Nat.le_of_ble_eq_true rfl⟩) hS (fun q h => Nat.le_trans (Nat.le_add_right B 117) h.1) (fun r2 u2 H lo q2 hU hz hk hS => ?_)
  try dsimp only at q2
  have hX := hX.far (fun a ha => hk _ (by have ha9 : a < 117 := ha; show B + a < _; omega) (fun z => absurd z.1 (by have ha9 : a < 117 := ha; show ¬ B + 117 ≤ B + a; omega)))
  have hsz := Nat.le_trans hsz hz
  have e9 := q_hours hL hR hG q1 q2
  refine lv_icmp_eq (tgt := 1315) hx hb dL_law_626 (by decide) (fun c9 => ?_) (fun c9 => absurd e9.1 c9)
  exact K _ _ _ _ ⟨hsz, hX, hU, hS, e9.2⟩
set_option maxHeartbeats 4000000 in
set_option maxRecDepth 100000 in
theorem lc_mill {p : Program} {l : Launch} {e : Env} {s : State} {m : MethodId} {below : List Frame} {meth : Method} {c : Code} {b L : Nat} {xs : Nat → Int32} {G : GG} {B : Nat} {tt : Nat → Nat} {Q : State → Prop} {x y : Mem} {H : Heap} {locs : List Loc} {i : Nat} (C : LX p s m c b L xs G B tt) (hI : LI G B tt s x y H locs) (hi : i + 6 ≤ L) {ls : Array Slot} (hl : lv_has ls 4 [(3, .int (nI i)), (2, .ref (B + 117 + 0)), (1, .ref (B + 0)), (0, .ref b)]) (K : ∀ (x1 y1 : Mem) (H1 : Heap) (locs1 : List Loc), LI G B tt s x1 y1 H1 locs1 → W p l e room_1 s m #[Value.ref b] below meth c H1 locs1 130 2967 Q (F0 m 1315 ls [])) : W p l e room_1 s m #[Value.ref b] below meth c H locs 130 2967 Q (F0 m 631 ls []) := by
  obtain ⟨hx, hb, hml, hown, hts, hXs, hbl, hB, hK, hE, hL4⟩ := id C
  obtain ⟨hsz, hX, hY, hS, hL⟩ := hI
  obtain ⟨n, hR, hG⟩ := hL.2.2.2.2.2.1
  obtain ⟨hcx, hcy, hn8⟩ := hR.ge
  obtain ⟨t, ht4, htx, hty, hTE⟩ := hL.2.1
  obtain ⟨kt, hkt16, hktx, hkty, hktr⟩ := hL.2.2.2.2.1
  have hRo := hL.1.rok
  have hYo := hL.1.yok
  have hkk1 : ∀ j, j < n → ∃ k, 1 ≤ k ∧ k < 6 ∧ sK (y 5) j = nI k := fun j hj => (hG.2 j hj).1
  have hkk6 : ∀ j, j < n → ∃ k, k < 6 ∧ sK (y 5) j = nI k := fun j hj => by obtain ⟨k, k1, k2, k3⟩ := (hG.2 j hj).1; exact ⟨k, k2, k3⟩
  have hfl : ∀ j, j < n → sF (y 5) j 0 ≤ 9 := fun j hj => (hG.2 j hj).2.1
  obtain ⟨nk, hnk⟩ : ∃ nk : Nat → Nat, ∀ k, k < 2 → RR (nk k) x (45 + 10 * k) (y (6 + k)) ∧ RG (nk k) (y (6 + k)) := by
    obtain ⟨n0, h0⟩ := hL.2.2.2.2.2.2 0 (by decide)
    obtain ⟨n1, h1⟩ := hL.2.2.2.2.2.2 1 (by decide)
    refine ⟨fun k => if k = 0 then n0 else n1, fun k hk => ?_⟩
    have hk2 : k = 0 ∨ k = 1 := by omega
    rcases hk2 with rfl | rfl
    · exact h0
    · exact h1
  refine lv_aload_n hx hb dL_law_631 rfl (lv_at hl 2 rfl) ?_
  refine lv_aload_n hx hb dL_law_632 rfl (lv_at hl 3 rfl) ?_
  refine lv_iload_n hx hb dL_law_633 rfl (lv_at hl 0 rfl) ?_
  refine lv_iconst (v := 1) hx hb dL_law_634 (by decide) ?_
  refine lv_iadd hx hb dL_law_635 ?_
  refine l_sld (j := i + 1) hx hb hXs hbl hB hS (n_add (y := 1) (b := 1) rfl rfl) (by omega) hL4 dL_law_636 ?_
  refine lv_aload_n hx hb dL_law_637 rfl (lv_at hl 3 rfl) ?_
  refine lv_iload_n hx hb dL_law_638 rfl (lv_at hl 0 rfl) ?_
  refine lv_iconst (v := 2) hx hb dL_law_639 (by decide) ?_
  refine lv_iadd hx hb dL_law_640 ?_
  refine l_sld (j := i + 2) hx hb hXs hbl hB hS (n_add (y := 2) (b := 2) rfl rfl) (by omega) hL4 dL_law_641 ?_
  refine l_if (w := (wX G B tt)) (va_runV (As := [.int (xs (i + 1)), .int (xs (i + 2))]) (rest := []) ⟨hx, hb, hml, hown, hts⟩ (c_X7_mill (l := l) (G := G) (B := B) (tt := tt) (hW := wX_ok G B tt) (x := x) (m := xs (i + 1)) (a := xs (i + 2)) (n := n) (nw := (y 5)) (hR := hR)) (cwV 2 hts gL_law_X7_mill rfl rfl rfl (by decide +kernel) ⟨Nat.le_of_ble_eq_true rfl, Nat.le_of_ble_eq_true rfl⟩) (l_pv (w := wX G B tt) (a := 0) (wX_ok G B tt) hX hK hE (l_q hS hB) [.int (xs (i + 1)), .int (xs (i + 2))] (Nat.le_of_ble_eq_true rfl) (shX_mn (G := G) (B := B)) rfl) rfl rfl hl.1 rfl (lv_room (Nat.le_of_ble_eq_true rfl)) dL_law_642 ⟨Nat.le_of_ble_eq_true rfl, Nat.le_of_ble_eq_true rfl⟩) hS (fun q h => h.1) (fun r1 u1 H lo q1 hU hz hk hS => ?_)
  try dsimp only at q1
  have hY := hY.far (fun a ha => hk _ (by have ha9 : a < 13 := ha; show B + 117 + a < _; omega) (fun z => absurd z.2 (by show ¬ B + 117 + a < B + 117; omega)))
  have hX := hU
  have hsz := Nat.le_trans hsz hz
  refine lv_aload_n hx hb dL_law_645 rfl (lv_at hl 1 rfl) ?_
  refine lv_aload_n hx hb dL_law_646 rfl (lv_at hl 3 rfl) ?_
  refine lv_iload_n hx hb dL_law_647 rfl (lv_at hl 0 rfl) ?_
  refine lv_iconst (v := 1) hx hb dL_law_648 (by decide) ?_
  refine lv_iadd hx hb dL_law_649 ?_
  refine l_sld (j := i + 1) hx hb hXs hbl hB hS (n_add (y := 1) (b := 1) rfl rfl) (by omega) hL4 dL_law_650 ?_
  refine lv_aload_n hx hb dL_law_651 rfl (lv_at hl 3 rfl) ?_
  refine lv_iload_n hx hb dL_law_652 rfl (lv_at hl 0 rfl) ?_
  refine lv_iconst (v := 2) hx hb dL_law_653 (by decide) ?_
  refine lv_iadd hx hb dL_law_654 ?_
  refine l_sld (j := i + 2) hx hb hXs hbl hB hS (n_add (y := 2) (b := 2) rfl rfl) (by omega) hL4 dL_law_655 ?_
  refine l_if (w := (wM G (B + 117))) (va_runV (As := [.int (xs (i + 1)), .int (xs (i + 2))]) (rest := [.int (r1)]) ⟨hx, hb, hml, hown, hts⟩ (c_X8_mill (l := l) (G := G) (B := B + 117) (hW := wM_ok G (B + 117)) (x := y) (m := xs (i + 1)) (a := xs (i + 2)) (n := n) (hN := hcy) (hn8 := hn8)) (cwV 2 hts gL_law_X8_mill rfl rfl rfl (by decide +kernel) ⟨Nat.le_of_ble_eq_true rfl, Nat.le_of_ble_eq_true rfl⟩) (l_pv (w := wM G (B + 117)) (a := 0) (wM_ok G (B + 117)) hY hK trivial (l_q hS hB) [.int (xs (i + 1)), .int (xs (i + 2))] (Nat.le_of_ble_eq_true rfl) (shM_0 (G := G) (B := B + 117)) rfl) rfl rfl hl.1 rfl (lv_room (Nat.le_of_ble_eq_true rfl)) dL_law_656 ⟨Nat.le_of_ble_eq_true rfl, Nat.le_of_ble_eq_true rfl⟩) hS (fun q h => Nat.le_trans (Nat.le_add_right B 117) h.1) (fun r2 u2 H lo q2 hU hz hk hS => ?_)
  try dsimp only at q2
  have hX := hX.far (fun a ha => hk _ (by have ha9 : a < 117 := ha; show B + a < _; omega) (fun z => absurd z.1 (by have ha9 : a < 117 := ha; show ¬ B + 117 ≤ B + a; omega)))
  have hsz := Nat.le_trans hsz hz
  have e9 := q_mill hL hR q1 q2
  refine lv_icmp_eq (tgt := 1315) hx hb dL_law_659 (by decide) (fun c9 => ?_) (fun c9 => absurd e9.1 c9)
  exact K _ _ _ _ ⟨hsz, hX, hU, hS, e9.2⟩
set_option maxHeartbeats 4000000 in
set_option maxRecDepth 100000 in
theorem lc_left {p : Program} {l : Launch} {e : Env} {s : State} {m : MethodId} {below : List Frame} {meth : Method} {c : Code} {b L : Nat} {xs : Nat → Int32} {G : GG} {B : Nat} {tt : Nat → Nat} {Q : State → Prop} {x y : Mem} {H : Heap} {locs : List Loc} {i : Nat} (C : LX p s m c b L xs G B tt) (hI : LI G B tt s x y H locs) (hi : i + 6 ≤ L) {ls : Array Slot} (hl : lv_has ls 4 [(3, .int (nI i)), (2, .ref (B + 117 + 0)), (1, .ref (B + 0)), (0, .ref b)]) (K : ∀ (x1 y1 : Mem) (H1 : Heap) (locs1 : List Loc), LI G B tt s x1 y1 H1 locs1 → W p l e room_1 s m #[Value.ref b] below meth c H1 locs1 130 2967 Q (F0 m 1315 ls [])) : W p l e room_1 s m #[Value.ref b] below meth c H locs 130 2967 Q (F0 m 664 ls []) := by
  obtain ⟨hx, hb, hml, hown, hts, hXs, hbl, hB, hK, hE, hL4⟩ := id C
  obtain ⟨hsz, hX, hY, hS, hL⟩ := hI
  obtain ⟨n, hR, hG⟩ := hL.2.2.2.2.2.1
  obtain ⟨hcx, hcy, hn8⟩ := hR.ge
  obtain ⟨t, ht4, htx, hty, hTE⟩ := hL.2.1
  obtain ⟨kt, hkt16, hktx, hkty, hktr⟩ := hL.2.2.2.2.1
  have hRo := hL.1.rok
  have hYo := hL.1.yok
  have hkk1 : ∀ j, j < n → ∃ k, 1 ≤ k ∧ k < 6 ∧ sK (y 5) j = nI k := fun j hj => (hG.2 j hj).1
  have hkk6 : ∀ j, j < n → ∃ k, k < 6 ∧ sK (y 5) j = nI k := fun j hj => by obtain ⟨k, k1, k2, k3⟩ := (hG.2 j hj).1; exact ⟨k, k2, k3⟩
  have hfl : ∀ j, j < n → sF (y 5) j 0 ≤ 9 := fun j hj => (hG.2 j hj).2.1
  obtain ⟨nk, hnk⟩ : ∃ nk : Nat → Nat, ∀ k, k < 2 → RR (nk k) x (45 + 10 * k) (y (6 + k)) ∧ RG (nk k) (y (6 + k)) := by
    obtain ⟨n0, h0⟩ := hL.2.2.2.2.2.2 0 (by decide)
    obtain ⟨n1, h1⟩ := hL.2.2.2.2.2.2 1 (by decide)
    refine ⟨fun k => if k = 0 then n0 else n1, fun k hk => ?_⟩
    have hk2 : k = 0 ∨ k = 1 := by omega
    rcases hk2 with rfl | rfl
    · exact h0
    · exact h1
  refine lv_aload_n hx hb dL_law_664 rfl (lv_at hl 2 rfl) ?_
  refine lv_aload_n hx hb dL_law_665 rfl (lv_at hl 3 rfl) ?_
  refine lv_iload_n hx hb dL_law_666 rfl (lv_at hl 0 rfl) ?_
  refine lv_iconst (v := 1) hx hb dL_law_667 (by decide) ?_
  refine lv_iadd hx hb dL_law_668 ?_
  refine l_sld (j := i + 1) hx hb hXs hbl hB hS (n_add (y := 1) (b := 1) rfl rfl) (by omega) hL4 dL_law_669 ?_
  refine lv_aload_n hx hb dL_law_670 rfl (lv_at hl 3 rfl) ?_
  refine lv_iload_n hx hb dL_law_671 rfl (lv_at hl 0 rfl) ?_
  refine lv_iconst (v := 2) hx hb dL_law_672 (by decide) ?_
  refine lv_iadd hx hb dL_law_673 ?_
  refine l_sld (j := i + 2) hx hb hXs hbl hB hS (n_add (y := 2) (b := 2) rfl rfl) (by omega) hL4 dL_law_674 ?_
  refine lv_aload_n hx hb dL_law_675 rfl (lv_at hl 3 rfl) ?_
  refine lv_iload_n hx hb dL_law_676 rfl (lv_at hl 0 rfl) ?_
  refine lv_iconst (v := 3) hx hb dL_law_677 (by decide) ?_
  refine lv_iadd hx hb dL_law_678 ?_
  refine l_sld (j := i + 3) hx hb hXs hbl hB hS (n_add (y := 3) (b := 3) rfl rfl) (by omega) hL4 dL_law_679 ?_
  refine lv_aload_n hx hb dL_law_680 rfl (lv_at hl 3 rfl) ?_
  refine lv_iload_n hx hb dL_law_681 rfl (lv_at hl 0 rfl) ?_
  refine lv_iconst (v := 4) hx hb dL_law_682 (by decide) ?_
  refine lv_iadd hx hb dL_law_683 ?_
  refine l_sld (j := i + 4) hx hb hXs hbl hB hS (n_add (y := 4) (b := 4) rfl rfl) (by omega) hL4 dL_law_684 ?_
  refine l_if (w := (wX G B tt)) (va_runV (As := [.int (xs (i + 1)), .int (xs (i + 2)), .int (xs (i + 3)), .int (xs (i + 4))]) (rest := []) ⟨hx, hb, hml, hown, hts⟩ (c_X7_left (l := l) (G := G) (B := B) (tt := tt) (hW := wX_ok G B tt) (x := x) (m := xs (i + 1)) (q := xs (i + 2)) (w := xs (i + 3)) (wh := xs (i + 4)) (n := n) (nw := (y 5)) (hR := hR)) (cwV 4 hts gL_law_X7_left rfl rfl rfl (by decide +kernel) ⟨Nat.le_of_ble_eq_true rfl, Nat.le_of_ble_eq_true rfl⟩) (l_pv (w := wX G B tt) (a := 0) (wX_ok G B tt) hX hK hE (l_q hS hB) [.int (xs (i + 1)), .int (xs (i + 2)), .int (xs (i + 3)), .int (xs (i + 4))] (Nat.le_of_ble_eq_true rfl) (shX_mn (G := G) (B := B)) rfl) rfl rfl hl.1 rfl (lv_room (Nat.le_of_ble_eq_true rfl)) dL_law_685 ⟨Nat.le_of_ble_eq_true rfl, Nat.le_of_ble_eq_true rfl⟩) hS (fun q h => h.1) (fun r1 u1 H lo q1 hU hz hk hS => ?_)
  try dsimp only at q1
  have hY := hY.far (fun a ha => hk _ (by have ha9 : a < 13 := ha; show B + 117 + a < _; omega) (fun z => absurd z.2 (by show ¬ B + 117 + a < B + 117; omega)))
  have hX := hU
  have hsz := Nat.le_trans hsz hz
  refine lv_aload_n hx hb dL_law_688 rfl (lv_at hl 1 rfl) ?_
  refine lv_aload_n hx hb dL_law_689 rfl (lv_at hl 3 rfl) ?_
  refine lv_iload_n hx hb dL_law_690 rfl (lv_at hl 0 rfl) ?_
  refine lv_iconst (v := 1) hx hb dL_law_691 (by decide) ?_
  refine lv_iadd hx hb dL_law_692 ?_
  refine l_sld (j := i + 1) hx hb hXs hbl hB hS (n_add (y := 1) (b := 1) rfl rfl) (by omega) hL4 dL_law_693 ?_
  refine lv_aload_n hx hb dL_law_694 rfl (lv_at hl 3 rfl) ?_
  refine lv_iload_n hx hb dL_law_695 rfl (lv_at hl 0 rfl) ?_
  refine lv_iconst (v := 2) hx hb dL_law_696 (by decide) ?_
  refine lv_iadd hx hb dL_law_697 ?_
  refine l_sld (j := i + 2) hx hb hXs hbl hB hS (n_add (y := 2) (b := 2) rfl rfl) (by omega) hL4 dL_law_698 ?_
  refine lv_aload_n hx hb dL_law_699 rfl (lv_at hl 3 rfl) ?_
  refine lv_iload_n hx hb dL_law_700 rfl (lv_at hl 0 rfl) ?_
  refine lv_iconst (v := 3) hx hb dL_law_701 (by decide) ?_
  refine lv_iadd hx hb dL_law_702 ?_
  refine l_sld (j := i + 3) hx hb hXs hbl hB hS (n_add (y := 3) (b := 3) rfl rfl) (by omega) hL4 dL_law_703 ?_
  refine lv_aload_n hx hb dL_law_704 rfl (lv_at hl 3 rfl) ?_
  refine lv_iload_n hx hb dL_law_705 rfl (lv_at hl 0 rfl) ?_
  refine lv_iconst (v := 4) hx hb dL_law_706 (by decide) ?_
  refine lv_iadd hx hb dL_law_707 ?_
  refine l_sld (j := i + 4) hx hb hXs hbl hB hS (n_add (y := 4) (b := 4) rfl rfl) (by omega) hL4 dL_law_708 ?_
  refine l_if (w := (wM G (B + 117))) (va_runV (As := [.int (xs (i + 1)), .int (xs (i + 2)), .int (xs (i + 3)), .int (xs (i + 4))]) (rest := [.int (r1)]) ⟨hx, hb, hml, hown, hts⟩ (c_X8_left (l := l) (G := G) (B := B + 117) (hW := wM_ok G (B + 117)) (x := y) (m := xs (i + 1)) (q := xs (i + 2)) (w := xs (i + 3)) (wh := xs (i + 4)) (n := n) (hN := hcy) (hn8 := hn8)) (cwV 4 hts gL_law_X8_left rfl rfl rfl (by decide +kernel) ⟨Nat.le_of_ble_eq_true rfl, Nat.le_of_ble_eq_true rfl⟩) (l_pv (w := wM G (B + 117)) (a := 0) (wM_ok G (B + 117)) hY hK trivial (l_q hS hB) [.int (xs (i + 1)), .int (xs (i + 2)), .int (xs (i + 3)), .int (xs (i + 4))] (Nat.le_of_ble_eq_true rfl) (shM_0 (G := G) (B := B + 117)) rfl) rfl rfl hl.1 rfl (lv_room (Nat.le_of_ble_eq_true rfl)) dL_law_709 ⟨Nat.le_of_ble_eq_true rfl, Nat.le_of_ble_eq_true rfl⟩) hS (fun q h => Nat.le_trans (Nat.le_add_right B 117) h.1) (fun r2 u2 H lo q2 hU hz hk hS => ?_)
  try dsimp only at q2
  have hX := hX.far (fun a ha => hk _ (by have ha9 : a < 117 := ha; show B + a < _; omega) (fun z => absurd z.1 (by have ha9 : a < 117 := ha; show ¬ B + 117 ≤ B + a; omega)))
  have hsz := Nat.le_trans hsz hz
  have e9 := q_left hL hR q1 q2
  refine lv_icmp_eq (tgt := 1315) hx hb dL_law_712 (by decide) (fun c9 => ?_) (fun c9 => absurd e9.1 c9)
  exact K _ _ _ _ ⟨hsz, hX, hU, hS, e9.2⟩
set_option maxHeartbeats 4000000 in
set_option maxRecDepth 100000 in
theorem lc_made {p : Program} {l : Launch} {e : Env} {s : State} {m : MethodId} {below : List Frame} {meth : Method} {c : Code} {b L : Nat} {xs : Nat → Int32} {G : GG} {B : Nat} {tt : Nat → Nat} {Q : State → Prop} {x y : Mem} {H : Heap} {locs : List Loc} {i : Nat} (C : LX p s m c b L xs G B tt) (hI : LI G B tt s x y H locs) (hi : i + 6 ≤ L) {ls : Array Slot} (hl : lv_has ls 4 [(3, .int (nI i)), (2, .ref (B + 117 + 0)), (1, .ref (B + 0)), (0, .ref b)]) (K : ∀ (x1 y1 : Mem) (H1 : Heap) (locs1 : List Loc), LI G B tt s x1 y1 H1 locs1 → W p l e room_1 s m #[Value.ref b] below meth c H1 locs1 130 2967 Q (F0 m 1315 ls [])) : W p l e room_1 s m #[Value.ref b] below meth c H locs 130 2967 Q (F0 m 717 ls []) := by
  obtain ⟨hx, hb, hml, hown, hts, hXs, hbl, hB, hK, hE, hL4⟩ := id C
  obtain ⟨hsz, hX, hY, hS, hL⟩ := hI
  obtain ⟨n, hR, hG⟩ := hL.2.2.2.2.2.1
  obtain ⟨hcx, hcy, hn8⟩ := hR.ge
  obtain ⟨t, ht4, htx, hty, hTE⟩ := hL.2.1
  obtain ⟨kt, hkt16, hktx, hkty, hktr⟩ := hL.2.2.2.2.1
  have hRo := hL.1.rok
  have hYo := hL.1.yok
  have hkk1 : ∀ j, j < n → ∃ k, 1 ≤ k ∧ k < 6 ∧ sK (y 5) j = nI k := fun j hj => (hG.2 j hj).1
  have hkk6 : ∀ j, j < n → ∃ k, k < 6 ∧ sK (y 5) j = nI k := fun j hj => by obtain ⟨k, k1, k2, k3⟩ := (hG.2 j hj).1; exact ⟨k, k2, k3⟩
  have hfl : ∀ j, j < n → sF (y 5) j 0 ≤ 9 := fun j hj => (hG.2 j hj).2.1
  obtain ⟨nk, hnk⟩ : ∃ nk : Nat → Nat, ∀ k, k < 2 → RR (nk k) x (45 + 10 * k) (y (6 + k)) ∧ RG (nk k) (y (6 + k)) := by
    obtain ⟨n0, h0⟩ := hL.2.2.2.2.2.2 0 (by decide)
    obtain ⟨n1, h1⟩ := hL.2.2.2.2.2.2 1 (by decide)
    refine ⟨fun k => if k = 0 then n0 else n1, fun k hk => ?_⟩
    have hk2 : k = 0 ∨ k = 1 := by omega
    rcases hk2 with rfl | rfl
    · exact h0
    · exact h1
  refine lv_aload_n hx hb dL_law_717 rfl (lv_at hl 2 rfl) ?_
  refine lv_aload_n hx hb dL_law_718 rfl (lv_at hl 3 rfl) ?_
  refine lv_iload_n hx hb dL_law_719 rfl (lv_at hl 0 rfl) ?_
  refine lv_iconst (v := 1) hx hb dL_law_720 (by decide) ?_
  refine lv_iadd hx hb dL_law_721 ?_
  refine l_sld (j := i + 1) hx hb hXs hbl hB hS (n_add (y := 1) (b := 1) rfl rfl) (by omega) hL4 dL_law_722 ?_
  refine lv_aload_n hx hb dL_law_723 rfl (lv_at hl 3 rfl) ?_
  refine lv_iload_n hx hb dL_law_724 rfl (lv_at hl 0 rfl) ?_
  refine lv_iconst (v := 2) hx hb dL_law_725 (by decide) ?_
  refine lv_iadd hx hb dL_law_726 ?_
  refine l_sld (j := i + 2) hx hb hXs hbl hB hS (n_add (y := 2) (b := 2) rfl rfl) (by omega) hL4 dL_law_727 ?_
  refine lv_aload_n hx hb dL_law_728 rfl (lv_at hl 3 rfl) ?_
  refine lv_iload_n hx hb dL_law_729 rfl (lv_at hl 0 rfl) ?_
  refine lv_iconst (v := 3) hx hb dL_law_730 (by decide) ?_
  refine lv_iadd hx hb dL_law_731 ?_
  refine l_sld (j := i + 3) hx hb hXs hbl hB hS (n_add (y := 3) (b := 3) rfl rfl) (by omega) hL4 dL_law_732 ?_
  refine l_if (w := (wX G B tt)) (va_runV (As := [.int (xs (i + 1)), .int (xs (i + 2)), .int (xs (i + 3))]) (rest := []) ⟨hx, hb, hml, hown, hts⟩ (c_X7_made (l := l) (G := G) (B := B) (tt := tt) (hW := wX_ok G B tt) (x := x) (q := xs (i + 1)) (w := xs (i + 2)) (s := xs (i + 3)) (n := n) (nw := (y 5)) (hR := hR)) (cwV 3 hts gL_law_X7_made rfl rfl rfl (by decide +kernel) ⟨Nat.le_of_ble_eq_true rfl, Nat.le_of_ble_eq_true rfl⟩) (l_pv (w := wX G B tt) (a := 0) (wX_ok G B tt) hX hK hE (l_q hS hB) [.int (xs (i + 1)), .int (xs (i + 2)), .int (xs (i + 3))] (Nat.le_of_ble_eq_true rfl) (shX_mn (G := G) (B := B)) rfl) rfl rfl hl.1 rfl (lv_room (Nat.le_of_ble_eq_true rfl)) dL_law_733 ⟨Nat.le_of_ble_eq_true rfl, Nat.le_of_ble_eq_true rfl⟩) hS (fun q h => h.1) (fun r1 u1 H lo q1 hU hz hk hS => ?_)
  try dsimp only at q1
  have hY := hY.far (fun a ha => hk _ (by have ha9 : a < 13 := ha; show B + 117 + a < _; omega) (fun z => absurd z.2 (by show ¬ B + 117 + a < B + 117; omega)))
  have hX := hU
  have hsz := Nat.le_trans hsz hz
  refine lv_aload_n hx hb dL_law_736 rfl (lv_at hl 1 rfl) ?_
  refine lv_aload_n hx hb dL_law_737 rfl (lv_at hl 3 rfl) ?_
  refine lv_iload_n hx hb dL_law_738 rfl (lv_at hl 0 rfl) ?_
  refine lv_iconst (v := 1) hx hb dL_law_739 (by decide) ?_
  refine lv_iadd hx hb dL_law_740 ?_
  refine l_sld (j := i + 1) hx hb hXs hbl hB hS (n_add (y := 1) (b := 1) rfl rfl) (by omega) hL4 dL_law_741 ?_
  refine lv_aload_n hx hb dL_law_742 rfl (lv_at hl 3 rfl) ?_
  refine lv_iload_n hx hb dL_law_743 rfl (lv_at hl 0 rfl) ?_
  refine lv_iconst (v := 2) hx hb dL_law_744 (by decide) ?_
  refine lv_iadd hx hb dL_law_745 ?_
  refine l_sld (j := i + 2) hx hb hXs hbl hB hS (n_add (y := 2) (b := 2) rfl rfl) (by omega) hL4 dL_law_746 ?_
  refine lv_aload_n hx hb dL_law_747 rfl (lv_at hl 3 rfl) ?_
  refine lv_iload_n hx hb dL_law_748 rfl (lv_at hl 0 rfl) ?_
  refine lv_iconst (v := 3) hx hb dL_law_749 (by decide) ?_
  refine lv_iadd hx hb dL_law_750 ?_
  refine l_sld (j := i + 3) hx hb hXs hbl hB hS (n_add (y := 3) (b := 3) rfl rfl) (by omega) hL4 dL_law_751 ?_
  refine l_if (w := (wM G (B + 117))) (va_runV (As := [.int (xs (i + 1)), .int (xs (i + 2)), .int (xs (i + 3))]) (rest := [.int (r1)]) ⟨hx, hb, hml, hown, hts⟩ (c_X8_made (l := l) (G := G) (B := B + 117) (hW := wM_ok G (B + 117)) (x := y) (q := xs (i + 1)) (w := xs (i + 2)) (s := xs (i + 3)) (n := n) (hN := hcy) (hn8 := hn8)) (cwV 3 hts gL_law_X8_made rfl rfl rfl (by decide +kernel) ⟨Nat.le_of_ble_eq_true rfl, Nat.le_of_ble_eq_true rfl⟩) (l_pv (w := wM G (B + 117)) (a := 0) (wM_ok G (B + 117)) hY hK trivial (l_q hS hB) [.int (xs (i + 1)), .int (xs (i + 2)), .int (xs (i + 3))] (Nat.le_of_ble_eq_true rfl) (shM_0 (G := G) (B := B + 117)) rfl) rfl rfl hl.1 rfl (lv_room (Nat.le_of_ble_eq_true rfl)) dL_law_752 ⟨Nat.le_of_ble_eq_true rfl, Nat.le_of_ble_eq_true rfl⟩) hS (fun q h => Nat.le_trans (Nat.le_add_right B 117) h.1) (fun r2 u2 H lo q2 hU hz hk hS => ?_)
  try dsimp only at q2
  have hX := hX.far (fun a ha => hk _ (by have ha9 : a < 117 := ha; show B + a < _; omega) (fun z => absurd z.1 (by have ha9 : a < 117 := ha; show ¬ B + 117 ≤ B + a; omega)))
  have hsz := Nat.le_trans hsz hz
  have e9 := q_made hL hR q1 q2
  refine lv_icmp_eq (tgt := 1315) hx hb dL_law_755 (by decide) (fun c9 => ?_) (fun c9 => absurd e9.1 c9)
  exact K _ _ _ _ ⟨hsz, hX, hU, hS, e9.2⟩
