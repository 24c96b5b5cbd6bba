set_option maxHeartbeats 4000000 in
set_option maxRecDepth 100000 in
theorem lc_restore {p : Program} {l : Launch} {e : Env} {s : State} {m : MethodId} {below : List Frame} {meth : Method} {c : Code} {b L : Nat} {xs : Nat → Int32} {G : GG} {B : Nat} {tt : Nat → Nat} {Q : State → Prop} {x y : Mem} {H : Heap} {locs : List Loc} {i : Nat} (C : LX p s m c b L xs G B tt) (hI : LI G B tt s x y H locs) (hi : i + 6 ≤ L) {ls : Array Slot} (hl : lv_has ls 4 [(3, .int (nI i)), (2, .ref (B + 117 + 0)), (1, .ref (B + 0)), (0, .ref b)]) (K : ∀ (x1 y1 : Mem) (H1 : Heap) (locs1 : List Loc), LI G B tt s x1 y1 H1 locs1 → W p l e room_1 s m #[Value.ref b] below meth c H1 locs1 130 2967 Q (F0 m 1315 ls [])) : W p l e room_1 s m #[Value.ref b] below meth c H locs 130 2967 Q (F0 m 1144 ls []) := by
  obtain ⟨hx, hb, hml, hown, hts, hXs, hbl, hB, hK, hE, hL4⟩ := id C
  obtain ⟨hsz, hX, hY, hS, hL⟩ := hI
  obtain ⟨n, hR, hG⟩ := hL.2.2.2.2.2.1
  obtain ⟨hcx, hcy, hn8⟩ := hR.ge
  obtain ⟨t, ht4, htx, hty, hTE⟩ := hL.2.1
  obtain ⟨kt, hkt16, hktx, hkty, hktr⟩ := hL.2.2.2.2.1
  have hRo := hL.1.rok
  have hYo := hL.1.yok
  have hkk1 : ∀ j, j < n → ∃ k, 1 ≤ k ∧ k < 6 ∧ sK (y 5) j = nI k := fun j hj => (hG.2 j hj).1
  have hkk6 : ∀ j, j < n → ∃ k, k < 6 ∧ sK (y 5) j = nI k := fun j hj => by obtain ⟨k, k1, k2, k3⟩ := (hG.2 j hj).1; exact ⟨k, k2, k3⟩
  have hfl : ∀ j, j < n → sF (y 5) j 0 ≤ 9 := fun j hj => (hG.2 j hj).2.1
  obtain ⟨nk, hnk⟩ : ∃ nk : Nat → Nat, ∀ k, k < 2 → RR (nk k) x (45 + 10 * k) (y (6 + k)) ∧ RG (nk k) (y (6 + k)) := by
    obtain ⟨n0, h0⟩ := hL.2.2.2.2.2.2 0 (by decide)
    obtain ⟨n1, h1⟩ := hL.2.2.2.2.2.2 1 (by decide)
    refine ⟨fun k => if k = 0 then n0 else n1, fun k hk => ?_⟩
    have hk2 : k = 0 ∨ k = 1 := by omega
    rcases hk2 with rfl | rfl
    · exact h0
    · exact h1
  refine lv_aload_n hx hb dL_law_1144 rfl (lv_at hl 2 rfl) ?_
  refine lv_aload_n hx hb dL_law_1145 rfl (lv_at hl 3 rfl) ?_
  refine lv_iload_n hx hb dL_law_1146 rfl (lv_at hl 0 rfl) ?_
  refine lv_iconst (v := 1) hx hb dL_law_1147 (by decide) ?_
  refine lv_iadd hx hb dL_law_1148 ?_
  refine l_sld (j := i + 1) hx hb hXs hbl hB hS (n_add (y := 1) (b := 1) rfl rfl) (by omega) hL4 dL_law_1149 ?_
  refine l_if (w := (wX G B tt)) (va_runV (As := [.int (xs (i + 1))]) (rest := []) ⟨hx, hb, hml, hown, hts⟩ (c_X7_restore (l := l) (G := G) (B := B) (tt := tt) (hW := wX_ok G B tt) (x := x) (k := xs (i + 1)) (nk := nk) (nwk := (fun k => y (6 + k))) (hRk := (fun k hk => (hnk k hk).1))) (cwV 1 hts gL_law_X7_restore rfl rfl rfl (by decide +kernel) ⟨Nat.le_of_ble_eq_true rfl, Nat.le_of_ble_eq_true rfl⟩) (l_pv (w := wX G B tt) (a := 0) (wX_ok G B tt) hX hK hE (l_q hS hB) [.int (xs (i + 1))] (Nat.le_of_ble_eq_true rfl) (shX_mn (G := G) (B := B)) rfl) rfl rfl hl.1 rfl (lv_room (Nat.le_of_ble_eq_true rfl)) dL_law_1150 ⟨Nat.le_of_ble_eq_true rfl, Nat.le_of_ble_eq_true rfl⟩) hS (fun q h => h.1) (fun r1 u1 H lo q1 hU hz hk hS => ?_)
  try dsimp only at q1
  have hY := hY.far (fun a ha => hk _ (by have ha9 : a < 13 := ha; show B + 117 + a < _; omega) (fun z => absurd z.2 (by show ¬ B + 117 + a < B + 117; omega)))
  have hX := hU
  have hsz := Nat.le_trans hsz hz
  refine lv_aload_n hx hb dL_law_1153 rfl (lv_at hl 1 rfl) ?_
  refine lv_aload_n hx hb dL_law_1154 rfl (lv_at hl 3 rfl) ?_
  refine lv_iload_n hx hb dL_law_1155 rfl (lv_at hl 0 rfl) ?_
  refine lv_iconst (v := 1) hx hb dL_law_1156 (by decide) ?_
  refine lv_iadd hx hb dL_law_1157 ?_
  refine l_sld (j := i + 1) hx hb hXs hbl hB hS (n_add (y := 1) (b := 1) rfl rfl) (by omega) hL4 dL_law_1158 ?_
  refine l_if (w := (wM G (B + 117))) (va_runV (As := [.int (xs (i + 1))]) (rest := [.int (r1)]) ⟨hx, hb, hml, hown, hts⟩ (c_X8_restore (l := l) (G := G) (B := B + 117) (hW := wM_ok G (B + 117)) (x := y) (k := xs (i + 1))) (cwV 1 hts gL_law_X8_restore rfl rfl rfl (by decide +kernel) ⟨Nat.le_of_ble_eq_true rfl, Nat.le_of_ble_eq_true rfl⟩) (l_pv (w := wM G (B + 117)) (a := 0) (wM_ok G (B + 117)) hY hK trivial (l_q hS hB) [.int (xs (i + 1))] (Nat.le_of_ble_eq_true rfl) (shM_0 (G := G) (B := B + 117)) rfl) rfl rfl hl.1 rfl (lv_room (Nat.le_of_ble_eq_true rfl)) dL_law_1159 ⟨Nat.le_of_ble_eq_true rfl, Nat.le_of_ble_eq_true rfl⟩) hS (fun q h => Nat.le_trans (Nat.le_add_right B 117) h.1) (fun r2 u2 H lo q2 hU hz hk hS => ?_)
  try dsimp only at q2
  have hX := hX.far (fun a ha => hk _ (by have ha9 : a < 117 := ha; show B + a < _; omega) (fun z => absurd z.1 (by have ha9 : a < 117 := ha; show ¬ B + 117 ≤ B + a; omega)))
  have hsz := Nat.le_trans hsz hz
  have e9 := q_restore hL hnk q1 q2
  refine lv_icmp_eq (tgt := 1315) hx hb dL_law_1162 (by decide) (fun c9 => ?_) (fun c9 => absurd e9.1 c9)
  exact K _ _ _ _ ⟨hsz, hX, hU, hS, e9.2⟩
set_option maxHeartbeats 4000000 in
set_option maxRecDepth 100000 in
theorem lc_kind {p : Program} {l : Launch} {e : Env} {s : State} {m : MethodId} {below : List Frame} {meth : Method} {c : Code} {b L : Nat} {xs : Nat → Int32} {G : GG} {B : Nat} {tt : Nat → Nat} {Q : State → Prop} {x y : Mem} {H : Heap} {locs : List Loc} {i : Nat} (C : LX p s m c b L xs G B tt) (hI : LI G B tt s x y H locs) (hi : i + 6 ≤ L) {ls : Array Slot} (hl : lv_has ls 4 [(3, .int (nI i)), (2, .ref (B + 117 + 0)), (1, .ref (B + 0)), (0, .ref b)]) (K : ∀ (x1 y1 : Mem) (H1 : Heap) (locs1 : List Loc), LI G B tt s x1 y1 H1 locs1 → W p l e room_1 s m #[Value.ref b] below meth c H1 locs1 130 2967 Q (F0 m 1315 ls [])) : W p l e room_1 s m #[Value.ref b] below meth c H locs 130 2967 Q (F0 m 1167 ls []) := by
  obtain ⟨hx, hb, hml, hown, hts, hXs, hbl, hB, hK, hE, hL4⟩ := id C
  obtain ⟨hsz, hX, hY, hS, hL⟩ := hI
  obtain ⟨n, hR, hG⟩ := hL.2.2.2.2.2.1
  obtain ⟨hcx, hcy, hn8⟩ := hR.ge
  obtain ⟨t, ht4, htx, hty, hTE⟩ := hL.2.1
  obtain ⟨kt, hkt16, hktx, hkty, hktr⟩ := hL.2.2.2.2.1
  have hRo := hL.1.rok
  have hYo := hL.1.yok
  have hkk1 : ∀ j, j < n → ∃ k, 1 ≤ k ∧ k < 6 ∧ sK (y 5) j = nI k := fun j hj => (hG.2 j hj).1
  have hkk6 : ∀ j, j < n → ∃ k, k < 6 ∧ sK (y 5) j = nI k := fun j hj => by obtain ⟨k, k1, k2, k3⟩ := (hG.2 j hj).1; exact ⟨k, k2, k3⟩
  have hfl : ∀ j, j < n → sF (y 5) j 0 ≤ 9 := fun j hj => (hG.2 j hj).2.1
  obtain ⟨nk, hnk⟩ : ∃ nk : Nat → Nat, ∀ k, k < 2 → RR (nk k) x (45 + 10 * k) (y (6 + k)) ∧ RG (nk k) (y (6 + k)) := by
    obtain ⟨n0, h0⟩ := hL.2.2.2.2.2.2 0 (by decide)
    obtain ⟨n1, h1⟩ := hL.2.2.2.2.2.2 1 (by decide)
    refine ⟨fun k => if k = 0 then n0 else n1, fun k hk => ?_⟩
    have hk2 : k = 0 ∨ k = 1 := by omega
    rcases hk2 with rfl | rfl
    · exact h0
    · exact h1
  refine lv_aload_n hx hb dL_law_1167 rfl (lv_at hl 2 rfl) ?_
  refine lv_aload_n hx hb dL_law_1168 rfl (lv_at hl 3 rfl) ?_
  refine lv_iload_n hx hb dL_law_1169 rfl (lv_at hl 0 rfl) ?_
  refine lv_iconst (v := 1) hx hb dL_law_1170 (by decide) ?_
  refine lv_iadd hx hb dL_law_1171 ?_
  refine l_sld (j := i + 1) hx hb hXs hbl hB hS (n_add (y := 1) (b := 1) rfl rfl) (by omega) hL4 dL_law_1172 ?_
  refine l_if (w := (wX G B tt)) (va_runV (As := [.int (xs (i + 1))]) (rest := []) ⟨hx, hb, hml, hown, hts⟩ (c_X7_kind (l := l) (G := G) (B := B) (tt := tt) (hW := wX_ok G B tt) (x := x) (m := xs (i + 1)) (n := n) (nw := (y 5)) (hR := hR)) (cwV 1 hts gL_law_X7_kind rfl rfl rfl (by decide +kernel) ⟨Nat.le_of_ble_eq_true rfl, Nat.le_of_ble_eq_true rfl⟩) (l_pv (w := wX G B tt) (a := 0) (wX_ok G B tt) hX hK hE (l_q hS hB) [.int (xs (i + 1))] (Nat.le_of_ble_eq_true rfl) (shX_mn (G := G) (B := B)) rfl) rfl rfl hl.1 rfl (lv_room (Nat.le_of_ble_eq_true rfl)) dL_law_1173 ⟨Nat.le_of_ble_eq_true rfl, Nat.le_of_ble_eq_true rfl⟩) hS (fun q h => h.1) (fun r1 u1 H lo q1 hU hz hk hS => ?_)
  try dsimp only at q1
  have hY := hY.far (fun a ha => hk _ (by have ha9 : a < 13 := ha; show B + 117 + a < _; omega) (fun z => absurd z.2 (by show ¬ B + 117 + a < B + 117; omega)))
  have hX := hU
  have hsz := Nat.le_trans hsz hz
  refine lv_aload_n hx hb dL_law_1176 rfl (lv_at hl 1 rfl) ?_
  refine lv_aload_n hx hb dL_law_1177 rfl (lv_at hl 3 rfl) ?_
  refine lv_iload_n hx hb dL_law_1178 rfl (lv_at hl 0 rfl) ?_
  refine lv_iconst (v := 1) hx hb dL_law_1179 (by decide) ?_
  refine lv_iadd hx hb dL_law_1180 ?_
  refine l_sld (j := i + 1) hx hb hXs hbl hB hS (n_add (y := 1) (b := 1) rfl rfl) (by omega) hL4 dL_law_1181 ?_
  refine l_if (w := (wM G (B + 117))) (va_runV (As := [.int (xs (i + 1))]) (rest := [.int (r1)]) ⟨hx, hb, hml, hown, hts⟩ (c_X8_kind (l := l) (G := G) (B := B + 117) (hW := wM_ok G (B + 117)) (x := y) (m := xs (i + 1)) (n := n) (hN := hcy) (hn8 := hn8)) (cwV 1 hts gL_law_X8_kind rfl rfl rfl (by decide +kernel) ⟨Nat.le_of_ble_eq_true rfl, Nat.le_of_ble_eq_true rfl⟩) (l_pv (w := wM G (B + 117)) (a := 0) (wM_ok G (B + 117)) hY hK trivial (l_q hS hB) [.int (xs (i + 1))] (Nat.le_of_ble_eq_true rfl) (shM_0 (G := G) (B := B + 117)) rfl) rfl rfl hl.1 rfl (lv_room (Nat.le_of_ble_eq_true rfl)) dL_law_1182 ⟨Nat.le_of_ble_eq_true rfl, Nat.le_of_ble_eq_true rfl⟩) hS (fun q h => Nat.le_trans (Nat.le_add_right B 117) h.1) (fun r2 u2 H lo q2 hU hz hk hS => ?_)
  try dsimp only at q2
  have hX := hX.far (fun a ha => hk _ (by have ha9 : a < 117 := ha; show B + a < _; omega) (fun z => absurd z.1 (by have ha9 : a < 117 := ha; show ¬ B + 117 ≤ B + a; omega)))
  have hsz := Nat.le_trans hsz hz
  have e9 := q_kind hL hR q1 q2
  refine lv_icmp_eq (tgt := 1315) hx hb dL_law_1185 (by decide) (fun c9 => ?_) (fun c9 => absurd e9.1 c9)
  exact K _ _ _ _ ⟨hsz, hX, hU, hS, e9.2⟩
set_option maxHeartbeats 4000000 in
set_option maxRecDepth 100000 in
theorem lc_as {p : Program} {l : Launch} {e : Env} {s : State} {m : MethodId} {below : List Frame} {meth : Method} {c : Code} {b L : Nat} {xs : Nat → Int32} {G : GG} {B : Nat} {tt : Nat → Nat} {Q : State → Prop} {x y : Mem} {H : Heap} {locs : List Loc} {i : Nat} (C : LX p s m c b L xs G B tt) (hI : LI G B tt s x y H locs) (hi : i + 6 ≤ L) {ls : Array Slot} (hl : lv_has ls 4 [(3, .int (nI i)), (2, .ref (B + 117 + 0)), (1, .ref (B + 0)), (0, .ref b)]) (K : ∀ (x1 y1 : Mem) (H1 : Heap) (locs1 : List Loc), LI G B tt s x1 y1 H1 locs1 → W p l e room_1 s m #[Value.ref b] below meth c H1 locs1 130 2967 Q (F0 m 1315 ls [])) : W p l e room_1 s m #[Value.ref b] below meth c H locs 130 2967 Q (F0 m 1190 ls []) := by
  obtain ⟨hx, hb, hml, hown, hts, hXs, hbl, hB, hK, hE, hL4⟩ := id C
  obtain ⟨hsz, hX, hY, hS, hL⟩ := hI
  obtain ⟨n, hR, hG⟩ := hL.2.2.2.2.2.1
  obtain ⟨hcx, hcy, hn8⟩ := hR.ge
  obtain ⟨t, ht4, htx, hty, hTE⟩ := hL.2.1
  obtain ⟨kt, hkt16, hktx, hkty, hktr⟩ := hL.2.2.2.2.1
  have hRo := hL.1.rok
  have hYo := hL.1.yok
  have hkk1 : ∀ j, j < n → ∃ k, 1 ≤ k ∧ k < 6 ∧ sK (y 5) j = nI k := fun j hj => (hG.2 j hj).1
  have hkk6 : ∀ j, j < n → ∃ k, k < 6 ∧ sK (y 5) j = nI k := fun j hj => by obtain ⟨k, k1, k2, k3⟩ := (hG.2 j hj).1; exact ⟨k, k2, k3⟩
  have hfl : ∀ j, j < n → sF (y 5) j 0 ≤ 9 := fun j hj => (hG.2 j hj).2.1
  obtain ⟨nk, hnk⟩ : ∃ nk : Nat → Nat, ∀ k, k < 2 → RR (nk k) x (45 + 10 * k) (y (6 + k)) ∧ RG (nk k) (y (6 + k)) := by
    obtain ⟨n0, h0⟩ := hL.2.2.2.2.2.2 0 (by decide)
    obtain ⟨n1, h1⟩ := hL.2.2.2.2.2.2 1 (by decide)
    refine ⟨fun k => if k = 0 then n0 else n1, fun k hk => ?_⟩
    have hk2 : k = 0 ∨ k = 1 := by omega
    rcases hk2 with rfl | rfl
    · exact h0
    · exact h1
  refine lv_aload_n hx hb dL_law_1190 rfl (lv_at hl 2 rfl) ?_
  refine lv_aload_n hx hb dL_law_1191 rfl (lv_at hl 3 rfl) ?_
  refine lv_iload_n hx hb dL_law_1192 rfl (lv_at hl 0 rfl) ?_
  refine lv_iconst (v := 1) hx hb dL_law_1193 (by decide) ?_
  refine lv_iadd hx hb dL_law_1194 ?_
  refine l_sld (j := i + 1) hx hb hXs hbl hB hS (n_add (y := 1) (b := 1) rfl rfl) (by omega) hL4 dL_law_1195 ?_
  refine lv_aload_n hx hb dL_law_1196 rfl (lv_at hl 3 rfl) ?_
  refine lv_iload_n hx hb dL_law_1197 rfl (lv_at hl 0 rfl) ?_
  refine lv_iconst (v := 2) hx hb dL_law_1198 (by decide) ?_
  refine lv_iadd hx hb dL_law_1199 ?_
  refine l_sld (j := i + 2) hx hb hXs hbl hB hS (n_add (y := 2) (b := 2) rfl rfl) (by omega) hL4 dL_law_1200 ?_
  refine l_if (w := (wX G B tt)) (va_runV (As := [.int (xs (i + 1)), .int (xs (i + 2))]) (rest := []) ⟨hx, hb, hml, hown, hts⟩ (c_X7_as (l := l) (G := G) (B := B) (tt := tt) (hW := wX_ok G B tt) (x := x) (m := xs (i + 1)) (k := xs (i + 2)) (n := n) (nw := (y 5)) (hR := hR) (hkk := hkk6)) (cwV 2 hts gL_law_X7_as rfl rfl rfl (by decide +kernel) ⟨Nat.le_of_ble_eq_true rfl, Nat.le_of_ble_eq_true rfl⟩) (l_pv (w := wX G B tt) (a := 0) (wX_ok G B tt) hX hK hE (l_q hS hB) [.int (xs (i + 1)), .int (xs (i + 2))] (Nat.le_of_ble_eq_true rfl) (shX_mn (G := G) (B := B)) rfl) rfl rfl hl.1 rfl (lv_room (Nat.le_of_ble_eq_true rfl)) dL_law_1201 ⟨Nat.le_of_ble_eq_true rfl, Nat.le_of_ble_eq_true rfl⟩) hS (fun q h => h.1) (fun r1 u1 H lo q1 hU hz hk hS => ?_)
  try dsimp only at q1
  have hY := hY.far (fun a ha => hk _ (by have ha9 : a < 13 := ha; show B + 117 + a < _; omega) (fun z => absurd z.2 (by show ¬ B + 117 + a < B + 117; omega)))
  have hX := hU
  have hsz := Nat.le_trans hsz hz
  refine lv_aload_n hx hb dL_law_1204 rfl (lv_at hl 1 rfl) ?_
  refine lv_aload_n hx hb dL_law_1205 rfl (lv_at hl 3 rfl) ?_
  refine lv_iload_n hx hb dL_law_1206 rfl (lv_at hl 0 rfl) ?_
  refine lv_iconst (v := 1) hx hb dL_law_1207 (by decide) ?_
  refine lv_iadd hx hb dL_law_1208 ?_
  refine l_sld (j := i + 1) hx hb hXs hbl hB hS (n_add (y := 1) (b := 1) rfl rfl) (by omega) hL4 dL_law_1209 ?_
  refine lv_aload_n hx hb dL_law_1210 rfl (lv_at hl 3 rfl) ?_
  refine lv_iload_n hx hb dL_law_1211 rfl (lv_at hl 0 rfl) ?_
  refine lv_iconst (v := 2) hx hb dL_law_1212 (by decide) ?_
  refine lv_iadd hx hb dL_law_1213 ?_
  refine l_sld (j := i + 2) hx hb hXs hbl hB hS (n_add (y := 2) (b := 2) rfl rfl) (by omega) hL4 dL_law_1214 ?_
  refine l_if (w := (wM G (B + 117))) (va_runV (As := [.int (xs (i + 1)), .int (xs (i + 2))]) (rest := [.int (r1)]) ⟨hx, hb, hml, hown, hts⟩ (c_X8_as (l := l) (G := G) (B := B + 117) (hW := wM_ok G (B + 117)) (x := y) (m := xs (i + 1)) (k := xs (i + 2)) (n := n) (hN := hcy) (hn8 := hn8) (hkk := hkk1)) (cwV 2 hts gL_law_X8_as rfl rfl rfl (by decide +kernel) ⟨Nat.le_of_ble_eq_true rfl, Nat.le_of_ble_eq_true rfl⟩) (l_pv (w := wM G (B + 117)) (a := 0) (wM_ok G (B + 117)) hY hK trivial (l_q hS hB) [.int (xs (i + 1)), .int (xs (i + 2))] (Nat.le_of_ble_eq_true rfl) (shM_0 (G := G) (B := B + 117)) rfl) rfl rfl hl.1 rfl (lv_room (Nat.le_of_ble_eq_true rfl)) dL_law_1215 ⟨Nat.le_of_ble_eq_true rfl, Nat.le_of_ble_eq_true rfl⟩) hS (fun q h => Nat.le_trans (Nat.le_add_right B 117) h.1) (fun r2 u2 H lo q2 hU hz hk hS => ?_)
  try dsimp only at q2
  have hX := hX.far (fun a ha => hk _ (by have ha9 : a < 117 := ha; show B + a < _; omega) (fun z => absurd z.1 (by have ha9 : a < 117 := ha; show ¬ B + 117 ≤ B + a; omega)))
  have hsz := Nat.le_trans hsz hz
  have e9 := q_as hL hR q1 q2
  refine lv_icmp_eq (tgt := 1315) hx hb dL_law_1218 (by decide) (fun c9 => ?_) (fun c9 => absurd e9.1 c9)
  exact K _ _ _ _ ⟨hsz, hX, hU, hS, e9.2⟩
set_option maxHeartbeats 4000000 in
set_option maxRecDepth 100000 in
theorem lc_ask {p : Program} {l : Launch} {e : Env} {s : State} {m : MethodId} {below : List Frame} {meth : Method} {c : Code} {b L : Nat} {xs : Nat → Int32} {G : GG} {B : Nat} {tt : Nat → Nat} {Q : State → Prop} {x y : Mem} {H : Heap} {locs : List Loc} {i : Nat} (C : LX p s m c b L xs G B tt) (hI : LI G B tt s x y H locs) (hi : i + 6 ≤ L) {ls : Array Slot} (hl : lv_has ls 4 [(3, .int (nI i)), (2, .ref (B + 117 + 0)), (1, .ref (B + 0)), (0, .ref b)]) (K : ∀ (x1 y1 : Mem) (H1 : Heap) (locs1 : List Loc), LI G B tt s x1 y1 H1 locs1 → W p l e room_1 s m #[Value.ref b] below meth c H1 locs1 130 2967 Q (F0 m 1315 ls [])) : W p l e room_1 s m #[Value.ref b] below meth c H locs 130 2967 Q (F0 m 1223 ls []) := by
  obtain ⟨hx, hb, hml, hown, hts, hXs, hbl, hB, hK, hE, hL4⟩ := id C
  obtain ⟨hsz, hX, hY, hS, hL⟩ := hI
  obtain ⟨n, hR, hG⟩ := hL.2.2.2.2.2.1
  obtain ⟨hcx, hcy, hn8⟩ := hR.ge
  obtain ⟨t, ht4, htx, hty, hTE⟩ := hL.2.1
  obtain ⟨kt, hkt16, hktx, hkty, hktr⟩ := hL.2.2.2.2.1
  have hRo := hL.1.rok
  have hYo := hL.1.yok
  have hkk1 : ∀ j, j < n → ∃ k, 1 ≤ k ∧ k < 6 ∧ sK (y 5) j = nI k := fun j hj => (hG.2 j hj).1
  have hkk6 : ∀ j, j < n → ∃ k, k < 6 ∧ sK (y 5) j = nI k := fun j hj => by obtain ⟨k, k1, k2, k3⟩ := (hG.2 j hj).1; exact ⟨k, k2, k3⟩
  have hfl : ∀ j, j < n → sF (y 5) j 0 ≤ 9 := fun j hj => (hG.2 j hj).2.1
  obtain ⟨nk, hnk⟩ : ∃ nk : Nat → Nat, ∀ k, k < 2 → RR (nk k) x (45 + 10 * k) (y (6 + k)) ∧ RG (nk k) (y (6 + k)) := by
    obtain ⟨n0, h0⟩ := hL.2.2.2.2.2.2 0 (by decide)
    obtain ⟨n1, h1⟩ := hL.2.2.2.2.2.2 1 (by decide)
    refine ⟨fun k => if k = 0 then n0 else n1, fun k hk => ?_⟩
    have hk2 : k = 0 ∨ k = 1 := by omega
    rcases hk2 with rfl | rfl
    · exact h0
    · exact h1
  refine lv_aload_n hx hb dL_law_1223 rfl (lv_at hl 2 rfl) ?_
  refine lv_aload_n hx hb dL_law_1224 rfl (lv_at hl 3 rfl) ?_
  refine lv_iload_n hx hb dL_law_1225 rfl (lv_at hl 0 rfl) ?_
  refine lv_iconst (v := 1) hx hb dL_law_1226 (by decide) ?_
  refine lv_iadd hx hb dL_law_1227 ?_
  refine l_sld (j := i + 1) hx hb hXs hbl hB hS (n_add (y := 1) (b := 1) rfl rfl) (by omega) hL4 dL_law_1228 ?_
  refine lv_aload_n hx hb dL_law_1229 rfl (lv_at hl 3 rfl) ?_
  refine lv_iload_n hx hb dL_law_1230 rfl (lv_at hl 0 rfl) ?_
  refine lv_iconst (v := 2) hx hb dL_law_1231 (by decide) ?_
  refine lv_iadd hx hb dL_law_1232 ?_
  refine l_sld (j := i + 2) hx hb hXs hbl hB hS (n_add (y := 2) (b := 2) rfl rfl) (by omega) hL4 dL_law_1233 ?_
  refine l_if (w := (wX G B tt)) (va_runV (As := [.int (xs (i + 1)), .int (xs (i + 2))]) (rest := []) ⟨hx, hb, hml, hown, hts⟩ (c_X7_ask (l := l) (G := G) (B := B) (tt := tt) (hW := wX_ok G B tt) (x := x) (m := xs (i + 1)) (w := xs (i + 2)) (n := n) (nw := (y 5)) (hR := hR) (hkk := hkk1)) (cwV 2 hts gL_law_X7_ask rfl rfl rfl (by decide +kernel) ⟨Nat.le_of_ble_eq_true rfl, Nat.le_of_ble_eq_true rfl⟩) (l_pv (w := wX G B tt) (a := 0) (wX_ok G B tt) hX hK hE (l_q hS hB) [.int (xs (i + 1)), .int (xs (i + 2))] (Nat.le_of_ble_eq_true rfl) (shX_mn (G := G) (B := B)) rfl) rfl rfl hl.1 rfl (lv_room (Nat.le_of_ble_eq_true rfl)) dL_law_1234 ⟨Nat.le_of_ble_eq_true rfl, Nat.le_of_ble_eq_true rfl⟩) hS (fun q h => h.1) (fun r1 u1 H lo q1 hU hz hk hS => ?_)
  try dsimp only at q1
  have hY := hY.far (fun a ha => hk _ (by have ha9 : a < 13 := ha; show B + 117 + a < _; omega) (fun z => absurd z.2 (by show ¬ B + 117 + a < B + 117; omega)))
  have hX := hU
  have hsz := Nat.le_trans hsz hz
  refine lv_aload_n hx hb dL_law_1237 rfl (lv_at hl 1 rfl) ?_
  refine lv_aload_n hx hb dL_law_1238 rfl (lv_at hl 3 rfl) ?_
  refine lv_iload_n hx hb dL_law_1239 rfl (lv_at hl 0 rfl) ?_
  refine lv_iconst (v := 1) hx hb dL_law_1240 (by decide) ?_
  refine lv_iadd hx hb dL_law_1241 ?_
  refine l_sld (j := i + 1) hx hb hXs hbl hB hS (n_add (y := 1) (b := 1) rfl rfl) (by omega) hL4 dL_law_1242 ?_
  refine lv_aload_n hx hb dL_law_1243 rfl (lv_at hl 3 rfl) ?_
  refine lv_iload_n hx hb dL_law_1244 rfl (lv_at hl 0 rfl) ?_
  refine lv_iconst (v := 2) hx hb dL_law_1245 (by decide) ?_
  refine lv_iadd hx hb dL_law_1246 ?_
  refine l_sld (j := i + 2) hx hb hXs hbl hB hS (n_add (y := 2) (b := 2) rfl rfl) (by omega) hL4 dL_law_1247 ?_
  refine l_if (w := (wM G (B + 117))) (va_runV (As := [.int (xs (i + 1)), .int (xs (i + 2))]) (rest := [.int (r1)]) ⟨hx, hb, hml, hown, hts⟩ (c_X8_ask (l := l) (G := G) (B := B + 117) (hW := wM_ok G (B + 117)) (x := y) (m := xs (i + 1)) (w := xs (i + 2)) (n := n) (hN := hcy) (hn8 := hn8) (hkk := hkk1)) (cwV 2 hts gL_law_X8_ask rfl rfl rfl (by decide +kernel) ⟨Nat.le_of_ble_eq_true rfl, Nat.le_of_ble_eq_true rfl⟩) (l_pv (w := wM G (B + 117)) (a := 0) (wM_ok G (B + 117)) hY hK trivial (l_q hS hB) [.int (xs (i + 1)), .int (xs (i + 2))] (Nat.le_of_ble_eq_true rfl) (shM_0 (G := G) (B := B + 117)) rfl) rfl rfl hl.1 rfl (lv_room (Nat.le_of_ble_eq_true rfl)) dL_law_1248 ⟨Nat.le_of_ble_eq_true rfl, Nat.le_of_ble_eq_true rfl⟩) hS (fun q h => Nat.le_trans (Nat.le_add_right B 117) h.1) (fun r2 u2 H lo q2 hU hz hk hS => ?_)
  try dsimp only at q2
  have hX := hX.far (fun a ha => hk _ (by have ha9 : a < 117 := ha; show B + a < _; omega) (fun z => absurd z.1 (by have ha9 : a < 117 := ha; show ¬ B + 117 ≤ B + a; omega)))
  have hsz := Nat.le_trans hsz hz
  have e9 := q_ask hL hR q1 q2
  refine lv_icmp_eq (tgt := 1315) hx hb dL_law_1251 (by decide) (fun c9 => ?_) (fun c9 => absurd e9.1 c9)
  exact K _ _ _ _ ⟨hsz, hX, hU, hS, e9.2⟩
set_option maxHeartbeats 4000000 in
set_option maxRecDepth 100000 in
theorem lc_trace {p : Program} {l : Launch} {e : Env} {s : State} {m : MethodId} {below : List Frame} {meth : Method} {c : Code} {b L : Nat} {xs : Nat → Int32} {G : GG} {B : Nat} {tt : Nat → Nat} {Q : State → Prop} {x y : Mem} {H : Heap} {locs : List Loc} {i : Nat} (C : LX p s m c b L xs G B tt) (hI : LI G B tt s x y H locs) (hi : i + 6 ≤ L) {ls : Array Slot} (hl : lv_has ls 4 [(3, .int (nI i)), (2, .ref (B + 117 + 0)), (1, .ref (B + 0)), (0, .ref b)]) (K : ∀ (x1 y1 : Mem) (H1 : Heap) (locs1 : List Loc), LI G B tt s x1 y1 H1 locs1 → W p l e room_1 s m #[Value.ref b] below meth c H1 locs1 130 2967 Q (F0 m 1315 ls [])) : W p l e room_1 s m #[Value.ref b] below meth c H locs 130 2967 Q (F0 m 1256 ls []) := by
  obtain ⟨hx, hb, hml, hown, hts, hXs, hbl, hB, hK, hE, hL4⟩ := id C
  obtain ⟨hsz, hX, hY, hS, hL⟩ := hI
  obtain ⟨n, hR, hG⟩ := hL.2.2.2.2.2.1
  obtain ⟨hcx, hcy, hn8⟩ := hR.ge
  obtain ⟨t, ht4, htx, hty, hTE⟩ := hL.2.1
  obtain ⟨kt, hkt16, hktx, hkty, hktr⟩ := hL.2.2.2.2.1
  have hRo := hL.1.rok
  have hYo := hL.1.yok
  have hkk1 : ∀ j, j < n → ∃ k, 1 ≤ k ∧ k < 6 ∧ sK (y 5) j = nI k := fun j hj => (hG.2 j hj).1
  have hkk6 : ∀ j, j < n → ∃ k, k < 6 ∧ sK (y 5) j = nI k := fun j hj => by obtain ⟨k, k1, k2, k3⟩ := (hG.2 j hj).1; exact ⟨k, k2, k3⟩
  have hfl : ∀ j, j < n → sF (y 5) j 0 ≤ 9 := fun j hj => (hG.2 j hj).2.1
  obtain ⟨nk, hnk⟩ : ∃ nk : Nat → Nat, ∀ k, k < 2 → RR (nk k) x (45 + 10 * k) (y (6 + k)) ∧ RG (nk k) (y (6 + k)) := by
    obtain ⟨n0, h0⟩ := hL.2.2.2.2.2.2 0 (by decide)
    obtain ⟨n1, h1⟩ := hL.2.2.2.2.2.2 1 (by decide)
    refine ⟨fun k => if k = 0 then n0 else n1, fun k hk => ?_⟩
    have hk2 : k = 0 ∨ k = 1 := by omega
    rcases hk2 with rfl | rfl
    · exact h0
    · exact h1
  refine lv_aload_n hx hb dL_law_1256 rfl (lv_at hl 2 rfl) ?_
  refine lv_aload_n hx hb dL_law_1257 rfl (lv_at hl 3 rfl) ?_
  refine lv_iload_n hx hb dL_law_1258 rfl (lv_at hl 0 rfl) ?_
  refine lv_iconst (v := 1) hx hb dL_law_1259 (by decide) ?_
  refine lv_iadd hx hb dL_law_1260 ?_
  refine l_sld (j := i + 1) hx hb hXs hbl hB hS (n_add (y := 1) (b := 1) rfl rfl) (by omega) hL4 dL_law_1261 ?_
  refine l_if (w := (wX G B tt)) (va_runV (As := [.int (xs (i + 1))]) (rest := []) ⟨hx, hb, hml, hown, hts⟩ (c_X7_trace (l := l) (G := G) (B := B) (tt := tt) (hW := wX_ok G B tt) (x := x) (i := xs (i + 1)) (k := kt) (hk := hktx) (hk16 := hkt16)) (cwV 1 hts gL_law_X7_trace rfl rfl rfl (by decide +kernel) ⟨Nat.le_of_ble_eq_true rfl, Nat.le_of_ble_eq_true rfl⟩) (l_pv (w := wX G B tt) (a := 0) (wX_ok G B tt) hX hK hE (l_q hS hB) [.int (xs (i + 1))] (Nat.le_of_ble_eq_true rfl) (shX_mn (G := G) (B := B)) rfl) rfl rfl hl.1 rfl (lv_room (Nat.le_of_ble_eq_true rfl)) dL_law_1262 ⟨Nat.le_of_ble_eq_true rfl, Nat.le_of_ble_eq_true rfl⟩) hS (fun q h => h.1) (fun r1 u1 H lo q1 hU hz hk hS => ?_)
  try dsimp only at q1
  have hY := hY.far (fun a ha => hk _ (by have ha9 : a < 13 := ha; show B + 117 + a < _; omega) (fun z => absurd z.2 (by show ¬ B + 117 + a < B + 117; omega)))
  have hX := hU
  have hsz := Nat.le_trans hsz hz
  refine lv_aload_n hx hb dL_law_1265 rfl (lv_at hl 1 rfl) ?_
  refine lv_aload_n hx hb dL_law_1266 rfl (lv_at hl 3 rfl) ?_
  refine lv_iload_n hx hb dL_law_1267 rfl (lv_at hl 0 rfl) ?_
  refine lv_iconst (v := 1) hx hb dL_law_1268 (by decide) ?_
  refine lv_iadd hx hb dL_law_1269 ?_
  refine l_sld (j := i + 1) hx hb hXs hbl hB hS (n_add (y := 1) (b := 1) rfl rfl) (by omega) hL4 dL_law_1270 ?_
  refine l_if (w := (wM G (B + 117))) (va_runV (As := [.int (xs (i + 1))]) (rest := [.int (r1)]) ⟨hx, hb, hml, hown, hts⟩ (c_X8_trace (l := l) (G := G) (B := B + 117) (hW := wM_ok G (B + 117)) (x := y) (i := xs (i + 1)) (k := kt) (hk := hkty) (hk16 := hkt16)) (cwV 1 hts gL_law_X8_trace rfl rfl rfl (by decide +kernel) ⟨Nat.le_of_ble_eq_true rfl, Nat.le_of_ble_eq_true rfl⟩) (l_pv (w := wM G (B + 117)) (a := 0) (wM_ok G (B + 117)) hY hK trivial (l_q hS hB) [.int (xs (i + 1))] (Nat.le_of_ble_eq_true rfl) (shM_0 (G := G) (B := B + 117)) rfl) rfl rfl hl.1 rfl (lv_room (Nat.le_of_ble_eq_true rfl)) dL_law_1271 ⟨Nat.le_of_ble_eq_true rfl, Nat.le_of_ble_eq_true rfl⟩) hS (fun q h => Nat.le_trans (Nat.le_add_right B 117) h.1) (fun r2 u2 H lo q2 hU hz hk hS => ?_)
  try dsimp only at q2
  have hX := hX.far (fun a ha => hk _ (by have ha9 : a < 117 := ha; show B + a < _; omega) (fun z => absurd z.1 (by have ha9 : a < 117 := ha; show ¬ B + 117 ≤ B + a; omega)))
  have hsz := Nat.le_trans hsz hz
  have e9 := q_trace hL hktx hkt16 hktr q1 q2
  refine lv_icmp_eq (tgt := 1315) hx hb dL_law_1274 (by decide) (fun c9 => ?_) (fun c9 => absurd e9.1 c9)
  exact K _ _ _ _ ⟨hsz, hX, hU, hS, e9.2⟩
set_option maxHeartbeats 4000000 in
set_option maxRecDepth 100000 in
theorem lc_count {p : Program} {l : Launch} {e : Env} {s : State} {m : MethodId} {below : List Frame} {meth : Method} {c : Code} {b L : Nat} {xs : Nat → Int32} {G : GG} {B : Nat} {tt : Nat → Nat} {Q : State → Prop} {x y : Mem} {H : Heap} {locs : List Loc} {i : Nat} (C : LX p s m c b L xs G B tt) (hI : LI G B tt s x y H locs) (hi : i + 6 ≤ L) {ls : Array Slot} (hl : lv_has ls 4 [(3, .int (nI i)), (2, .ref (B + 117 + 0)), (1, .ref (B + 0)), (0, .ref b)]) (K : ∀ (x1 y1 : Mem) (H1 : Heap) (locs1 : List Loc), LI G B tt s x1 y1 H1 locs1 → W p l e room_1 s m #[Value.ref b] below meth c H1 locs1 130 2967 Q (F0 m 1315 ls [])) : W p l e room_1 s m #[Value.ref b] below meth c H locs 130 2967 Q (F0 m 1279 ls []) := by
  obtain ⟨hx, hb, hml, hown, hts, hXs, hbl, hB, hK, hE, hL4⟩ := id C
  obtain ⟨hsz, hX, hY, hS, hL⟩ := hI
  obtain ⟨n, hR, hG⟩ := hL.2.2.2.2.2.1
  obtain ⟨hcx, hcy, hn8⟩ := hR.ge
  obtain ⟨t, ht4, htx, hty, hTE⟩ := hL.2.1
  obtain ⟨kt, hkt16, hktx, hkty, hktr⟩ := hL.2.2.2.2.1
  have hRo := hL.1.rok
  have hYo := hL.1.yok
  have hkk1 : ∀ j, j < n → ∃ k, 1 ≤ k ∧ k < 6 ∧ sK (y 5) j = nI k := fun j hj => (hG.2 j hj).1
  have hkk6 : ∀ j, j < n → ∃ k, k < 6 ∧ sK (y 5) j = nI k := fun j hj => by obtain ⟨k, k1, k2, k3⟩ := (hG.2 j hj).1; exact ⟨k, k2, k3⟩
  have hfl : ∀ j, j < n → sF (y 5) j 0 ≤ 9 := fun j hj => (hG.2 j hj).2.1
  obtain ⟨nk, hnk⟩ : ∃ nk : Nat → Nat, ∀ k, k < 2 → RR (nk k) x (45 + 10 * k) (y (6 + k)) ∧ RG (nk k) (y (6 + k)) := by
    obtain ⟨n0, h0⟩ := hL.2.2.2.2.2.2 0 (by decide)
    obtain ⟨n1, h1⟩ := hL.2.2.2.2.2.2 1 (by decide)
    refine ⟨fun k => if k = 0 then n0 else n1, fun k hk => ?_⟩
    have hk2 : k = 0 ∨ k = 1 := by omega
    rcases hk2 with rfl | rfl
    · exact h0
    · exact h1
  refine lv_aload_n hx hb dL_law_1279 rfl (lv_at hl 2 rfl) ?_
  refine lv_aload_n hx hb dL_law_1280 rfl (lv_at hl 3 rfl) ?_
  refine lv_iload_n hx hb dL_law_1281 rfl (lv_at hl 0 rfl) ?_
  refine lv_iconst (v := 1) hx hb dL_law_1282 (by decide) ?_
  refine lv_iadd hx hb dL_law_1283 ?_
  refine l_sld (j := i + 1) hx hb hXs hbl hB hS (n_add (y := 1) (b := 1) rfl rfl) (by omega) hL4 dL_law_1284 ?_
  refine l_if (w := (wX G B tt)) (va_runV (As := [.int (xs (i + 1))]) (rest := []) ⟨hx, hb, hml, hown, hts⟩ (c_X7_count (l := l) (G := G) (B := B) (tt := tt) (hW := wX_ok G B tt) (x := x) (w := xs (i + 1)) (n := n) (nw := (y 5)) (hR := hR)) (cwV 1 hts gL_law_X7_count rfl rfl rfl (by decide +kernel) ⟨Nat.le_of_ble_eq_true rfl, Nat.le_of_ble_eq_true rfl⟩) (l_pv (w := wX G B tt) (a := 0) (wX_ok G B tt) hX hK hE (l_q hS hB) [.int (xs (i + 1))] (Nat.le_of_ble_eq_true rfl) (shX_mn (G := G) (B := B)) rfl) rfl rfl hl.1 rfl (lv_room (Nat.le_of_ble_eq_true rfl)) dL_law_1285 ⟨Nat.le_of_ble_eq_true rfl, Nat.le_of_ble_eq_true rfl⟩) hS (fun q h => h.1) (fun r1 u1 H lo q1 hU hz hk hS => ?_)
  try dsimp only at q1
  have hY := hY.far (fun a ha => hk _ (by have ha9 : a < 13 := ha; show B + 117 + a < _; omega) (fun z => absurd z.2 (by show ¬ B + 117 + a < B + 117; omega)))
  have hX := hU
  have hsz := Nat.le_trans hsz hz
  refine lv_aload_n hx hb dL_law_1288 rfl (lv_at hl 1 rfl) ?_
  refine lv_aload_n hx hb dL_law_1289 rfl (lv_at hl 3 rfl) ?_
  refine lv_iload_n hx hb dL_law_1290 rfl (lv_at hl 0 rfl) ?_
  refine lv_iconst (v := 1) hx hb dL_law_1291 (by decide) ?_
  refine lv_iadd hx hb dL_law_1292 ?_
  refine l_sld (j := i + 1) hx hb hXs hbl hB hS (n_add (y := 1) (b := 1) rfl rfl) (by omega) hL4 dL_law_1293 ?_
  refine l_if (w := (wM G (B + 117))) (va_runV (As := [.int (xs (i + 1))]) (rest := [.int (r1)]) ⟨hx, hb, hml, hown, hts⟩ (c_X8_count (l := l) (G := G) (B := B + 117) (hW := wM_ok G (B + 117)) (x := y) (wh := xs (i + 1)) (n := n) (hN := hcy) (hn8 := hn8)) (cwV 1 hts gL_law_X8_count rfl rfl rfl (by decide +kernel) ⟨Nat.le_of_ble_eq_true rfl, Nat.le_of_ble_eq_true rfl⟩) (l_pv (w := wM G (B + 117)) (a := 0) (wM_ok G (B + 117)) hY hK trivial (l_q hS hB) [.int (xs (i + 1))] (Nat.le_of_ble_eq_true rfl) (shM_0 (G := G) (B := B + 117)) rfl) rfl rfl hl.1 rfl (lv_room (Nat.le_of_ble_eq_true rfl)) dL_law_1294 ⟨Nat.le_of_ble_eq_true rfl, Nat.le_of_ble_eq_true rfl⟩) hS (fun q h => Nat.le_trans (Nat.le_add_right B 117) h.1) (fun r2 u2 H lo q2 hU hz hk hS => ?_)
  try dsimp only at q2
  have hX := hX.far (fun a ha => hk _ (by have ha9 : a < 117 := ha; show B + a < _; omega) (fun z => absurd z.1 (by have ha9 : a < 117 := ha; show ¬ B + 117 ≤ B + a; omega)))
  have hsz := Nat.le_trans hsz hz
  have e9 := q_count hL hR q1 q2
  refine lv_icmp_eq (tgt := 1315) hx hb dL_law_1297 (by decide) (fun c9 => ?_) (fun c9 => absurd e9.1 c9)
  exact K _ _ _ _ ⟨hsz, hX, hU, hS, e9.2⟩
set_option maxHeartbeats 4000000 in
set_option maxRecDepth 100000 in
theorem lc_status {p : Program} {l : Launch} {e : Env} {s : State} {m : MethodId} {below : List Frame} {meth : Method} {c : Code} {b L : Nat} {xs : Nat → Int32} {G : GG} {B : Nat} {tt : Nat → Nat} {Q : State → Prop} {x y : Mem} {H : Heap} {locs : List Loc} {i : Nat} (C : LX p s m c b L xs G B tt) (hI : LI G B tt s x y H locs) (hi : i + 6 ≤ L) {ls : Array Slot} (hl : lv_has ls 4 [(3, .int (nI i)), (2, .ref (B + 117 + 0)), (1, .ref (B + 0)), (0, .ref b)]) (K : ∀ (x1 y1 : Mem) (H1 : Heap) (locs1 : List Loc), LI G B tt s x1 y1 H1 locs1 → W p l e room_1 s m #[Value.ref b] below meth c H1 locs1 130 2967 Q (F0 m 1315 ls [])) : W p l e room_1 s m #[Value.ref b] below meth c H locs 130 2967 Q (F0 m 1302 ls []) := by
  obtain ⟨hx, hb, hml, hown, hts, hXs, hbl, hB, hK, hE, hL4⟩ := id C
  obtain ⟨hsz, hX, hY, hS, hL⟩ := hI
  obtain ⟨n, hR, hG⟩ := hL.2.2.2.2.2.1
  obtain ⟨hcx, hcy, hn8⟩ := hR.ge
  obtain ⟨t, ht4, htx, hty, hTE⟩ := hL.2.1
  obtain ⟨kt, hkt16, hktx, hkty, hktr⟩ := hL.2.2.2.2.1
  have hRo := hL.1.rok
  have hYo := hL.1.yok
  have hkk1 : ∀ j, j < n → ∃ k, 1 ≤ k ∧ k < 6 ∧ sK (y 5) j = nI k := fun j hj => (hG.2 j hj).1
  have hkk6 : ∀ j, j < n → ∃ k, k < 6 ∧ sK (y 5) j = nI k := fun j hj => by obtain ⟨k, k1, k2, k3⟩ := (hG.2 j hj).1; exact ⟨k, k2, k3⟩
  have hfl : ∀ j, j < n → sF (y 5) j 0 ≤ 9 := fun j hj => (hG.2 j hj).2.1
  obtain ⟨nk, hnk⟩ : ∃ nk : Nat → Nat, ∀ k, k < 2 → RR (nk k) x (45 + 10 * k) (y (6 + k)) ∧ RG (nk k) (y (6 + k)) := by
    obtain ⟨n0, h0⟩ := hL.2.2.2.2.2.2 0 (by decide)
    obtain ⟨n1, h1⟩ := hL.2.2.2.2.2.2 1 (by decide)
    refine ⟨fun k => if k = 0 then n0 else n1, fun k hk => ?_⟩
    have hk2 : k = 0 ∨ k = 1 := by omega
    rcases hk2 with rfl | rfl
    · exact h0
    · exact h1
  refine lv_aload_n hx hb dL_law_1302 rfl (lv_at hl 2 rfl) ?_
  refine l_if (w := (wX G B tt)) (va_runV (As := []) (rest := []) ⟨hx, hb, hml, hown, hts⟩ (c_X7_status (l := l) (G := G) (B := B) (tt := tt) (hW := wX_ok G B tt) (x := x) ) (cwV 0 hts gL_law_X7_status rfl rfl rfl (by decide +kernel) ⟨Nat.le_of_ble_eq_true rfl, Nat.le_of_ble_eq_true rfl⟩) (l_pv (w := wX G B tt) (a := 0) (wX_ok G B tt) hX hK hE (l_q hS hB) [] (Nat.le_of_ble_eq_true rfl) (shX_mn (G := G) (B := B)) rfl) rfl rfl hl.1 rfl (lv_room (Nat.le_of_ble_eq_true rfl)) dL_law_1303 ⟨Nat.le_of_ble_eq_true rfl, Nat.le_of_ble_eq_true rfl⟩) hS (fun q h => h.1) (fun r1 u1 H lo q1 hU hz hk hS => ?_)
  try dsimp only at q1
  have hY := hY.far (fun a ha => hk _ (by have ha9 : a < 13 := ha; show B + 117 + a < _; omega) (fun z => absurd z.2 (by show ¬ B + 117 + a < B + 117; omega)))
  have hX := hU
  have hsz := Nat.le_trans hsz hz
  refine lv_aload_n hx hb dL_law_1306 rfl (lv_at hl 1 rfl) ?_
  refine l_if (w := (wM G (B + 117))) (va_runV (As := []) (rest := [.int (r1)]) ⟨hx, hb, hml, hown, hts⟩ (c_X8_status (l := l) (G := G) (B := B + 117) (hW := wM_ok G (B + 117)) (x := y) ) (cwV 0 hts gL_law_X8_status rfl rfl rfl (by decide +kernel) ⟨Nat.le_of_ble_eq_true rfl, Nat.le_of_ble_eq_true rfl⟩) (l_pv (w := wM G (B + 117)) (a := 0) (wM_ok G (B + 117)) hY hK trivial (l_q hS hB) [] (Nat.le_of_ble_eq_true rfl) (shM_0 (G := G) (B := B + 117)) rfl) rfl rfl hl.1 rfl (lv_room (Nat.le_of_ble_eq_true rfl)) dL_law_1307 ⟨Nat.le_of_ble_eq_true rfl, Nat.le_of_ble_eq_true rfl⟩) hS (fun q h => Nat.le_trans (Nat.le_add_right B 117) h.1) (fun r2 u2 H lo q2 hU hz hk hS => ?_)
  try dsimp only at q2
  have hX := hX.far (fun a ha => hk _ (by have ha9 : a < 117 := ha; show B + a < _; omega) (fun z => absurd z.1 (by have ha9 : a < 117 := ha; show ¬ B + 117 ≤ B + a; omega)))
  have hsz := Nat.le_trans hsz hz
  have e9 := q_status hL q1 q2
  refine lv_icmp_eq (tgt := 1315) hx hb dL_law_1310 (by decide) (fun c9 => ?_) (fun c9 => absurd e9.1 c9)
  exact K _ _ _ _ ⟨hsz, hX, hU, hS, e9.2⟩
