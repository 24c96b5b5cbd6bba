theorem wL_c32 : (.constantLong RL 32 (4294967295) : Cond) ∈ wsL_law := List.mem_append_left _ (List.mem_append_left _ (List.mem_append_left _ (List.mem_append_left _ (List.mem_append_left _ (List.mem_append_left _ (List.mem_append_left _ (List.mem_append_left _ (List.mem_append_left _ (List.mem_append_left _ (List.mem_append_left _ ((show (.constantLong RL 32 (4294967295) : Cond) ∈ wsL_law_r1 by decide +kernel))))))))))))
set_option maxHeartbeats 4000000 in
set_option maxRecDepth 100000 in
theorem lc_row {p : Program} {l : Launch} {e : Env} {s : State} {m : MethodId} {below : List Frame} {meth : Method} {c : Code} {b L : Nat} {xs : Nat → Int32} {G : GG} {B : Nat} {tt : Nat → Nat} {Q : State → Prop} {x y : Mem} {H : Heap} {locs : List Loc} {i : Nat} (C : LX p s m c b L xs G B tt) (hI : LI G B tt s x y H locs) (hi : i + 6 ≤ L) {ls : Array Slot} (hl : lv_has ls 4 [(3, .int (nI i)), (2, .ref (B + 117 + 0)), (1, .ref (B + 0)), (0, .ref b)]) (K : ∀ (x1 y1 : Mem) (H1 : Heap) (locs1 : List Loc), LI G B tt s x1 y1 H1 locs1 → W p l e room_1 s m #[Value.ref b] below meth c H1 locs1 130 2967 Q (F0 m 1315 ls [])) : W p l e room_1 s m #[Value.ref b] below meth c H locs 130 2967 Q (F0 m 172 ls []) := by
  obtain ⟨hx, hb, hml, hown, hts, hXs, hbl, hB, hK, hE, hL4⟩ := id C
  obtain ⟨hsz, hX, hY, hS, hL⟩ := hI
  obtain ⟨n, hR, hG⟩ := hL.2.2.2.2.2.1
  obtain ⟨hcx, hcy, hn8⟩ := hR.ge
  obtain ⟨t, ht4, htx, hty, hTE⟩ := hL.2.1
  obtain ⟨kt, hkt16, hktx, hkty, hktr⟩ := hL.2.2.2.2.1
  have hRo := hL.1.rok
  have hYo := hL.1.yok
  have hkk1 : ∀ j, j < n → ∃ k, 1 ≤ k ∧ k < 6 ∧ sK (y 5) j = nI k := fun j hj => (hG.2 j hj).1
  have hkk6 : ∀ j, j < n → ∃ k, k < 6 ∧ sK (y 5) j = nI k := fun j hj => by obtain ⟨k, k1, k2, k3⟩ := (hG.2 j hj).1; exact ⟨k, k2, k3⟩
  have hfl : ∀ j, j < n → sF (y 5) j 0 ≤ 9 := fun j hj => (hG.2 j hj).2.1
  obtain ⟨nk, hnk⟩ : ∃ nk : Nat → Nat, ∀ k, k < 2 → RR (nk k) x (45 + 10 * k) (y (6 + k)) ∧ RG (nk k) (y (6 + k)) := by
    obtain ⟨n0, h0⟩ := hL.2.2.2.2.2.2 0 (by decide)
    obtain ⟨n1, h1⟩ := hL.2.2.2.2.2.2 1 (by decide)
    refine ⟨fun k => if k = 0 then n0 else n1, fun k hk => ?_⟩
    have hk2 : k = 0 ∨ k = 1 := by omega
    rcases hk2 with rfl | rfl
    · exact h0
    · exact h1
  refine lv_aload_n hx hb dL_law_172 rfl (lv_at hl 2 rfl) ?_
  refine lv_aload_n hx hb dL_law_173 rfl (lv_at hl 3 rfl) ?_
  refine lv_iload_n hx hb dL_law_174 rfl (lv_at hl 0 rfl) ?_
  refine lv_iconst (v := 1) hx hb dL_law_175 (by decide) ?_
  refine lv_iadd hx hb dL_law_176 ?_
  refine l_sld (j := i + 1) hx hb hXs hbl hB hS (n_add (y := 1) (b := 1) rfl rfl) (by omega) hL4 dL_law_177 ?_
  refine lv_aload_n hx hb dL_law_178 rfl (lv_at hl 3 rfl) ?_
  refine lv_iload_n hx hb dL_law_179 rfl (lv_at hl 0 rfl) ?_
  refine lv_iconst (v := 2) hx hb dL_law_180 (by decide) ?_
  refine lv_iadd hx hb dL_law_181 ?_
  refine l_sld (j := i + 2) hx hb hXs hbl hB hS (n_add (y := 2) (b := 2) rfl rfl) (by omega) hL4 dL_law_182 ?_
  refine lv_aload_n hx hb dL_law_183 rfl (lv_at hl 3 rfl) ?_
  refine lv_iload_n hx hb dL_law_184 rfl (lv_at hl 0 rfl) ?_
  refine lv_iconst (v := 3) hx hb dL_law_185 (by decide) ?_
  refine lv_iadd hx hb dL_law_186 ?_
  refine l_sld (j := i + 3) hx hb hXs hbl hB hS (n_add (y := 3) (b := 3) rfl rfl) (by omega) hL4 dL_law_187 ?_
  refine l_if (w := (wX G B tt)) (va_runV (As := [.int (xs (i + 1)), .int (xs (i + 2)), .int (xs (i + 3))]) (rest := []) ⟨hx, hb, hml, hown, hts⟩ (c_X7_row (l := l) (G := G) (B := B) (tt := tt) (hW := wX_ok G B tt) (x := x) (a := xs (i + 1)) (la := xs (i + 2)) (k := xs (i + 3))) (cwV 3 hts gL_law_X7_row rfl rfl rfl (by decide +kernel) ⟨Nat.le_of_ble_eq_true rfl, Nat.le_of_ble_eq_true rfl⟩) (l_pv (w := wX G B tt) (a := 0) (wX_ok G B tt) hX hK hE (l_q hS hB) [.int (xs (i + 1)), .int (xs (i + 2)), .int (xs (i + 3))] (Nat.le_of_ble_eq_true rfl) (shX_mn (G := G) (B := B)) rfl) rfl rfl hl.1 rfl (lv_room (Nat.le_of_ble_eq_true rfl)) dL_law_188 ⟨Nat.le_of_ble_eq_true rfl, Nat.le_of_ble_eq_true rfl⟩) hS (fun q h => h.1) (fun r1 u1 H lo q1 hU hz hk hS => ?_)
  try dsimp only at q1
  have hY := hY.far (fun a ha => hk _ (by have ha9 : a < 13 := ha; show B + 117 + a < _; omega) (fun z => absurd z.2 (by show ¬ B + 117 + a < B + 117; omega)))
  have hX := hU
  have hsz := Nat.le_trans hsz hz
  refine lv_aload_n hx hb dL_law_191 rfl (lv_at hl 1 rfl) ?_
  refine lv_aload_n hx hb dL_law_192 rfl (lv_at hl 3 rfl) ?_
  refine lv_iload_n hx hb dL_law_193 rfl (lv_at hl 0 rfl) ?_
  refine lv_iconst (v := 1) hx hb dL_law_194 (by decide) ?_
  refine lv_iadd hx hb dL_law_195 ?_
  refine l_sld (j := i + 1) hx hb hXs hbl hB hS (n_add (y := 1) (b := 1) rfl rfl) (by omega) hL4 dL_law_196 ?_
  refine lv_aload_n hx hb dL_law_197 rfl (lv_at hl 3 rfl) ?_
  refine lv_iload_n hx hb dL_law_198 rfl (lv_at hl 0 rfl) ?_
  refine lv_iconst (v := 2) hx hb dL_law_199 (by decide) ?_
  refine lv_iadd hx hb dL_law_200 ?_
  refine l_sld (j := i + 2) hx hb hXs hbl hB hS (n_add (y := 2) (b := 2) rfl rfl) (by omega) hL4 dL_law_201 ?_
  refine lv_aload_n hx hb dL_law_202 rfl (lv_at hl 3 rfl) ?_
  refine lv_iload_n hx hb dL_law_203 rfl (lv_at hl 0 rfl) ?_
  refine lv_iconst (v := 3) hx hb dL_law_204 (by decide) ?_
  refine lv_iadd hx hb dL_law_205 ?_
  refine l_sld (j := i + 3) hx hb hXs hbl hB hS (n_add (y := 3) (b := 3) rfl rfl) (by omega) hL4 dL_law_206 ?_
  refine l_if (w := (wM G (B + 117))) (va_runV (As := [.int (xs (i + 1)), .int (xs (i + 2)), .int (xs (i + 3))]) (rest := [.int (r1)]) ⟨hx, hb, hml, hown, hts⟩ (c_X8_row (l := l) (G := G) (B := B + 117) (hW := wM_ok G (B + 117)) (x := y) (a := xs (i + 1)) (la := xs (i + 2)) (k := xs (i + 3))) (cwV 3 hts gL_law_X8_row rfl rfl rfl (by decide +kernel) ⟨Nat.le_of_ble_eq_true rfl, Nat.le_of_ble_eq_true rfl⟩) (l_pv (w := wM G (B + 117)) (a := 0) (wM_ok G (B + 117)) hY hK trivial (l_q hS hB) [.int (xs (i + 1)), .int (xs (i + 2)), .int (xs (i + 3))] (Nat.le_of_ble_eq_true rfl) (shM_0 (G := G) (B := B + 117)) rfl) rfl rfl hl.1 rfl (lv_room (Nat.le_of_ble_eq_true rfl)) dL_law_207 ⟨Nat.le_of_ble_eq_true rfl, Nat.le_of_ble_eq_true rfl⟩) hS (fun q h => Nat.le_trans (Nat.le_add_right B 117) h.1) (fun r2 u2 H lo q2 hU hz hk hS => ?_)
  try dsimp only at q2
  have hX := hX.far (fun a ha => hk _ (by have ha9 : a < 117 := ha; show B + a < _; omega) (fun z => absurd z.1 (by have ha9 : a < 117 := ha; show ¬ B + 117 ≤ B + a; omega)))
  have hsz := Nat.le_trans hsz hz
  have e9 := q_row hL q1 q2
  refine lv_icmp_eq (tgt := 1315) hx hb dL_law_210 (by decide) (fun c9 => ?_) (fun c9 => absurd e9.1 c9)
  exact K _ _ _ _ ⟨hsz, hX, hU, hS, e9.2⟩
set_option maxHeartbeats 4000000 in
set_option maxRecDepth 100000 in
theorem lc_set {p : Program} {l : Launch} {e : Env} {s : State} {m : MethodId} {below : List Frame} {meth : Method} {c : Code} {b L : Nat} {xs : Nat → Int32} {G : GG} {B : Nat} {tt : Nat → Nat} {Q : State → Prop} {x y : Mem} {H : Heap} {locs : List Loc} {i : Nat} (C : LX p s m c b L xs G B tt) (hI : LI G B tt s x y H locs) (hi : i + 6 ≤ L) {ls : Array Slot} (hl : lv_has ls 4 [(3, .int (nI i)), (2, .ref (B + 117 + 0)), (1, .ref (B + 0)), (0, .ref b)]) (K : ∀ (x1 y1 : Mem) (H1 : Heap) (locs1 : List Loc), LI G B tt s x1 y1 H1 locs1 → W p l e room_1 s m #[Value.ref b] below meth c H1 locs1 130 2967 Q (F0 m 1315 ls [])) : W p l e room_1 s m #[Value.ref b] below meth c H locs 130 2967 Q (F0 m 215 ls []) := by
  obtain ⟨hx, hb, hml, hown, hts, hXs, hbl, hB, hK, hE, hL4⟩ := id C
  obtain ⟨hsz, hX, hY, hS, hL⟩ := hI
  obtain ⟨n, hR, hG⟩ := hL.2.2.2.2.2.1
  obtain ⟨hcx, hcy, hn8⟩ := hR.ge
  obtain ⟨t, ht4, htx, hty, hTE⟩ := hL.2.1
  obtain ⟨kt, hkt16, hktx, hkty, hktr⟩ := hL.2.2.2.2.1
  have hRo := hL.1.rok
  have hYo := hL.1.yok
  have hkk1 : ∀ j, j < n → ∃ k, 1 ≤ k ∧ k < 6 ∧ sK (y 5) j = nI k := fun j hj => (hG.2 j hj).1
  have hkk6 : ∀ j, j < n → ∃ k, k < 6 ∧ sK (y 5) j = nI k := fun j hj => by obtain ⟨k, k1, k2, k3⟩ := (hG.2 j hj).1; exact ⟨k, k2, k3⟩
  have hfl : ∀ j, j < n → sF (y 5) j 0 ≤ 9 := fun j hj => (hG.2 j hj).2.1
  obtain ⟨nk, hnk⟩ : ∃ nk : Nat → Nat, ∀ k, k < 2 → RR (nk k) x (45 + 10 * k) (y (6 + k)) ∧ RG (nk k) (y (6 + k)) := by
    obtain ⟨n0, h0⟩ := hL.2.2.2.2.2.2 0 (by decide)
    obtain ⟨n1, h1⟩ := hL.2.2.2.2.2.2 1 (by decide)
    refine ⟨fun k => if k = 0 then n0 else n1, fun k hk => ?_⟩
    have hk2 : k = 0 ∨ k = 1 := by omega
    rcases hk2 with rfl | rfl
    · exact h0
    · exact h1
  refine lv_aload_n hx hb dL_law_215 rfl (lv_at hl 2 rfl) ?_
  refine lv_aload_n hx hb dL_law_216 rfl (lv_at hl 3 rfl) ?_
  refine lv_iload_n hx hb dL_law_217 rfl (lv_at hl 0 rfl) ?_
  refine lv_iconst (v := 1) hx hb dL_law_218 (by decide) ?_
  refine lv_iadd hx hb dL_law_219 ?_
  refine l_sld (j := i + 1) hx hb hXs hbl hB hS (n_add (y := 1) (b := 1) rfl rfl) (by omega) hL4 dL_law_220 ?_
  refine lv_aload_n hx hb dL_law_221 rfl (lv_at hl 3 rfl) ?_
  refine lv_iload_n hx hb dL_law_222 rfl (lv_at hl 0 rfl) ?_
  refine lv_iconst (v := 2) hx hb dL_law_223 (by decide) ?_
  refine lv_iadd hx hb dL_law_224 ?_
  refine l_sld (j := i + 2) hx hb hXs hbl hB hS (n_add (y := 2) (b := 2) rfl rfl) (by omega) hL4 dL_law_225 ?_
  refine lv_aload_n hx hb dL_law_226 rfl (lv_at hl 3 rfl) ?_
  refine lv_iload_n hx hb dL_law_227 rfl (lv_at hl 0 rfl) ?_
  refine lv_iconst (v := 3) hx hb dL_law_228 (by decide) ?_
  refine lv_iadd hx hb dL_law_229 ?_
  refine l_sld (j := i + 3) hx hb hXs hbl hB hS (n_add (y := 3) (b := 3) rfl rfl) (by omega) hL4 dL_law_230 ?_
  refine l_if (w := (wX G B tt)) (va_runV (As := [.int (xs (i + 1)), .int (xs (i + 2)), .int (xs (i + 3))]) (rest := []) ⟨hx, hb, hml, hown, hts⟩ (c_X7_set (l := l) (G := G) (B := B) (tt := tt) (hW := wX_ok G B tt) (x := x) (a := xs (i + 1)) (i := xs (i + 2)) (v := xs (i + 3)) (hRo := hRo)) (cwV 3 hts gL_law_X7_set rfl rfl rfl (by decide +kernel) ⟨Nat.le_of_ble_eq_true rfl, Nat.le_of_ble_eq_true rfl⟩) (l_pv (w := wX G B tt) (a := 0) (wX_ok G B tt) hX hK hE (l_q hS hB) [.int (xs (i + 1)), .int (xs (i + 2)), .int (xs (i + 3))] (Nat.le_of_ble_eq_true rfl) (shX_mn (G := G) (B := B)) rfl) rfl rfl hl.1 rfl (lv_room (Nat.le_of_ble_eq_true rfl)) dL_law_231 ⟨Nat.le_of_ble_eq_true rfl, Nat.le_of_ble_eq_true rfl⟩) hS (fun q h => h.1) (fun r1 u1 H lo q1 hU hz hk hS => ?_)
  try dsimp only at q1
  have hY := hY.far (fun a ha => hk _ (by have ha9 : a < 13 := ha; show B + 117 + a < _; omega) (fun z => absurd z.2 (by show ¬ B + 117 + a < B + 117; omega)))
  have hX := hU
  have hsz := Nat.le_trans hsz hz
  refine lv_aload_n hx hb dL_law_234 rfl (lv_at hl 1 rfl) ?_
  refine lv_aload_n hx hb dL_law_235 rfl (lv_at hl 3 rfl) ?_
  refine lv_iload_n hx hb dL_law_236 rfl (lv_at hl 0 rfl) ?_
  refine lv_iconst (v := 1) hx hb dL_law_237 (by decide) ?_
  refine lv_iadd hx hb dL_law_238 ?_
  refine l_sld (j := i + 1) hx hb hXs hbl hB hS (n_add (y := 1) (b := 1) rfl rfl) (by omega) hL4 dL_law_239 ?_
  refine lv_aload_n hx hb dL_law_240 rfl (lv_at hl 3 rfl) ?_
  refine lv_iload_n hx hb dL_law_241 rfl (lv_at hl 0 rfl) ?_
  refine lv_iconst (v := 2) hx hb dL_law_242 (by decide) ?_
  refine lv_iadd hx hb dL_law_243 ?_
  refine l_sld (j := i + 2) hx hb hXs hbl hB hS (n_add (y := 2) (b := 2) rfl rfl) (by omega) hL4 dL_law_244 ?_
  refine lv_aload_n hx hb dL_law_245 rfl (lv_at hl 3 rfl) ?_
  refine lv_iload_n hx hb dL_law_246 rfl (lv_at hl 0 rfl) ?_
  refine lv_iconst (v := 3) hx hb dL_law_247 (by decide) ?_
  refine lv_iadd hx hb dL_law_248 ?_
  refine l_sld (j := i + 3) hx hb hXs hbl hB hS (n_add (y := 3) (b := 3) rfl rfl) (by omega) hL4 dL_law_249 ?_
  refine l_if (w := (wM G (B + 117))) (va_runV (As := [.int (xs (i + 1)), .int (xs (i + 2)), .int (xs (i + 3))]) (rest := [.int (r1)]) ⟨hx, hb, hml, hown, hts⟩ (c_X8_set (l := l) (G := G) (B := B + 117) (hW := wM_ok G (B + 117)) (x := y) (a := xs (i + 1)) (i := xs (i + 2)) (v := xs (i + 3)) (hY := hYo)) (cwV 3 hts gL_law_X8_set rfl rfl rfl (by decide +kernel) ⟨Nat.le_of_ble_eq_true rfl, Nat.le_of_ble_eq_true rfl⟩) (l_pv (w := wM G (B + 117)) (a := 0) (wM_ok G (B + 117)) hY hK trivial (l_q hS hB) [.int (xs (i + 1)), .int (xs (i + 2)), .int (xs (i + 3))] (Nat.le_of_ble_eq_true rfl) (shM_0 (G := G) (B := B + 117)) rfl) rfl rfl hl.1 rfl (lv_room (Nat.le_of_ble_eq_true rfl)) dL_law_250 ⟨Nat.le_of_ble_eq_true rfl, Nat.le_of_ble_eq_true rfl⟩) hS (fun q h => Nat.le_trans (Nat.le_add_right B 117) h.1) (fun r2 u2 H lo q2 hU hz hk hS => ?_)
  try dsimp only at q2
  have hX := hX.far (fun a ha => hk _ (by have ha9 : a < 117 := ha; show B + a < _; omega) (fun z => absurd z.1 (by have ha9 : a < 117 := ha; show ¬ B + 117 ≤ B + a; omega)))
  have hsz := Nat.le_trans hsz hz
  have e9 := q_set hL q1 q2
  refine lv_icmp_eq (tgt := 1315) hx hb dL_law_253 (by decide) (fun c9 => ?_) (fun c9 => absurd e9.1 c9)
  exact K _ _ _ _ ⟨hsz, hX, hU, hS, e9.2⟩
set_option maxHeartbeats 4000000 in
set_option maxRecDepth 100000 in
theorem lc_copy {p : Program} {l : Launch} {e : Env} {s : State} {m : MethodId} {below : List Frame} {meth : Method} {c : Code} {b L : Nat} {xs : Nat → Int32} {G : GG} {B : Nat} {tt : Nat → Nat} {Q : State → Prop} {x y : Mem} {H : Heap} {locs : List Loc} {i : Nat} (C : LX p s m c b L xs G B tt) (hI : LI G B tt s x y H locs) (hi : i + 6 ≤ L) {ls : Array Slot} (hl : lv_has ls 4 [(3, .int (nI i)), (2, .ref (B + 117 + 0)), (1, .ref (B + 0)), (0, .ref b)]) (K : ∀ (x1 y1 : Mem) (H1 : Heap) (locs1 : List Loc), LI G B tt s x1 y1 H1 locs1 → W p l e room_1 s m #[Value.ref b] below meth c H1 locs1 130 2967 Q (F0 m 1315 ls [])) : W p l e room_1 s m #[Value.ref b] below meth c H locs 130 2967 Q (F0 m 258 ls []) := by
  obtain ⟨hx, hb, hml, hown, hts, hXs, hbl, hB, hK, hE, hL4⟩ := id C
  obtain ⟨hsz, hX, hY, hS, hL⟩ := hI
  obtain ⟨n, hR, hG⟩ := hL.2.2.2.2.2.1
  obtain ⟨hcx, hcy, hn8⟩ := hR.ge
  obtain ⟨t, ht4, htx, hty, hTE⟩ := hL.2.1
  obtain ⟨kt, hkt16, hktx, hkty, hktr⟩ := hL.2.2.2.2.1
  have hRo := hL.1.rok
  have hYo := hL.1.yok
  have hkk1 : ∀ j, j < n → ∃ k, 1 ≤ k ∧ k < 6 ∧ sK (y 5) j = nI k := fun j hj => (hG.2 j hj).1
  have hkk6 : ∀ j, j < n → ∃ k, k < 6 ∧ sK (y 5) j = nI k := fun j hj => by obtain ⟨k, k1, k2, k3⟩ := (hG.2 j hj).1; exact ⟨k, k2, k3⟩
  have hfl : ∀ j, j < n → sF (y 5) j 0 ≤ 9 := fun j hj => (hG.2 j hj).2.1
  obtain ⟨nk, hnk⟩ : ∃ nk : Nat → Nat, ∀ k, k < 2 → RR (nk k) x (45 + 10 * k) (y (6 + k)) ∧ RG (nk k) (y (6 + k)) := by
    obtain ⟨n0, h0⟩ := hL.2.2.2.2.2.2 0 (by decide)
    obtain ⟨n1, h1⟩ := hL.2.2.2.2.2.2 1 (by decide)
    refine ⟨fun k => if k = 0 then n0 else n1, fun k hk => ?_⟩
    have hk2 : k = 0 ∨ k = 1 := by omega
    rcases hk2 with rfl | rfl
    · exact h0
    · exact h1
  refine lv_aload_n hx hb dL_law_258 rfl (lv_at hl 2 rfl) ?_
  refine lv_aload_n hx hb dL_law_259 rfl (lv_at hl 3 rfl) ?_
  refine lv_iload_n hx hb dL_law_260 rfl (lv_at hl 0 rfl) ?_
  refine lv_iconst (v := 1) hx hb dL_law_261 (by decide) ?_
  refine lv_iadd hx hb dL_law_262 ?_
  refine l_sld (j := i + 1) hx hb hXs hbl hB hS (n_add (y := 1) (b := 1) rfl rfl) (by omega) hL4 dL_law_263 ?_
  refine lv_aload_n hx hb dL_law_264 rfl (lv_at hl 3 rfl) ?_
  refine lv_iload_n hx hb dL_law_265 rfl (lv_at hl 0 rfl) ?_
  refine lv_iconst (v := 2) hx hb dL_law_266 (by decide) ?_
  refine lv_iadd hx hb dL_law_267 ?_
  refine l_sld (j := i + 2) hx hb hXs hbl hB hS (n_add (y := 2) (b := 2) rfl rfl) (by omega) hL4 dL_law_268 ?_
  refine lv_aload_n hx hb dL_law_269 rfl (lv_at hl 3 rfl) ?_
  refine lv_iload_n hx hb dL_law_270 rfl (lv_at hl 0 rfl) ?_
  refine lv_iconst (v := 3) hx hb dL_law_271 (by decide) ?_
  refine lv_iadd hx hb dL_law_272 ?_
  refine l_sld (j := i + 3) hx hb hXs hbl hB hS (n_add (y := 3) (b := 3) rfl rfl) (by omega) hL4 dL_law_273 ?_
  refine lv_aload_n hx hb dL_law_274 rfl (lv_at hl 3 rfl) ?_
  refine lv_iload_n hx hb dL_law_275 rfl (lv_at hl 0 rfl) ?_
  refine lv_iconst (v := 4) hx hb dL_law_276 (by decide) ?_
  refine lv_iadd hx hb dL_law_277 ?_
  refine l_sld (j := i + 4) hx hb hXs hbl hB hS (n_add (y := 4) (b := 4) rfl rfl) (by omega) hL4 dL_law_278 ?_
  refine lv_aload_n hx hb dL_law_279 rfl (lv_at hl 3 rfl) ?_
  refine lv_iload_n hx hb dL_law_280 rfl (lv_at hl 0 rfl) ?_
  refine lv_iconst (v := 5) hx hb dL_law_281 (by decide) ?_
  refine lv_iadd hx hb dL_law_282 ?_
  refine l_sld (j := i + 5) hx hb hXs hbl hB hS (n_add (y := 5) (b := 5) rfl rfl) (by omega) hL4 dL_law_283 ?_
  refine l_if (w := (wX G B tt)) (va_runV (As := [.int (xs (i + 1)), .int (xs (i + 2)), .int (xs (i + 3)), .int (xs (i + 4)), .int (xs (i + 5))]) (rest := []) ⟨hx, hb, hml, hown, hts⟩ (c_X7_copy (l := l) (G := G) (B := B) (tt := tt) (hW := wX_ok G B tt) (x := x) (a := xs (i + 1)) (i := xs (i + 2)) (b9 := xs (i + 3)) (j := xs (i + 4)) (k := xs (i + 5)) (hRo := hRo)) (cwV 5 hts gL_law_X7_copy rfl rfl rfl (by decide +kernel) ⟨Nat.le_of_ble_eq_true rfl, Nat.le_of_ble_eq_true rfl⟩) (l_pv (w := wX G B tt) (a := 0) (wX_ok G B tt) hX hK hE (l_q hS hB) [.int (xs (i + 1)), .int (xs (i + 2)), .int (xs (i + 3)), .int (xs (i + 4)), .int (xs (i + 5))] (Nat.le_of_ble_eq_true rfl) (shX_mn (G := G) (B := B)) rfl) rfl rfl hl.1 rfl (lv_room (Nat.le_of_ble_eq_true rfl)) dL_law_284 ⟨Nat.le_of_ble_eq_true rfl, Nat.le_of_ble_eq_true rfl⟩) hS (fun q h => h.1) (fun r1 u1 H lo q1 hU hz hk hS => ?_)
  try dsimp only at q1
  have hY := hY.far (fun a ha => hk _ (by have ha9 : a < 13 := ha; show B + 117 + a < _; omega) (fun z => absurd z.2 (by show ¬ B + 117 + a < B + 117; omega)))
  have hX := hU
  have hsz := Nat.le_trans hsz hz
  refine lv_aload_n hx hb dL_law_287 rfl (lv_at hl 1 rfl) ?_
  refine lv_aload_n hx hb dL_law_288 rfl (lv_at hl 3 rfl) ?_
  refine lv_iload_n hx hb dL_law_289 rfl (lv_at hl 0 rfl) ?_
  refine lv_iconst (v := 1) hx hb dL_law_290 (by decide) ?_
  refine lv_iadd hx hb dL_law_291 ?_
  refine l_sld (j := i + 1) hx hb hXs hbl hB hS (n_add (y := 1) (b := 1) rfl rfl) (by omega) hL4 dL_law_292 ?_
  refine lv_aload_n hx hb dL_law_293 rfl (lv_at hl 3 rfl) ?_
  refine lv_iload_n hx hb dL_law_294 rfl (lv_at hl 0 rfl) ?_
  refine lv_iconst (v := 2) hx hb dL_law_295 (by decide) ?_
  refine lv_iadd hx hb dL_law_296 ?_
  refine l_sld (j := i + 2) hx hb hXs hbl hB hS (n_add (y := 2) (b := 2) rfl rfl) (by omega) hL4 dL_law_297 ?_
  refine lv_aload_n hx hb dL_law_298 rfl (lv_at hl 3 rfl) ?_
  refine lv_iload_n hx hb dL_law_299 rfl (lv_at hl 0 rfl) ?_
  refine lv_iconst (v := 3) hx hb dL_law_300 (by decide) ?_
  refine lv_iadd hx hb dL_law_301 ?_
  refine l_sld (j := i + 3) hx hb hXs hbl hB hS (n_add (y := 3) (b := 3) rfl rfl) (by omega) hL4 dL_law_302 ?_
  refine lv_aload_n hx hb dL_law_303 rfl (lv_at hl 3 rfl) ?_
  refine lv_iload_n hx hb dL_law_304 rfl (lv_at hl 0 rfl) ?_
  refine lv_iconst (v := 4) hx hb dL_law_305 (by decide) ?_
  refine lv_iadd hx hb dL_law_306 ?_
  refine l_sld (j := i + 4) hx hb hXs hbl hB hS (n_add (y := 4) (b := 4) rfl rfl) (by omega) hL4 dL_law_307 ?_
  refine lv_aload_n hx hb dL_law_308 rfl (lv_at hl 3 rfl) ?_
  refine lv_iload_n hx hb dL_law_309 rfl (lv_at hl 0 rfl) ?_
  refine lv_iconst (v := 5) hx hb dL_law_310 (by decide) ?_
  refine lv_iadd hx hb dL_law_311 ?_
  refine l_sld (j := i + 5) hx hb hXs hbl hB hS (n_add (y := 5) (b := 5) rfl rfl) (by omega) hL4 dL_law_312 ?_
  refine l_if (w := (wM G (B + 117))) (va_runV (As := [.int (xs (i + 1)), .int (xs (i + 2)), .int (xs (i + 3)), .int (xs (i + 4)), .int (xs (i + 5))]) (rest := [.int (r1)]) ⟨hx, hb, hml, hown, hts⟩ (c_X8_copy (l := l) (G := G) (B := B + 117) (hW := wM_ok G (B + 117)) (x := y) (a := xs (i + 1)) (i := xs (i + 2)) (b9 := xs (i + 3)) (j := xs (i + 4)) (k := xs (i + 5)) (hY := hYo)) (cwV 5 hts gL_law_X8_copy rfl rfl rfl (by decide +kernel) ⟨Nat.le_of_ble_eq_true rfl, Nat.le_of_ble_eq_true rfl⟩) (l_pv (w := wM G (B + 117)) (a := 0) (wM_ok G (B + 117)) hY hK trivial (l_q hS hB) [.int (xs (i + 1)), .int (xs (i + 2)), .int (xs (i + 3)), .int (xs (i + 4)), .int (xs (i + 5))] (Nat.le_of_ble_eq_true rfl) (shM_0 (G := G) (B := B + 117)) rfl) rfl rfl hl.1 rfl (lv_room (Nat.le_of_ble_eq_true rfl)) dL_law_313 ⟨Nat.le_of_ble_eq_true rfl, Nat.le_of_ble_eq_true rfl⟩) hS (fun q h => Nat.le_trans (Nat.le_add_right B 117) h.1) (fun r2 u2 H lo q2 hU hz hk hS => ?_)
  try dsimp only at q2
  have hX := hX.far (fun a ha => hk _ (by have ha9 : a < 117 := ha; show B + a < _; omega) (fun z => absurd z.1 (by have ha9 : a < 117 := ha; show ¬ B + 117 ≤ B + a; omega)))
  have hsz := Nat.le_trans hsz hz
  have e9 := q_copy hL q1 q2
  refine lv_icmp_eq (tgt := 1315) hx hb dL_law_316 (by decide) (fun c9 => ?_) (fun c9 => absurd e9.1 c9)
  exact K _ _ _ _ ⟨hsz, hX, hU, hS, e9.2⟩
set_option maxHeartbeats 4000000 in
set_option maxRecDepth 100000 in
theorem lc_drop {p : Program} {l : Launch} {e : Env} {s : State} {m : MethodId} {below : List Frame} {meth : Method} {c : Code} {b L : Nat} {xs : Nat → Int32} {G : GG} {B : Nat} {tt : Nat → Nat} {Q : State → Prop} {x y : Mem} {H : Heap} {locs : List Loc} {i : Nat} (C : LX p s m c b L xs G B tt) (hI : LI G B tt s x y H locs) (hi : i + 6 ≤ L) {ls : Array Slot} (hl : lv_has ls 4 [(3, .int (nI i)), (2, .ref (B + 117 + 0)), (1, .ref (B + 0)), (0, .ref b)]) (K : ∀ (x1 y1 : Mem) (H1 : Heap) (locs1 : List Loc), LI G B tt s x1 y1 H1 locs1 → W p l e room_1 s m #[Value.ref b] below meth c H1 locs1 130 2967 Q (F0 m 1315 ls [])) : W p l e room_1 s m #[Value.ref b] below meth c H locs 130 2967 Q (F0 m 321 ls []) := by
  obtain ⟨hx, hb, hml, hown, hts, hXs, hbl, hB, hK, hE, hL4⟩ := id C
  obtain ⟨hsz, hX, hY, hS, hL⟩ := hI
  obtain ⟨n, hR, hG⟩ := hL.2.2.2.2.2.1
  obtain ⟨hcx, hcy, hn8⟩ := hR.ge
  obtain ⟨t, ht4, htx, hty, hTE⟩ := hL.2.1
  obtain ⟨kt, hkt16, hktx, hkty, hktr⟩ := hL.2.2.2.2.1
  have hRo := hL.1.rok
  have hYo := hL.1.yok
  have hkk1 : ∀ j, j < n → ∃ k, 1 ≤ k ∧ k < 6 ∧ sK (y 5) j = nI k := fun j hj => (hG.2 j hj).1
  have hkk6 : ∀ j, j < n → ∃ k, k < 6 ∧ sK (y 5) j = nI k := fun j hj => by obtain ⟨k, k1, k2, k3⟩ := (hG.2 j hj).1; exact ⟨k, k2, k3⟩
  have hfl : ∀ j, j < n → sF (y 5) j 0 ≤ 9 := fun j hj => (hG.2 j hj).2.1
  obtain ⟨nk, hnk⟩ : ∃ nk : Nat → Nat, ∀ k, k < 2 → RR (nk k) x (45 + 10 * k) (y (6 + k)) ∧ RG (nk k) (y (6 + k)) := by
    obtain ⟨n0, h0⟩ := hL.2.2.2.2.2.2 0 (by decide)
    obtain ⟨n1, h1⟩ := hL.2.2.2.2.2.2 1 (by decide)
    refine ⟨fun k => if k = 0 then n0 else n1, fun k hk => ?_⟩
    have hk2 : k = 0 ∨ k = 1 := by omega
    rcases hk2 with rfl | rfl
    · exact h0
    · exact h1
  refine lv_aload_n hx hb dL_law_321 rfl (lv_at hl 2 rfl) ?_
  refine lv_aload_n hx hb dL_law_322 rfl (lv_at hl 3 rfl) ?_
  refine lv_iload_n hx hb dL_law_323 rfl (lv_at hl 0 rfl) ?_
  refine lv_iconst (v := 1) hx hb dL_law_324 (by decide) ?_
  refine lv_iadd hx hb dL_law_325 ?_
  refine l_sld (j := i + 1) hx hb hXs hbl hB hS (n_add (y := 1) (b := 1) rfl rfl) (by omega) hL4 dL_law_326 ?_
  refine l_if (w := (wX G B tt)) (va_runV (As := [.int (xs (i + 1))]) (rest := []) ⟨hx, hb, hml, hown, hts⟩ (c_X7_drop (l := l) (G := G) (B := B) (tt := tt) (hW := wX_ok G B tt) (x := x) (a := xs (i + 1))) (cwV 1 hts gL_law_X7_drop rfl rfl rfl (by decide +kernel) ⟨Nat.le_of_ble_eq_true rfl, Nat.le_of_ble_eq_true rfl⟩) (l_pv (w := wX G B tt) (a := 0) (wX_ok G B tt) hX hK hE (l_q hS hB) [.int (xs (i + 1))] (Nat.le_of_ble_eq_true rfl) (shX_mn (G := G) (B := B)) rfl) rfl rfl hl.1 rfl (lv_room (Nat.le_of_ble_eq_true rfl)) dL_law_327 ⟨Nat.le_of_ble_eq_true rfl, Nat.le_of_ble_eq_true rfl⟩) hS (fun q h => h.1) (fun r1 u1 H lo q1 hU hz hk hS => ?_)
  try dsimp only at q1
  have hY := hY.far (fun a ha => hk _ (by have ha9 : a < 13 := ha; show B + 117 + a < _; omega) (fun z => absurd z.2 (by show ¬ B + 117 + a < B + 117; omega)))
  have hX := hU
  have hsz := Nat.le_trans hsz hz
  refine lv_aload_n hx hb dL_law_330 rfl (lv_at hl 1 rfl) ?_
  refine lv_aload_n hx hb dL_law_331 rfl (lv_at hl 3 rfl) ?_
  refine lv_iload_n hx hb dL_law_332 rfl (lv_at hl 0 rfl) ?_
  refine lv_iconst (v := 1) hx hb dL_law_333 (by decide) ?_
  refine lv_iadd hx hb dL_law_334 ?_
  refine l_sld (j := i + 1) hx hb hXs hbl hB hS (n_add (y := 1) (b := 1) rfl rfl) (by omega) hL4 dL_law_335 ?_
  refine l_if (w := (wM G (B + 117))) (va_runV (As := [.int (xs (i + 1))]) (rest := [.int (r1)]) ⟨hx, hb, hml, hown, hts⟩ (c_X8_drop (l := l) (G := G) (B := B + 117) (hW := wM_ok G (B + 117)) (x := y) (a := xs (i + 1))) (cwV 1 hts gL_law_X8_drop rfl rfl rfl (by decide +kernel) ⟨Nat.le_of_ble_eq_true rfl, Nat.le_of_ble_eq_true rfl⟩) (l_pv (w := wM G (B + 117)) (a := 0) (wM_ok G (B + 117)) hY hK trivial (l_q hS hB) [.int (xs (i + 1))] (Nat.le_of_ble_eq_true rfl) (shM_0 (G := G) (B := B + 117)) rfl) rfl rfl hl.1 rfl (lv_room (Nat.le_of_ble_eq_true rfl)) dL_law_336 ⟨Nat.le_of_ble_eq_true rfl, Nat.le_of_ble_eq_true rfl⟩) hS (fun q h => Nat.le_trans (Nat.le_add_right B 117) h.1) (fun r2 u2 H lo q2 hU hz hk hS => ?_)
  try dsimp only at q2
  have hX := hX.far (fun a ha => hk _ (by have ha9 : a < 117 := ha; show B + a < _; omega) (fun z => absurd z.1 (by have ha9 : a < 117 := ha; show ¬ B + 117 ≤ B + a; omega)))
  have hsz := Nat.le_trans hsz hz
  have e9 := q_drop hL q1 q2
  refine lv_icmp_eq (tgt := 1315) hx hb dL_law_339 (by decide) (fun c9 => ?_) (fun c9 => absurd e9.1 c9)
  exact K _ _ _ _ ⟨hsz, hX, hU, hS, e9.2⟩
set_option maxHeartbeats 4000000 in
set_option maxRecDepth 100000 in
theorem lc_feed {p : Program} {l : Launch} {e : Env} {s : State} {m : MethodId} {below : List Frame} {meth : Method} {c : Code} {b L : Nat} {xs : Nat → Int32} {G : GG} {B : Nat} {tt : Nat → Nat} {Q : State → Prop} {x y : Mem} {H : Heap} {locs : List Loc} {i : Nat} (C : LX p s m c b L xs G B tt) (hI : LI G B tt s x y H locs) (hi : i + 6 ≤ L) {ls : Array Slot} (hl : lv_has ls 4 [(3, .int (nI i)), (2, .ref (B + 117 + 0)), (1, .ref (B + 0)), (0, .ref b)]) (K : ∀ (x1 y1 : Mem) (H1 : Heap) (locs1 : List Loc), LI G B tt s x1 y1 H1 locs1 → W p l e room_1 s m #[Value.ref b] below meth c H1 locs1 130 2967 Q (F0 m 1315 ls [])) : W p l e room_1 s m #[Value.ref b] below meth c H locs 130 2967 Q (F0 m 344 ls []) := by
  obtain ⟨hx, hb, hml, hown, hts, hXs, hbl, hB, hK, hE, hL4⟩ := id C
  obtain ⟨hsz, hX, hY, hS, hL⟩ := hI
  obtain ⟨n, hR, hG⟩ := hL.2.2.2.2.2.1
  obtain ⟨hcx, hcy, hn8⟩ := hR.ge
  obtain ⟨t, ht4, htx, hty, hTE⟩ := hL.2.1
  obtain ⟨kt, hkt16, hktx, hkty, hktr⟩ := hL.2.2.2.2.1
  have hRo := hL.1.rok
  have hYo := hL.1.yok
  have hkk1 : ∀ j, j < n → ∃ k, 1 ≤ k ∧ k < 6 ∧ sK (y 5) j = nI k := fun j hj => (hG.2 j hj).1
  have hkk6 : ∀ j, j < n → ∃ k, k < 6 ∧ sK (y 5) j = nI k := fun j hj => by obtain ⟨k, k1, k2, k3⟩ := (hG.2 j hj).1; exact ⟨k, k2, k3⟩
  have hfl : ∀ j, j < n → sF (y 5) j 0 ≤ 9 := fun j hj => (hG.2 j hj).2.1
  obtain ⟨nk, hnk⟩ : ∃ nk : Nat → Nat, ∀ k, k < 2 → RR (nk k) x (45 + 10 * k) (y (6 + k)) ∧ RG (nk k) (y (6 + k)) := by
    obtain ⟨n0, h0⟩ := hL.2.2.2.2.2.2 0 (by decide)
    obtain ⟨n1, h1⟩ := hL.2.2.2.2.2.2 1 (by decide)
    refine ⟨fun k => if k = 0 then n0 else n1, fun k hk => ?_⟩
    have hk2 : k = 0 ∨ k = 1 := by omega
    rcases hk2 with rfl | rfl
    · exact h0
    · exact h1
  refine lv_aload_n hx hb dL_law_344 rfl (lv_at hl 2 rfl) ?_
  refine lv_aload_n hx hb dL_law_345 rfl (lv_at hl 3 rfl) ?_
  refine lv_iload_n hx hb dL_law_346 rfl (lv_at hl 0 rfl) ?_
  refine lv_iconst (v := 1) hx hb dL_law_347 (by decide) ?_
  refine lv_iadd hx hb dL_law_348 ?_
  refine l_sld (j := i + 1) hx hb hXs hbl hB hS (n_add (y := 1) (b := 1) rfl rfl) (by omega) hL4 dL_law_349 ?_
  refine lv_i2l (v := (xs (i + 1) : Int32).toInt64) hx hb dL_law_350 rfl ?_
  refine lv_bipush (v := 32) hx hb dL_law_351 (by decide) ?_
  refine lv_lshl (v := ((xs (i + 1) : Int32).toInt64) <<< ((32 : Int32).toInt64 &&& 63)) hx hb dL_law_353 rfl ?_
  refine lv_aload_n hx hb dL_law_354 rfl (lv_at hl 3 rfl) ?_
  refine lv_iload_n hx hb dL_law_355 rfl (lv_at hl 0 rfl) ?_
  refine lv_iconst (v := 2) hx hb dL_law_356 (by decide) ?_
  refine lv_iadd hx hb dL_law_357 ?_
  refine l_sld (j := i + 2) hx hb hXs hbl hB hS (n_add (y := 2) (b := 2) rfl rfl) (by omega) hL4 dL_law_358 ?_
  refine lv_i2l (v := (xs (i + 2) : Int32).toInt64) hx hb dL_law_359 rfl ?_
  refine lv_ldc2 (v := 4294967295) hx hb hown (hts (.constantLong RL 32 (4294967295)) wL_c32) dL_law_360 ?_
  refine lv_land hx hb dL_law_363 ?_
  refine lv_lor hx hb dL_law_364 ?_
  refine lv_aload_n hx hb dL_law_365 rfl (lv_at hl 3 rfl) ?_
  refine lv_iload_n hx hb dL_law_366 rfl (lv_at hl 0 rfl) ?_
  refine lv_iconst (v := 3) hx hb dL_law_367 (by decide) ?_
  refine lv_iadd hx hb dL_law_368 ?_
  refine l_sld (j := i + 3) hx hb hXs hbl hB hS (n_add (y := 3) (b := 3) rfl rfl) (by omega) hL4 dL_law_369 ?_
  refine l_if (w := (wX G B tt)) (va_runV (As := [.long ((((xs (i + 1) : Int32).toInt64) <<< ((32 : Int32).toInt64 &&& 63)) ||| (((xs (i + 2) : Int32).toInt64) &&& 4294967295)), .int (xs (i + 3))]) (rest := []) ⟨hx, hb, hml, hown, hts⟩ (c_X7_feed (l := l) (G := G) (B := B) (tt := tt) (hW := wX_ok G B tt) (x := x) (w := (((xs (i + 1) : Int32).toInt64) <<< ((32 : Int32).toInt64 &&& 63)) ||| (((xs (i + 2) : Int32).toInt64) &&& 4294967295)) (n := xs (i + 3)) (t := t) (ht9 := htx) (ht400 := ht4)) (cwV 2 hts gL_law_X7_feed rfl rfl rfl (by decide +kernel) ⟨Nat.le_of_ble_eq_true rfl, Nat.le_of_ble_eq_true rfl⟩) (l_pv (w := wX G B tt) (a := 0) (wX_ok G B tt) hX hK hE (l_q hS hB) [.long ((((xs (i + 1) : Int32).toInt64) <<< ((32 : Int32).toInt64 &&& 63)) ||| (((xs (i + 2) : Int32).toInt64) &&& 4294967295)), .int (xs (i + 3))] (Nat.le_of_ble_eq_true rfl) (shX_mn (G := G) (B := B)) rfl) rfl rfl hl.1 rfl (lv_room (Nat.le_of_ble_eq_true rfl)) dL_law_370 ⟨Nat.le_of_ble_eq_true rfl, Nat.le_of_ble_eq_true rfl⟩) hS (fun q h => h.1) (fun r1 u1 H lo q1 hU hz hk hS => ?_)
  try dsimp only at q1
  have hY := hY.far (fun a ha => hk _ (by have ha9 : a < 13 := ha; show B + 117 + a < _; omega) (fun z => absurd z.2 (by show ¬ B + 117 + a < B + 117; omega)))
  have hX := hU
  have hsz := Nat.le_trans hsz hz
  refine lv_aload_n hx hb dL_law_373 rfl (lv_at hl 1 rfl) ?_
  refine lv_aload_n hx hb dL_law_374 rfl (lv_at hl 3 rfl) ?_
  refine lv_iload_n hx hb dL_law_375 rfl (lv_at hl 0 rfl) ?_
  refine lv_iconst (v := 1) hx hb dL_law_376 (by decide) ?_
  refine lv_iadd hx hb dL_law_377 ?_
  refine l_sld (j := i + 1) hx hb hXs hbl hB hS (n_add (y := 1) (b := 1) rfl rfl) (by omega) hL4 dL_law_378 ?_
  refine lv_i2l (v := (xs (i + 1) : Int32).toInt64) hx hb dL_law_379 rfl ?_
  refine lv_bipush (v := 32) hx hb dL_law_380 (by decide) ?_
  refine lv_lshl (v := ((xs (i + 1) : Int32).toInt64) <<< ((32 : Int32).toInt64 &&& 63)) hx hb dL_law_382 rfl ?_
  refine lv_aload_n hx hb dL_law_383 rfl (lv_at hl 3 rfl) ?_
  refine lv_iload_n hx hb dL_law_384 rfl (lv_at hl 0 rfl) ?_
  refine lv_iconst (v := 2) hx hb dL_law_385 (by decide) ?_
  refine lv_iadd hx hb dL_law_386 ?_
  refine l_sld (j := i + 2) hx hb hXs hbl hB hS (n_add (y := 2) (b := 2) rfl rfl) (by omega) hL4 dL_law_387 ?_
  refine lv_i2l (v := (xs (i + 2) : Int32).toInt64) hx hb dL_law_388 rfl ?_
  refine lv_ldc2 (v := 4294967295) hx hb hown (hts (.constantLong RL 32 (4294967295)) wL_c32) dL_law_389 ?_
  refine lv_land hx hb dL_law_392 ?_
  refine lv_lor hx hb dL_law_393 ?_
  refine lv_aload_n hx hb dL_law_394 rfl (lv_at hl 3 rfl) ?_
  refine lv_iload_n hx hb dL_law_395 rfl (lv_at hl 0 rfl) ?_
  refine lv_iconst (v := 3) hx hb dL_law_396 (by decide) ?_
  refine lv_iadd hx hb dL_law_397 ?_
  refine l_sld (j := i + 3) hx hb hXs hbl hB hS (n_add (y := 3) (b := 3) rfl rfl) (by omega) hL4 dL_law_398 ?_
  refine l_if (w := (wM G (B + 117))) (va_runV (As := [.long ((((xs (i + 1) : Int32).toInt64) <<< ((32 : Int32).toInt64 &&& 63)) ||| (((xs (i + 2) : Int32).toInt64) &&& 4294967295)), .int (xs (i + 3))]) (rest := [.int (r1)]) ⟨hx, hb, hml, hown, hts⟩ (c_X8_feed (l := l) (G := G) (B := B + 117) (hW := wM_ok G (B + 117)) (x := y) (w := (((xs (i + 1) : Int32).toInt64) <<< ((32 : Int32).toInt64 &&& 63)) ||| (((xs (i + 2) : Int32).toInt64) &&& 4294967295)) (n := xs (i + 3)) (t := t) (ht9 := hty) (ht400 := ht4)) (cwV 2 hts gL_law_X8_feed rfl rfl rfl (by decide +kernel) ⟨Nat.le_of_ble_eq_true rfl, Nat.le_of_ble_eq_true rfl⟩) (l_pv (w := wM G (B + 117)) (a := 0) (wM_ok G (B + 117)) hY hK trivial (l_q hS hB) [.long ((((xs (i + 1) : Int32).toInt64) <<< ((32 : Int32).toInt64 &&& 63)) ||| (((xs (i + 2) : Int32).toInt64) &&& 4294967295)), .int (xs (i + 3))] (Nat.le_of_ble_eq_true rfl) (shM_0 (G := G) (B := B + 117)) rfl) rfl rfl hl.1 rfl (lv_room (Nat.le_of_ble_eq_true rfl)) dL_law_399 ⟨Nat.le_of_ble_eq_true rfl, Nat.le_of_ble_eq_true rfl⟩) hS (fun q h => Nat.le_trans (Nat.le_add_right B 117) h.1) (fun r2 u2 H lo q2 hU hz hk hS => ?_)
  try dsimp only at q2
  have hX := hX.far (fun a ha => hk _ (by have ha9 : a < 117 := ha; show B + a < _; omega) (fun z => absurd z.1 (by have ha9 : a < 117 := ha; show ¬ B + 117 ≤ B + a; omega)))
  have hsz := Nat.le_trans hsz hz
  have e9 := q_feed hL htx hty ht4 hTE q1 q2
  refine lv_icmp_eq (tgt := 1315) hx hb dL_law_402 (by decide) (fun c9 => ?_) (fun c9 => absurd e9.1 c9)
  exact K _ _ _ _ ⟨hsz, hX, hU, hS, e9.2⟩
set_option maxHeartbeats 4000000 in
set_option maxRecDepth 100000 in
theorem lc_ridge {p : Program} {l : Launch} {e : Env} {s : State} {m : MethodId} {below : List Frame} {meth : Method} {c : Code} {b L : Nat} {xs : Nat → Int32} {G : GG} {B : Nat} {tt : Nat → Nat} {Q : State → Prop} {x y : Mem} {H : Heap} {locs : List Loc} {i : Nat} (C : LX p s m c b L xs G B tt) (hI : LI G B tt s x y H locs) (hi : i + 6 ≤ L) {ls : Array Slot} (hl : lv_has ls 4 [(3, .int (nI i)), (2, .ref (B + 117 + 0)), (1, .ref (B + 0)), (0, .ref b)]) (K : ∀ (x1 y1 : Mem) (H1 : Heap) (locs1 : List Loc), LI G B tt s x1 y1 H1 locs1 → W p l e room_1 s m #[Value.ref b] below meth c H1 locs1 130 2967 Q (F0 m 1315 ls [])) : W p l e room_1 s m #[Value.ref b] below meth c H locs 130 2967 Q (F0 m 407 ls []) := by
  obtain ⟨hx, hb, hml, hown, hts, hXs, hbl, hB, hK, hE, hL4⟩ := id C
  obtain ⟨hsz, hX, hY, hS, hL⟩ := hI
  obtain ⟨n, hR, hG⟩ := hL.2.2.2.2.2.1
  obtain ⟨hcx, hcy, hn8⟩ := hR.ge
  obtain ⟨t, ht4, htx, hty, hTE⟩ := hL.2.1
  obtain ⟨kt, hkt16, hktx, hkty, hktr⟩ := hL.2.2.2.2.1
  have hRo := hL.1.rok
  have hYo := hL.1.yok
  have hkk1 : ∀ j, j < n → ∃ k, 1 ≤ k ∧ k < 6 ∧ sK (y 5) j = nI k := fun j hj => (hG.2 j hj).1
  have hkk6 : ∀ j, j < n → ∃ k, k < 6 ∧ sK (y 5) j = nI k := fun j hj => by obtain ⟨k, k1, k2, k3⟩ := (hG.2 j hj).1; exact ⟨k, k2, k3⟩
  have hfl : ∀ j, j < n → sF (y 5) j 0 ≤ 9 := fun j hj => (hG.2 j hj).2.1
  obtain ⟨nk, hnk⟩ : ∃ nk : Nat → Nat, ∀ k, k < 2 → RR (nk k) x (45 + 10 * k) (y (6 + k)) ∧ RG (nk k) (y (6 + k)) := by
    obtain ⟨n0, h0⟩ := hL.2.2.2.2.2.2 0 (by decide)
    obtain ⟨n1, h1⟩ := hL.2.2.2.2.2.2 1 (by decide)
    refine ⟨fun k => if k = 0 then n0 else n1, fun k hk => ?_⟩
    have hk2 : k = 0 ∨ k = 1 := by omega
    rcases hk2 with rfl | rfl
    · exact h0
    · exact h1
  refine lv_aload_n hx hb dL_law_407 rfl (lv_at hl 2 rfl) ?_
  refine l_if (w := (wX G B tt)) (va_runV (As := []) (rest := []) ⟨hx, hb, hml, hown, hts⟩ (c_X7_ridge (l := l) (G := G) (B := B) (tt := tt) (hW := wX_ok G B tt) (x := x) (t := t) (ht9 := htx) (ht400 := ht4)) (cwV 0 hts gL_law_X7_ridge rfl rfl rfl (by decide +kernel) ⟨Nat.le_of_ble_eq_true rfl, Nat.le_of_ble_eq_true rfl⟩) (l_pv (w := wX G B tt) (a := 0) (wX_ok G B tt) hX hK hE (l_q hS hB) [] (Nat.le_of_ble_eq_true rfl) (shX_mn (G := G) (B := B)) rfl) rfl rfl hl.1 rfl (lv_room (Nat.le_of_ble_eq_true rfl)) dL_law_408 ⟨Nat.le_of_ble_eq_true rfl, Nat.le_of_ble_eq_true rfl⟩) hS (fun q h => h.1) (fun r1 u1 H lo q1 hU hz hk hS => ?_)
  try dsimp only at q1
  have hY := hY.far (fun a ha => hk _ (by have ha9 : a < 13 := ha; show B + 117 + a < _; omega) (fun z => absurd z.2 (by show ¬ B + 117 + a < B + 117; omega)))
  have hX := hU
  have hsz := Nat.le_trans hsz hz
  refine lv_aload_n hx hb dL_law_411 rfl (lv_at hl 1 rfl) ?_
  refine l_if (w := (wM G (B + 117))) (va_runV (As := []) (rest := [.int (r1)]) ⟨hx, hb, hml, hown, hts⟩ (c_X8_ridge (l := l) (G := G) (B := B + 117) (hW := wM_ok G (B + 117)) (x := y) (t := t) (ht9 := hty) (ht400 := ht4)) (cwV 0 hts gL_law_X8_ridge rfl rfl rfl (by decide +kernel) ⟨Nat.le_of_ble_eq_true rfl, Nat.le_of_ble_eq_true rfl⟩) (l_pv (w := wM G (B + 117)) (a := 0) (wM_ok G (B + 117)) hY hK trivial (l_q hS hB) [] (Nat.le_of_ble_eq_true rfl) (shM_0 (G := G) (B := B + 117)) rfl) rfl rfl hl.1 rfl (lv_room (Nat.le_of_ble_eq_true rfl)) dL_law_412 ⟨Nat.le_of_ble_eq_true rfl, Nat.le_of_ble_eq_true rfl⟩) hS (fun q h => Nat.le_trans (Nat.le_add_right B 117) h.1) (fun r2 u2 H lo q2 hU hz hk hS => ?_)
  try dsimp only at q2
  have hX := hX.far (fun a ha => hk _ (by have ha9 : a < 117 := ha; show B + a < _; omega) (fun z => absurd z.1 (by have ha9 : a < 117 := ha; show ¬ B + 117 ≤ B + a; omega)))
  have hsz := Nat.le_trans hsz hz
  have e9 := q_ridge hL hTE q1 q2
  refine lv_icmp_eq (tgt := 1315) hx hb dL_law_415 (by decide) (fun c9 => ?_) (fun c9 => absurd e9.1 c9)
  exact K _ _ _ _ ⟨hsz, hX, hU, hS, e9.2⟩
set_option maxHeartbeats 4000000 in
set_option maxRecDepth 100000 in
theorem lc_fault {p : Program} {l : Launch} {e : Env} {s : State} {m : MethodId} {below : List Frame} {meth : Method} {c : Code} {b L : Nat} {xs : Nat → Int32} {G : GG} {B : Nat} {tt : Nat → Nat} {Q : State → Prop} {x y : Mem} {H : Heap} {locs : List Loc} {i : Nat} (C : LX p s m c b L xs G B tt) (hI : LI G B tt s x y H locs) (hi : i + 6 ≤ L) {ls : Array Slot} (hl : lv_has ls 4 [(3, .int (nI i)), (2, .ref (B + 117 + 0)), (1, .ref (B + 0)), (0, .ref b)]) (K : ∀ (x1 y1 : Mem) (H1 : Heap) (locs1 : List Loc), LI G B tt s x1 y1 H1 locs1 → W p l e room_1 s m #[Value.ref b] below meth c H1 locs1 130 2967 Q (F0 m 1315 ls [])) : W p l e room_1 s m #[Value.ref b] below meth c H locs 130 2967 Q (F0 m 420 ls []) := by
  obtain ⟨hx, hb, hml, hown, hts, hXs, hbl, hB, hK, hE, hL4⟩ := id C
  obtain ⟨hsz, hX, hY, hS, hL⟩ := hI
  obtain ⟨n, hR, hG⟩ := hL.2.2.2.2.2.1
  obtain ⟨hcx, hcy, hn8⟩ := hR.ge
  obtain ⟨t, ht4, htx, hty, hTE⟩ := hL.2.1
  obtain ⟨kt, hkt16, hktx, hkty, hktr⟩ := hL.2.2.2.2.1
  have hRo := hL.1.rok
  have hYo := hL.1.yok
  have hkk1 : ∀ j, j < n → ∃ k, 1 ≤ k ∧ k < 6 ∧ sK (y 5) j = nI k := fun j hj => (hG.2 j hj).1
  have hkk6 : ∀ j, j < n → ∃ k, k < 6 ∧ sK (y 5) j = nI k := fun j hj => by obtain ⟨k, k1, k2, k3⟩ := (hG.2 j hj).1; exact ⟨k, k2, k3⟩
  have hfl : ∀ j, j < n → sF (y 5) j 0 ≤ 9 := fun j hj => (hG.2 j hj).2.1
  obtain ⟨nk, hnk⟩ : ∃ nk : Nat → Nat, ∀ k, k < 2 → RR (nk k) x (45 + 10 * k) (y (6 + k)) ∧ RG (nk k) (y (6 + k)) := by
    obtain ⟨n0, h0⟩ := hL.2.2.2.2.2.2 0 (by decide)
    obtain ⟨n1, h1⟩ := hL.2.2.2.2.2.2 1 (by decide)
    refine ⟨fun k => if k = 0 then n0 else n1, fun k hk => ?_⟩
    have hk2 : k = 0 ∨ k = 1 := by omega
    rcases hk2 with rfl | rfl
    · exact h0
    · exact h1
  refine lv_aload_n hx hb dL_law_420 rfl (lv_at hl 2 rfl) ?_
  refine l_if (w := (wX G B tt)) (va_runV (As := []) (rest := []) ⟨hx, hb, hml, hown, hts⟩ (c_X7_fault (l := l) (G := G) (B := B) (tt := tt) (hW := wX_ok G B tt) (x := x) ) (cwV 0 hts gL_law_X7_fault rfl rfl rfl (by decide +kernel) ⟨Nat.le_of_ble_eq_true rfl, Nat.le_of_ble_eq_true rfl⟩) (l_pv (w := wX G B tt) (a := 0) (wX_ok G B tt) hX hK hE (l_q hS hB) [] (Nat.le_of_ble_eq_true rfl) (shX_mn (G := G) (B := B)) rfl) rfl rfl hl.1 rfl (lv_room (Nat.le_of_ble_eq_true rfl)) dL_law_421 ⟨Nat.le_of_ble_eq_true rfl, Nat.le_of_ble_eq_true rfl⟩) hS (fun q h => h.1) (fun r1 u1 H lo q1 hU hz hk hS => ?_)
  try dsimp only at q1
  have hY := hY.far (fun a ha => hk _ (by have ha9 : a < 13 := ha; show B + 117 + a < _; omega) (fun z => absurd z.2 (by show ¬ B + 117 + a < B + 117; omega)))
  have hX := hU
  have hsz := Nat.le_trans hsz hz
  refine lv_aload_n hx hb dL_law_424 rfl (lv_at hl 1 rfl) ?_
  refine l_if (w := (wM G (B + 117))) (va_runV (As := []) (rest := [.int (r1)]) ⟨hx, hb, hml, hown, hts⟩ (c_X8_fault (l := l) (G := G) (B := B + 117) (hW := wM_ok G (B + 117)) (x := y) ) (cwV 0 hts gL_law_X8_fault rfl rfl rfl (by decide +kernel) ⟨Nat.le_of_ble_eq_true rfl, Nat.le_of_ble_eq_true rfl⟩) (l_pv (w := wM G (B + 117)) (a := 0) (wM_ok G (B + 117)) hY hK trivial (l_q hS hB) [] (Nat.le_of_ble_eq_true rfl) (shM_0 (G := G) (B := B + 117)) rfl) rfl rfl hl.1 rfl (lv_room (Nat.le_of_ble_eq_true rfl)) dL_law_425 ⟨Nat.le_of_ble_eq_true rfl, Nat.le_of_ble_eq_true rfl⟩) hS (fun q h => Nat.le_trans (Nat.le_add_right B 117) h.1) (fun r2 u2 H lo q2 hU hz hk hS => ?_)
  try dsimp only at q2
  have hX := hX.far (fun a ha => hk _ (by have ha9 : a < 117 := ha; show B + a < _; omega) (fun z => absurd z.1 (by have ha9 : a < 117 := ha; show ¬ B + 117 ≤ B + a; omega)))
  have hsz := Nat.le_trans hsz hz
  have e9 := q_fault hL q1 q2
  refine lv_icmp_eq (tgt := 1315) hx hb dL_law_428 (by decide) (fun c9 => ?_) (fun c9 => absurd e9.1 c9)
  exact K _ _ _ _ ⟨hsz, hX, hU, hS, e9.2⟩
set_option maxHeartbeats 4000000 in
set_option maxRecDepth 100000 in
theorem lc_furl {p : Program} {l : Launch} {e : Env} {s : State} {m : MethodId} {below : List Frame} {meth : Method} {c : Code} {b L : Nat} {xs : Nat → Int32} {G : GG} {B : Nat} {tt : Nat → Nat} {Q : State → Prop} {x y : Mem} {H : Heap} {locs : List Loc} {i : Nat} (C : LX p s m c b L xs G B tt) (hI : LI G B tt s x y H locs) (hi : i + 6 ≤ L) {ls : Array Slot} (hl : lv_has ls 4 [(3, .int (nI i)), (2, .ref (B + 117 + 0)), (1, .ref (B + 0)), (0, .ref b)]) (K : ∀ (x1 y1 : Mem) (H1 : Heap) (locs1 : List Loc), LI G B tt s x1 y1 H1 locs1 → W p l e room_1 s m #[Value.ref b] below meth c H1 locs1 130 2967 Q (F0 m 1315 ls [])) : W p l e room_1 s m #[Value.ref b] below meth c H locs 130 2967 Q (F0 m 433 ls []) := by
  obtain ⟨hx, hb, hml, hown, hts, hXs, hbl, hB, hK, hE, hL4⟩ := id C
  obtain ⟨hsz, hX, hY, hS, hL⟩ := hI
  obtain ⟨n, hR, hG⟩ := hL.2.2.2.2.2.1
  obtain ⟨hcx, hcy, hn8⟩ := hR.ge
  obtain ⟨t, ht4, htx, hty, hTE⟩ := hL.2.1
  obtain ⟨kt, hkt16, hktx, hkty, hktr⟩ := hL.2.2.2.2.1
  have hRo := hL.1.rok
  have hYo := hL.1.yok
  have hkk1 : ∀ j, j < n → ∃ k, 1 ≤ k ∧ k < 6 ∧ sK (y 5) j = nI k := fun j hj => (hG.2 j hj).1
  have hkk6 : ∀ j, j < n → ∃ k, k < 6 ∧ sK (y 5) j = nI k := fun j hj => by obtain ⟨k, k1, k2, k3⟩ := (hG.2 j hj).1; exact ⟨k, k2, k3⟩
  have hfl : ∀ j, j < n → sF (y 5) j 0 ≤ 9 := fun j hj => (hG.2 j hj).2.1
  obtain ⟨nk, hnk⟩ : ∃ nk : Nat → Nat, ∀ k, k < 2 → RR (nk k) x (45 + 10 * k) (y (6 + k)) ∧ RG (nk k) (y (6 + k)) := by
    obtain ⟨n0, h0⟩ := hL.2.2.2.2.2.2 0 (by decide)
    obtain ⟨n1, h1⟩ := hL.2.2.2.2.2.2 1 (by decide)
    refine ⟨fun k => if k = 0 then n0 else n1, fun k hk => ?_⟩
    have hk2 : k = 0 ∨ k = 1 := by omega
    rcases hk2 with rfl | rfl
    · exact h0
    · exact h1
  refine lv_aload_n hx hb dL_law_433 rfl (lv_at hl 2 rfl) ?_
  refine lv_aload_n hx hb dL_law_434 rfl (lv_at hl 3 rfl) ?_
  refine lv_iload_n hx hb dL_law_435 rfl (lv_at hl 0 rfl) ?_
  refine lv_iconst (v := 1) hx hb dL_law_436 (by decide) ?_
  refine lv_iadd hx hb dL_law_437 ?_
  refine l_sld (j := i + 1) hx hb hXs hbl hB hS (n_add (y := 1) (b := 1) rfl rfl) (by omega) hL4 dL_law_438 ?_
  refine lv_aload_n hx hb dL_law_439 rfl (lv_at hl 3 rfl) ?_
  refine lv_iload_n hx hb dL_law_440 rfl (lv_at hl 0 rfl) ?_
  refine lv_iconst (v := 2) hx hb dL_law_441 (by decide) ?_
  refine lv_iadd hx hb dL_law_442 ?_
  refine l_sld (j := i + 2) hx hb hXs hbl hB hS (n_add (y := 2) (b := 2) rfl rfl) (by omega) hL4 dL_law_443 ?_
  refine l_if (w := (wX G B tt)) (va_runV (As := [.int (xs (i + 1)), .int (xs (i + 2))]) (rest := []) ⟨hx, hb, hml, hown, hts⟩ (c_X7_furl (l := l) (G := G) (B := B) (tt := tt) (hW := wX_ok G B tt) (x := x) (m := xs (i + 1)) (s := xs (i + 2)) (n := n) (nw := (y 5)) (hR := hR)) (cwV 2 hts gL_law_X7_furl rfl rfl rfl (by decide +kernel) ⟨Nat.le_of_ble_eq_true rfl, Nat.le_of_ble_eq_true rfl⟩) (l_pv (w := wX G B tt) (a := 0) (wX_ok G B tt) hX hK hE (l_q hS hB) [.int (xs (i + 1)), .int (xs (i + 2))] (Nat.le_of_ble_eq_true rfl) (shX_mn (G := G) (B := B)) rfl) rfl rfl hl.1 rfl (lv_room (Nat.le_of_ble_eq_true rfl)) dL_law_444 ⟨Nat.le_of_ble_eq_true rfl, Nat.le_of_ble_eq_true rfl⟩) hS (fun q h => h.1) (fun r1 u1 H lo q1 hU hz hk hS => ?_)
  try dsimp only at q1
  have hY := hY.far (fun a ha => hk _ (by have ha9 : a < 13 := ha; show B + 117 + a < _; omega) (fun z => absurd z.2 (by show ¬ B + 117 + a < B + 117; omega)))
  have hX := hU
  have hsz := Nat.le_trans hsz hz
  refine lv_aload_n hx hb dL_law_447 rfl (lv_at hl 1 rfl) ?_
  refine lv_aload_n hx hb dL_law_448 rfl (lv_at hl 3 rfl) ?_
  refine lv_iload_n hx hb dL_law_449 rfl (lv_at hl 0 rfl) ?_
  refine lv_iconst (v := 1) hx hb dL_law_450 (by decide) ?_
  refine lv_iadd hx hb dL_law_451 ?_
  refine l_sld (j := i + 1) hx hb hXs hbl hB hS (n_add (y := 1) (b := 1) rfl rfl) (by omega) hL4 dL_law_452 ?_
  refine lv_aload_n hx hb dL_law_453 rfl (lv_at hl 3 rfl) ?_
  refine lv_iload_n hx hb dL_law_454 rfl (lv_at hl 0 rfl) ?_
  refine lv_iconst (v := 2) hx hb dL_law_455 (by decide) ?_
  refine lv_iadd hx hb dL_law_456 ?_
  refine l_sld (j := i + 2) hx hb hXs hbl hB hS (n_add (y := 2) (b := 2) rfl rfl) (by omega) hL4 dL_law_457 ?_
  refine l_if (w := (wM G (B + 117))) (va_runV (As := [.int (xs (i + 1)), .int (xs (i + 2))]) (rest := [.int (r1)]) ⟨hx, hb, hml, hown, hts⟩ (c_X8_furl (l := l) (G := G) (B := B + 117) (hW := wM_ok G (B + 117)) (x := y) (m := xs (i + 1)) (s := xs (i + 2)) (n := n) (hN := hcy) (hn8 := hn8)) (cwV 2 hts gL_law_X8_furl rfl rfl rfl (by decide +kernel) ⟨Nat.le_of_ble_eq_true rfl, Nat.le_of_ble_eq_true rfl⟩) (l_pv (w := wM G (B + 117)) (a := 0) (wM_ok G (B + 117)) hY hK trivial (l_q hS hB) [.int (xs (i + 1)), .int (xs (i + 2))] (Nat.le_of_ble_eq_true rfl) (shM_0 (G := G) (B := B + 117)) rfl) rfl rfl hl.1 rfl (lv_room (Nat.le_of_ble_eq_true rfl)) dL_law_458 ⟨Nat.le_of_ble_eq_true rfl, Nat.le_of_ble_eq_true rfl⟩) hS (fun q h => Nat.le_trans (Nat.le_add_right B 117) h.1) (fun r2 u2 H lo q2 hU hz hk hS => ?_)
  try dsimp only at q2
  have hX := hX.far (fun a ha => hk _ (by have ha9 : a < 117 := ha; show B + a < _; omega) (fun z => absurd z.1 (by have ha9 : a < 117 := ha; show ¬ B + 117 ≤ B + a; omega)))
  have hsz := Nat.le_trans hsz hz
  have e9 := q_furl hL hR hG q1 q2
  refine lv_icmp_eq (tgt := 1315) hx hb dL_law_461 (by decide) (fun c9 => ?_) (fun c9 => absurd e9.1 c9)
  exact K _ _ _ _ ⟨hsz, hX, hU, hS, e9.2⟩
