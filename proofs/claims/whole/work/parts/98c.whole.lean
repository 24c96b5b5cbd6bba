theorem wS_cl7 : (.classLink RL 7 RX7 : Cond) ∈ lw_tbl := List.mem_of_getElem? (i := 68) (by decide +kernel)
theorem wS_in7 : (.instantiable RX7 9 : Cond) ∈ lw_tbl := List.mem_of_getElem? (i := 69) (by decide +kernel)
theorem wS_ini7 : (.initialized RX7 : Cond) ∈ lw_tbl := List.mem_of_getElem? (i := 52) (by decide +kernel)
theorem wS_ml9 : (.methodLink RL 9 yX7_init : Cond) ∈ lw_tbl := List.mem_of_getElem? (i := 70) (by decide +kernel)
theorem wS_im9 : (.instanceMethod yX7_init : Cond) ∈ lw_tbl := List.mem_of_getElem? (i := 71) (by decide +kernel)
theorem wS_cl8 : (.classLink RL 10 RX8 : Cond) ∈ lw_tbl := List.mem_of_getElem? (i := 799) (by decide +kernel)
theorem wS_in8 : (.instantiable RX8 21 : Cond) ∈ lw_tbl := List.mem_of_getElem? (i := 800) (by decide +kernel)
theorem wS_ini8 : (.initialized RX8 : Cond) ∈ lw_tbl := List.mem_of_getElem? (i := 60) (by decide +kernel)
theorem wS_ml12 : (.methodLink RL 12 yX8_init : Cond) ∈ lw_tbl := List.mem_of_getElem? (i := 801) (by decide +kernel)
theorem wS_im12 : (.instanceMethod yX8_init : Cond) ∈ lw_tbl := List.mem_of_getElem? (i := 802) (by decide +kernel)
set_option maxHeartbeats 4000000 in
set_option maxRecDepth 100000 in
theorem whole_start {p : Program} {e : Env} {s : State} {m : MethodId} {below : List Frame} {meth : Method} {c : Code} (l : Launch) (hflags : l.flags = flags0) {b L : Nat} {xs : Nat → Int32} (hL : L ≤ 384) (C0 : lw_At p s m meth c b L xs) : W p l e room_1 s m #[Value.ref b] below meth c s.heap [] 0 0 (lw_Z below #[Value.ref b] s) (entryFrame m ([Value.ref b] : List Value).toArray 4) := by
  obtain ⟨hx, hb, hr, hml, hown, hts0, hXs, hbl, hlocks, hgv⟩ := id C0
  have hs := flat_of_before _ hgv
  obtain ⟨B, hB⟩ : ∃ B, s.heap.size = B := ⟨_, rfl⟩
  have hts : ∀ w ∈ wsL_law, w.before #[Value.ref b] s = true := fun w hw => hts0 w (wsL_law_in w hw)
  obtain ⟨G, hK, hO⟩ := st_KA hts0
  obtain ⟨tt, hE⟩ := st_EX (B := B) hts0 hs (fun a ha h => absurd h.1 (by omega))
  have hX : MZ G B 0 (fun _ => .inr (0, [])) s.heap := ⟨hB, fun a ha => absurd ha (Nat.not_lt_zero a)⟩
  have hS : va_S (blkF B) s.heap s.heap [] := va_S.rf
  have hl := lv_entry ([.ref b]) (n := 4) (Nat.le_of_ble_eq_true rfl)
  rw [lg_entry_eq]
  generalize (lg_sl ([.ref b]) ++ List.replicate (4 - (lg_sl ([.ref b])).length) Slot.unset).toArray = ls at hl ⊢
  have hl : lv_has ls 4 [(0, .ref b)] := hl
  show W p l e room_1 s m #[Value.ref b] below meth c s.heap [] 0 0 _ (F0 m 0 ls [])
  refine z_new (ci := 7) (fs := [.null, .null, .null, .null, .null, .null, .null, .int 0, .int 0]) (C := RX7) (T := TX7) (N := 9) hx hb hts0 wx_7 tyX7 tyX7_ok hown (hts0 _ wS_cl7) (hts0 _ wS_in7) (hts0 _ wS_ini7) hK hX hS rfl (by intro j hj; rcases (show j = 0 ∨ j = 1 ∨ j = 2 ∨ j = 3 ∨ j = 4 ∨ j = 5 ∨ j = 6 ∨ j = 7 ∨ j = 8 by omega) with rfl | rfl | rfl | rfl | rfl | rfl | rfl | rfl | rfl <;> rfl) (Nat.le_of_ble_eq_true rfl) (Nat.le_of_ble_eq_true rfl) dL_law_0 (fun H hX hS => ?_)
  refine W.widen (k := 1) (n := 9) (by omega) (by omega) ?_
  refine lv_dup hx hb dL_law_3 rfl ?_
  refine z_vf (n' := 117) (va_runI (As := []) (rest := [.ref (B + 0)]) ⟨hx, hb, hml, hown, hts⟩ (c_X7_init l G B (zs (fun _ => .inr (0, [])) 0 (.inr (7, [.null, .null, .null, .null, .null, .null, .null, .int 0, .int 0]))) (zs_eq _ _ _)) (cwI 0 hts gL_law_X7_init rfl rfl rfl (hts0 _ wS_ini7) (hts0 _ wS_ml9) (hts0 _ wS_im9) rfl (by decide +kernel) ⟨Nat.le_of_ble_eq_true rfl, Nat.le_of_ble_eq_true rfl⟩) (z_pre hX ⟨hK, hO⟩ [.ref (B + 0)]) rfl rfl hl.1 rfl (lv_room (Nat.le_of_ble_eq_true rfl)) dL_law_4 ⟨Nat.le_of_ble_eq_true rfl, Nat.le_of_ble_eq_true rfl⟩) hS (fun y7 H lo hp7 hX hS => ?_)
  try dsimp only at hp7
  refine W.widen (k := 117) (n := 1766) (by omega) (by omega) ?_
  refine lv_astore_n (lv' := [(1, .ref (B + 0)), (0, .ref b)]) hx hb dL_law_7 rfl hl (by decide) rfl (fun ls hl => ?_)
  refine z_new (ci := 8) (fs := [.null, .null, .null, .int 0, .int 0, .null, .int 0, .null, .null, .null, .null, .null, .int 0, .null, .int 0, .int 0, .int 0, .long 0, .int 0, .null, .null]) (C := RX8) (T := TX8) (N := 21) hx hb hts0 wx_8 tyX8 tyX8_ok hown (hts0 _ wS_cl8) (hts0 _ wS_in8) (hts0 _ wS_ini8) hK hX hS rfl (by intro j hj; rcases (show j = 0 ∨ j = 1 ∨ j = 2 ∨ j = 3 ∨ j = 4 ∨ j = 5 ∨ j = 6 ∨ j = 7 ∨ j = 8 ∨ j = 9 ∨ j = 10 ∨ j = 11 ∨ j = 12 ∨ j = 13 ∨ j = 14 ∨ j = 15 ∨ j = 16 ∨ j = 17 ∨ j = 18 ∨ j = 19 ∨ j = 20 by omega) with rfl | rfl | rfl | rfl | rfl | rfl | rfl | rfl | rfl | rfl | rfl | rfl | rfl | rfl | rfl | rfl | rfl | rfl | rfl | rfl | rfl <;> rfl) (Nat.le_of_ble_eq_true rfl) (Nat.le_of_ble_eq_true rfl) dL_law_8 (fun H hX hS => ?_)
  refine W.widen (k := 118) (n := 1787) (by omega) (by omega) ?_
  refine lv_dup hx hb dL_law_11 rfl ?_
  have hX8 : MZ G (B + 117) 1 (fun a => zs y7 117 (.inr (8, [.null, .null, .null, .int 0, .int 0, .null, .int 0, .null, .null, .null, .null, .null, .int 0, .null, .int 0, .int 0, .int 0, .long 0, .int 0, .null, .null])) (117 + a)) H := ⟨hX.1, fun a ha => by
    have h := hX.2 (117 + a) (by omega)
    rw [show B + (117 + a) = B + 117 + a by omega] at h
    exact h⟩
  have hX7 : MR G (wX G B tt) x0 H := fun a ha => by
    have ha9 : a < 117 := ha
    have h := hX.2 a (by omega)
    rw [zs_ne (by omega), hp7 a ha9] at h
    exact h
  refine z_vf2 (B := B) (B1 := B + 117) (n' := 13) (va_runI (As := []) (rest := [.ref (B + 117)]) ⟨hx, hb, hml, hown, hts⟩ (c_X8_init l G (B + 117) (fun a => zs y7 117 (.inr (8, [.null, .null, .null, .int 0, .int 0, .null, .int 0, .null, .null, .null, .null, .null, .int 0, .null, .int 0, .int 0, .int 0, .long 0, .int 0, .null, .null])) (117 + a)) (zs_eq _ _ _)) (cwI 0 hts gL_law_X8_init rfl rfl rfl (hts0 _ wS_ini8) (hts0 _ wS_ml12) (hts0 _ wS_im12) rfl (by decide +kernel) ⟨Nat.le_of_ble_eq_true rfl, Nat.le_of_ble_eq_true rfl⟩) (z_pre hX8 ⟨hK, hO⟩ [.ref (B + 117 + 0)]) rfl rfl hl.1 rfl (lv_room (Nat.le_of_ble_eq_true rfl)) dL_law_12 ⟨Nat.le_of_ble_eq_true rfl, Nat.le_of_ble_eq_true rfl⟩) hS (Nat.le_add_right B 117) (fun y8 H2 lo2 hp8 hY8 hk8 hS2 => ?_)
  try dsimp only at hp8
  refine W.widen (k := 130) (n := 2967) (by omega) (by omega) ?_
  refine lv_astore_n (lv' := [(2, .ref (B + 117 + 0)), (1, .ref (B + 0)), (0, .ref b)]) hx hb dL_law_15 rfl hl (by decide) rfl (fun ls hl => ?_)
  refine lv_iconst (v := 0) hx hb dL_law_16 (by decide) ?_
  refine lv_istore_n (lv' := [(3, .int 0), (2, .ref (B + 117 + 0)), (1, .ref (B + 0)), (0, .ref b)]) hx hb dL_law_17 rfl hl (by decide) rfl (fun ls hl => ?_)
  have hM : MR G (wM G (B + 117)) y0 H2 := fun a ha => by
    have ha9 : a < 13 := ha
    have h := hY8.2 a ha9
    rw [hp8 a ha9] at h
    exact h
  have hX9 : MR G (wX G B tt) x0 H2 := hX7.far (fun a ha => hk8 _ (by have ha9 : a < 117 := ha; have hz := hX.1; show B + a < _; omega) (fun z => absurd z (by have ha9 : a < 117 := ha; show ¬ B + 117 ≤ B + a; omega)))
  exact law_loop ⟨hx, hb, hml, hown, hts, hXs, hbl, hB, hK, hE, hL⟩ hr hlocks (L + 6) 0 x0 y0 H2 lo2 rfl (Nat.zero_le _) ⟨by have hz := hY8.1; omega, hX9, hM, hS2, rel_0⟩ ls (lv_sub hl [0, 1, 2, 3] rfl)
