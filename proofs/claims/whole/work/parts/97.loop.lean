set_option maxHeartbeats 4000000 in
set_option maxRecDepth 100000 in
theorem law_loop {p : Program} {l : Launch} {e : Env} {s : State} {m : MethodId} {below : List Frame} {meth : Method} {c : Code} {b L : Nat} {xs : Nat → Int32} {G : GG} {B : Nat} {tt : Nat → Nat} (C : LX p s m c b L xs G B tt) (hr : meth.sig.returnType = ret) (hlocks : meth.locks = false) : ∀ (n9 i : Nat) (x y : Mem) (H : Heap) (locs : List Loc) (_ : n9 = L + 6 - i) (_ : i ≤ L + 6) (_ : LI G B tt s x y H locs) (ls : Array Slot) (_ : lv_has ls 4 [(3, .int (nI i)), (2, .ref (B + 117 + 0)), (1, .ref (B + 0)), (0, .ref b)]), W p l e room_1 s m #[Value.ref b] below meth c H locs 130 2967 (lw_Z below #[Value.ref b] s) (F0 m 18 ls []) := by
  obtain ⟨hx, hb, hml, hown, hts, hXs, hbl, hB, hK, hE, hL4⟩ := id C
  intro n9
  induction n9 using Nat.strongRecOn with
  | _ n9 ih =>
    intro i x y H locs hn9 hi6 hI ls hl
    have hS := hI.2.2.2.1
    refine lv_iload_n hx hb dL_law_18 rfl (lv_at hl 0 rfl) ?_
    refine lv_aload_n hx hb dL_law_19 rfl (lv_at hl 3 rfl) ?_
    refine va_slen hx hb hXs hbl (by show ¬ B ≤ b; omega) hS dL_law_20 ?_
    refine lv_bipush (v := 6) hx hb dL_law_21 (by decide) ?_
    refine lv_isub hx hb dL_law_23 ?_
    refine lv_icmp_gt (tgt := 1321) hx hb dL_law_24 (by decide) (fun c9 => ?_) (fun c9 => ?_)
    · refine lv_iconst (v := 1) hx hb dL_law_1321 (by decide) ?_
      refine va_forget (fun q hq => ?_) ?_
      · rw [hB]; exact hS.2.2 q hq
      · refine W.widen (k := 600000) (n := 7302250) (Nat.le_of_ble_eq_true rfl) (Nat.le_of_ble_eq_true rfl) ?_
        exact lw_ret hx hb hr hlocks dL_law_1322
    · have hlt : i + 6 ≤ L := law_i hL4 hi6 c9
      have K : ∀ (x1 y1 : Mem) (H1 : Heap) (locs1 : List Loc), LI G B tt s x1 y1 H1 locs1 → W p l e room_1 s m #[Value.ref b] below meth c H1 locs1 130 2967 (lw_Z below #[Value.ref b] s) (F0 m 1315 ls []) := by
        intro x1 y1 H1 locs1 hI1
        refine lv_iinc (v := nI (i + 6)) (lv' := [(3, .int (nI (i + 6))), (2, .ref (B + 117 + 0)), (1, .ref (B + 0)), (0, .ref b)]) hx hb dL_law_1315 hl (k := 0) rfl (by exact incN_nI _ _) (by decide) rfl (fun ls hl => ?_)
        refine lv_goto (tgt := 18) hx hb dL_law_1318 (by decide) ?_
        exact ih (L + 6 - (i + 6)) (by omega) (i + 6) x1 y1 H1 locs1 rfl (by omega) hI1 ls hl
      refine lv_aload_n hx hb dL_law_27 rfl (lv_at hl 3 rfl) ?_
      refine lv_iload_n hx hb dL_law_28 rfl (lv_at hl 0 rfl) ?_
      refine l_sld (j := i) hx hb hXs hbl hB hS rfl (by omega) hL4 dL_law_29 ?_
      refine lv_bipush (v := 31) hx hb dL_law_30 (by decide) ?_
      refine lv_iand hx hb dL_law_32 ?_
      obtain ⟨k, hk, ek⟩ := and31 (xs i)
      rw [ek]
      have hk9 : k = 0 ∨ k = 1 ∨ k = 2 ∨ k = 3 ∨ k = 4 ∨ k = 5 ∨ k = 6 ∨ k = 7 ∨ k = 8 ∨ k = 9 ∨ k = 10 ∨ k = 11 ∨ k = 12 ∨ k = 13 ∨ k = 14 ∨ k = 15 ∨ k = 16 ∨ k = 17 ∨ k = 18 ∨ k = 19 ∨ k = 20 ∨ k = 21 ∨ k = 22 ∨ k = 23 ∨ k = 24 ∨ k = 25 ∨ k = 26 ∨ k = 27 ∨ k = 28 ∨ k = 29 ∨ k = 30 ∨ k = 31 := by omega
      clear ek
      rcases hk9 with rfl | rfl | rfl | rfl | rfl | rfl | rfl | rfl | rfl | rfl | rfl | rfl | rfl | rfl | rfl | rfl | rfl | rfl | rfl | rfl | rfl | rfl | rfl | rfl | rfl | rfl | rfl | rfl | rfl | rfl | rfl | rfl
      · refine lv_tableIn (tgt := 172) (off := 139) hx hb dL_law_33 (by decide) (by decide) rfl (by decide) ?_
        exact lc_row C hI hlt hl K
      · refine lv_tableIn (tgt := 215) (off := 182) hx hb dL_law_33 (by decide) (by decide) rfl (by decide) ?_
        exact lc_set C hI hlt hl K
      · refine lv_tableIn (tgt := 258) (off := 225) hx hb dL_law_33 (by decide) (by decide) rfl (by decide) ?_
        exact lc_copy C hI hlt hl K
      · refine lv_tableIn (tgt := 321) (off := 288) hx hb dL_law_33 (by decide) (by decide) rfl (by decide) ?_
        exact lc_drop C hI hlt hl K
      · refine lv_tableIn (tgt := 344) (off := 311) hx hb dL_law_33 (by decide) (by decide) rfl (by decide) ?_
        exact lc_feed C hI hlt hl K
      · refine lv_tableIn (tgt := 407) (off := 374) hx hb dL_law_33 (by decide) (by decide) rfl (by decide) ?_
        exact lc_ridge C hI hlt hl K
      · refine lv_tableIn (tgt := 420) (off := 387) hx hb dL_law_33 (by decide) (by decide) rfl (by decide) ?_
        exact lc_fault C hI hlt hl K
      · refine lv_tableIn (tgt := 433) (off := 400) hx hb dL_law_33 (by decide) (by decide) rfl (by decide) ?_
        exact lc_furl C hI hlt hl K
      · refine lv_tableIn (tgt := 466) (off := 433) hx hb dL_law_33 (by decide) (by decide) rfl (by decide) ?_
        exact lc_face C hI hlt hl K
      · refine lv_tableIn (tgt := 499) (off := 466) hx hb dL_law_33 (by decide) (by decide) rfl (by decide) ?_
        exact lc_build C hI hlt hl K
      · refine lv_tableIn (tgt := 522) (off := 489) hx hb dL_law_33 (by decide) (by decide) rfl (by decide) ?_
        exact lc_bring C hI hlt hl K
      · refine lv_tableIn (tgt := 555) (off := 522) hx hb dL_law_33 (by decide) (by decide) rfl (by decide) ?_
        exact lc_hour C hI hlt hl K
      · refine lv_tableIn (tgt := 588) (off := 555) hx hb dL_law_33 (by decide) (by decide) rfl (by decide) ?_
        exact lc_hours C hI hlt hl K
      · refine lv_tableIn (tgt := 631) (off := 598) hx hb dL_law_33 (by decide) (by decide) rfl (by decide) ?_
        exact lc_mill C hI hlt hl K
      · refine lv_tableIn (tgt := 664) (off := 631) hx hb dL_law_33 (by decide) (by decide) rfl (by decide) ?_
        exact lc_left C hI hlt hl K
      · refine lv_tableIn (tgt := 717) (off := 684) hx hb dL_law_33 (by decide) (by decide) rfl (by decide) ?_
        exact lc_made C hI hlt hl K
      · refine lv_tableIn (tgt := 760) (off := 727) hx hb dL_law_33 (by decide) (by decide) rfl (by decide) ?_
        exact lc_best C hI hlt hl K
      · refine lv_tableIn (tgt := 803) (off := 770) hx hb dL_law_33 (by decide) (by decide) rfl (by decide) ?_
        exact lc_part C hI hlt hl K
      · refine lv_tableIn (tgt := 846) (off := 813) hx hb dL_law_33 (by decide) (by decide) rfl (by decide) ?_
        exact lc_still C hI hlt hl K
      · refine lv_tableIn (tgt := 909) (off := 876) hx hb dL_law_33 (by decide) (by decide) rfl (by decide) ?_
        exact lc_higher C hI hlt hl K
      · refine lv_tableIn (tgt := 962) (off := 929) hx hb dL_law_33 (by decide) (by decide) rfl (by decide) ?_
        exact lc_owes C hI hlt hl K
      · refine lv_tableIn (tgt := 1015) (off := 982) hx hb dL_law_33 (by decide) (by decide) rfl (by decide) ?_
        exact lc_night C hI hlt hl K
      · refine lv_tableIn (tgt := 1078) (off := 1045) hx hb dL_law_33 (by decide) (by decide) rfl (by decide) ?_
        exact lc_years C hI hlt hl K
      · refine lv_tableIn (tgt := 1121) (off := 1088) hx hb dL_law_33 (by decide) (by decide) rfl (by decide) ?_
        exact lc_image C hI hlt hl K
      · refine lv_tableIn (tgt := 1144) (off := 1111) hx hb dL_law_33 (by decide) (by decide) rfl (by decide) ?_
        exact lc_restore C hI hlt hl K
      · refine lv_tableIn (tgt := 1167) (off := 1134) hx hb dL_law_33 (by decide) (by decide) rfl (by decide) ?_
        exact lc_kind C hI hlt hl K
      · refine lv_tableIn (tgt := 1190) (off := 1157) hx hb dL_law_33 (by decide) (by decide) rfl (by decide) ?_
        exact lc_as C hI hlt hl K
      · refine lv_tableIn (tgt := 1223) (off := 1190) hx hb dL_law_33 (by decide) (by decide) rfl (by decide) ?_
        exact lc_ask C hI hlt hl K
      · refine lv_tableIn (tgt := 1256) (off := 1223) hx hb dL_law_33 (by decide) (by decide) rfl (by decide) ?_
        exact lc_trace C hI hlt hl K
      · refine lv_tableIn (tgt := 1279) (off := 1246) hx hb dL_law_33 (by decide) (by decide) rfl (by decide) ?_
        exact lc_count C hI hlt hl K
      · refine lv_tableIn (tgt := 1302) (off := 1269) hx hb dL_law_33 (by decide) (by decide) rfl (by decide) ?_
        exact lc_status C hI hlt hl K
      · refine lv_tableOut (tgt := 1315) hx hb dL_law_33 (by decide) (by decide) ?_
        exact K x y H locs hI
