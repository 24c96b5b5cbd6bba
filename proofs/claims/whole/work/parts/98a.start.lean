theorem st_tbl {s : State} {b B : Nat} (hts : ∀ w ∈ lw_tbl, w.before #[Value.ref b] s = true) (hs : ∀ w ∈ flatC (Jvm.Cond.and given_1 narrow_1), w.before #[Value.ref b] s = true) (hA : ∀ a : Nat, a < s.heap.size → ¬ blkA B (B + 117) a) : ∃ t0 t1 t2 : Nat, (va_Z "WindTaken" (tblF 0) "[I" (.ref t0) (blkA B (B + 117)) s s.heap ∧ va_T .int t0 6 (fun j => .int (tblV 0 j)) (blkA B (B + 117)) s s.heap) ∧ (va_Z "WindTaken" (tblF 1) "[I" (.ref t1) (blkA B (B + 117)) s s.heap ∧ va_T .int t1 6 (fun j => .int (tblV 1 j)) (blkA B (B + 117)) s s.heap) ∧ (va_Z "WindTaken" (tblF 2) "[I" (.ref t2) (blkA B (B + 117)) s s.heap ∧ va_T .int t2 6 (fun j => .int (tblV 2 j)) (blkA B (B + 117)) s s.heap) := by
  have hel0 : ∀ j : Nat, j < 6 → (Term.elem (Jvm.Term.static "WindTaken" "NEXT_KIND" "[I") (.int (Int32.ofNat j))).eval #[Value.ref b] s none [] s = some (.int (tblV 0 j)) := fun j hj => by
    have hj2 : j = 0 ∨ j = 1 ∨ j = 2 ∨ j = 3 ∨ j = 4 ∨ j = 5 := by omega
    rcases hj2 with rfl | rfl | rfl | rfl | rfl | rfl <;> exact va_eqt (hs _ (by decide +kernel))
  obtain ⟨t0, g0, h0⟩ := va_Tof (args := #[Value.ref b]) (s := s) (tm := (Jvm.Term.static "WindTaken" "NEXT_KIND" "[I")) (ty := .int) (N := 6) (f := fun j => .int (tblV 0 j)) (A := blkA B (B + 117)) (by decide) (hs _ (by decide +kernel)) (va_eqt (hs _ (by decide +kernel))) hel0 hA
  have z0 : va_Z "WindTaken" (tblF 0) "[I" (.ref t0) (blkA B (B + 117)) s s.heap := va_Zof (n := "NEXT_KIND") (hts (.laysStatic "WindTaken" "NEXT_KIND" "[I") (List.mem_of_getElem? (i := 756) (by decide +kernel))) (hts (.initialized "WindTaken") (List.mem_of_getElem? (i := 52) (by decide +kernel))) g0 hA
  have hel1 : ∀ j : Nat, j < 6 → (Term.elem (Jvm.Term.static "WindTaken" "SIZE_BODY" "[I") (.int (Int32.ofNat j))).eval #[Value.ref b] s none [] s = some (.int (tblV 1 j)) := fun j hj => by
    have hj2 : j = 0 ∨ j = 1 ∨ j = 2 ∨ j = 3 ∨ j = 4 ∨ j = 5 := by omega
    rcases hj2 with rfl | rfl | rfl | rfl | rfl | rfl <;> exact va_eqt (hs _ (by decide +kernel))
  obtain ⟨t1, g1, h1⟩ := va_Tof (args := #[Value.ref b]) (s := s) (tm := (Jvm.Term.static "WindTaken" "SIZE_BODY" "[I")) (ty := .int) (N := 6) (f := fun j => .int (tblV 1 j)) (A := blkA B (B + 117)) (by decide) (hs _ (by decide +kernel)) (va_eqt (hs _ (by decide +kernel))) hel1 hA
  have z1 : va_Z "WindTaken" (tblF 1) "[I" (.ref t1) (blkA B (B + 117)) s s.heap := va_Zof (n := "SIZE_BODY") (hts (.laysStatic "WindTaken" "SIZE_BODY" "[I") (List.mem_of_getElem? (i := 765) (by decide +kernel))) (hts (.initialized "WindTaken") (List.mem_of_getElem? (i := 52) (by decide +kernel))) g1 hA
  have hel2 : ∀ j : Nat, j < 6 → (Term.elem (Jvm.Term.static "WindTaken" "MARK_BODY" "[I") (.int (Int32.ofNat j))).eval #[Value.ref b] s none [] s = some (.int (tblV 2 j)) := fun j hj => by
    have hj2 : j = 0 ∨ j = 1 ∨ j = 2 ∨ j = 3 ∨ j = 4 ∨ j = 5 := by omega
    rcases hj2 with rfl | rfl | rfl | rfl | rfl | rfl <;> exact va_eqt (hs _ (by decide +kernel))
  obtain ⟨t2, g2, h2⟩ := va_Tof (args := #[Value.ref b]) (s := s) (tm := (Jvm.Term.static "WindTaken" "MARK_BODY" "[I")) (ty := .int) (N := 6) (f := fun j => .int (tblV 2 j)) (A := blkA B (B + 117)) (by decide) (hs _ (by decide +kernel)) (va_eqt (hs _ (by decide +kernel))) hel2 hA
  have z2 : va_Z "WindTaken" (tblF 2) "[I" (.ref t2) (blkA B (B + 117)) s s.heap := va_Zof (n := "MARK_BODY") (hts (.laysStatic "WindTaken" "MARK_BODY" "[I") (List.mem_of_getElem? (i := 770) (by decide +kernel))) (hts (.initialized "WindTaken") (List.mem_of_getElem? (i := 52) (by decide +kernel))) g2 hA
  exact ⟨t0, t1, t2, ⟨z0, h0⟩, ⟨z1, h1⟩, ⟨z2, h2⟩⟩
def stT (i : Nat) : Term := .string "WindTaken$Reader" (([46, 68, 158, 160, 162, 164, 166] : List Nat).getD i 0)
theorem st_str {s : State} {b B : Nat} (hs : ∀ w ∈ flatC (Jvm.Cond.and given_1 narrow_1), w.before #[Value.ref b] s = true) (hA : ∀ a : Nat, a < s.heap.size → ¬ blkA B (B + 117) a) : ∃ adK adV : Nat → Nat, vk_S 7 strLen strByt adK adV (blkA B (B + 117)) s s.heap ∧ ∀ i : Nat, i < 7 → (stT i).eval #[Value.ref b] s none [] s = some (.ref (adK i)) := by
  have one : ∀ (f : Nat → Cond), (∀ i, i < 7 → f i ∈ flatC (Jvm.Cond.and given_1 narrow_1)) → ∀ i, i < 7 → (f i).before #[Value.ref b] s = true := fun f h i hi => hs _ (h i hi)
  refine vk_Sof (args := #[Value.ref b]) (tm := stT) (by decide) (fun i hi => ?_) (fun i hi => ?_) (fun i hi => ?_) (fun i hi => ?_) (fun i hi j hj => ?_) (fun i j hi hj hne => ?_) hA
  · have hi2 : i = 0 ∨ i = 1 ∨ i = 2 ∨ i = 3 ∨ i = 4 ∨ i = 5 ∨ i = 6 := by omega
    rcases hi2 with rfl | rfl | rfl | rfl | rfl | rfl | rfl <;> exact hs _ (by decide +kernel)
  · have hi2 : i = 0 ∨ i = 1 ∨ i = 2 ∨ i = 3 ∨ i = 4 ∨ i = 5 ∨ i = 6 := by omega
    rcases hi2 with rfl | rfl | rfl | rfl | rfl | rfl | rfl <;> exact hs _ (by decide +kernel)
  · have hi2 : i = 0 ∨ i = 1 ∨ i = 2 ∨ i = 3 ∨ i = 4 ∨ i = 5 ∨ i = 6 := by omega
    rcases hi2 with rfl | rfl | rfl | rfl | rfl | rfl | rfl <;> exact hs _ (by decide +kernel)
  · have hi2 : i = 0 ∨ i = 1 ∨ i = 2 ∨ i = 3 ∨ i = 4 ∨ i = 5 ∨ i = 6 := by omega
    rcases hi2 with rfl | rfl | rfl | rfl | rfl | rfl | rfl <;> exact hs _ (by decide +kernel)
  · have hi2 : i = 0 ∨ i = 1 ∨ i = 2 ∨ i = 3 ∨ i = 4 ∨ i = 5 ∨ i = 6 := by omega
    rcases hi2 with rfl | rfl | rfl | rfl | rfl | rfl | rfl
    · have hj2 : j = 0 ∨ j = 1 ∨ j = 2 := by have hj3 : j < 3 := hj; omega
      rcases hj2 with rfl | rfl | rfl <;> exact hs _ (by decide +kernel)
    · have hj2 : j = 0 ∨ j = 1 ∨ j = 2 ∨ j = 3 := by have hj3 : j < 4 := hj; omega
      rcases hj2 with rfl | rfl | rfl | rfl <;> exact hs _ (by decide +kernel)
    · have hj2 : j = 0 ∨ j = 1 ∨ j = 2 ∨ j = 3 ∨ j = 4 := by have hj3 : j < 5 := hj; omega
      rcases hj2 with rfl | rfl | rfl | rfl | rfl <;> exact hs _ (by decide +kernel)
    · have hj2 : j = 0 ∨ j = 1 ∨ j = 2 ∨ j = 3 ∨ j = 4 ∨ j = 5 := by have hj3 : j < 6 := hj; omega
      rcases hj2 with rfl | rfl | rfl | rfl | rfl | rfl <;> exact hs _ (by decide +kernel)
    · have hj2 : j = 0 ∨ j = 1 ∨ j = 2 ∨ j = 3 := by have hj3 : j < 4 := hj; omega
      rcases hj2 with rfl | rfl | rfl | rfl <;> exact hs _ (by decide +kernel)
    · have hj2 : j = 0 ∨ j = 1 ∨ j = 2 ∨ j = 3 ∨ j = 4 := by have hj3 : j < 5 := hj; omega
      rcases hj2 with rfl | rfl | rfl | rfl | rfl <;> exact hs _ (by decide +kernel)
    · have hj2 : j = 0 ∨ j = 1 ∨ j = 2 ∨ j = 3 := by have hj3 : j < 4 := hj; omega
      rcases hj2 with rfl | rfl | rfl | rfl <;> exact hs _ (by decide +kernel)
  · have hi2 : i = 0 ∨ i = 1 ∨ i = 2 ∨ i = 3 ∨ i = 4 ∨ i = 5 ∨ i = 6 := by omega
    have hj2 : j = 0 ∨ j = 1 ∨ j = 2 ∨ j = 3 ∨ j = 4 ∨ j = 5 ∨ j = 6 := by omega
    rcases hi2 with rfl | rfl | rfl | rfl | rfl | rfl | rfl <;> rcases hj2 with rfl | rfl | rfl | rfl | rfl | rfl | rfl <;> first | exact absurd rfl hne | exact Or.inl (hs _ (by decide +kernel)) | exact Or.inr (hs _ (by decide +kernel))
theorem st_EX {s : State} {b B : Nat} (hts : ∀ w ∈ lw_tbl, w.before #[Value.ref b] s = true) (hs : ∀ w ∈ flatC (Jvm.Cond.and given_1 narrow_1), w.before #[Value.ref b] s = true) (hA : ∀ a : Nat, a < s.heap.size → ¬ blkA B (B + 117) a) : ∃ tt : Nat → Nat, EX B tt s s.heap := by
  obtain ⟨t0, t1, t2, k0, k1, k2⟩ := st_tbl hts hs hA
  obtain ⟨adK, adV, hV, hR⟩ := st_str (B := B) hs hA
  obtain ⟨tt, ett⟩ : ∃ tt : Nat → Nat, tt = fun i => if i < 100 then (if i = 0 then t0 else if i = 1 then t1 else t2) else if i < 200 then adK (i - 100) else adV (i - 200) := ⟨_, rfl⟩
  have eK : ∀ i, i < 7 → tt (100 + i) = adK i := fun i hi => by
    rw [ett]
    show (if 100 + i < 100 then _ else _) = _
    rw [if_neg (by omega), if_pos (by omega), Nat.add_sub_cancel_left]
  have eV : ∀ i, i < 7 → tt (200 + i) = adV i := fun i hi => by
    rw [ett]
    show (if 200 + i < 100 then _ else _) = _
    rw [if_neg (by omega), if_neg (by omega), Nat.add_sub_cancel_left]
  have e0 : tt 0 = t0 := by rw [ett]; rfl
  have e1 : tt 1 = t1 := by rw [ett]; rfl
  have e2 : tt 2 = t2 := by rw [ett]; rfl
  clear ett
  refine ⟨tt, fun q hq => ?_, fun q hq => ?_, fun i k tx hi => ?_, ⟨fun i hi => ?_, fun i j hi hj he => ?_⟩, ?_, ?_⟩
  · have hq2 : q = 0 ∨ q = 1 ∨ q = 2 := by omega
    rcases hq2 with rfl | rfl | rfl
    · rw [e0]; exact k0.1
    · rw [e1]; exact k1.1
    · rw [e2]; exact k2.1
  · have hq2 : q = 0 ∨ q = 1 ∨ q = 2 := by omega
    rcases hq2 with rfl | rfl | rfl
    · rw [e0]; exact k0.2
    · rw [e1]; exact k1.2
    · rw [e2]; exact k2.2
  · have hi7 : i < 7 := (List.getElem?_eq_some_iff.mp hi).1
    rw [eK i hi7]
    have hr := hR i hi7
    have hi2 : i = 0 ∨ i = 1 ∨ i = 2 ∨ i = 3 ∨ i = 4 ∨ i = 5 ∨ i = 6 := by omega
    rcases hi2 with rfl | rfl | rfl | rfl | rfl | rfl | rfl
    · cases hi; exact vk_R.of (A := #[Value.ref b]) (hts (.stringRef "WindTaken$Reader" 46 "law") (List.mem_of_getElem? (i := 424) (by decide +kernel))) hr
    · cases hi; exact vk_R.of (A := #[Value.ref b]) (hts (.stringRef "WindTaken$Reader" 68 "mill") (List.mem_of_getElem? (i := 506) (by decide +kernel))) hr
    · cases hi; exact vk_R.of (A := #[Value.ref b]) (hts (.stringRef "WindTaken$Reader" 158 "fixed") (List.mem_of_getElem? (i := 514) (by decide +kernel))) hr
    · cases hi; exact vk_R.of (A := #[Value.ref b]) (hts (.stringRef "WindTaken$Reader" 160 "hooded") (List.mem_of_getElem? (i := 515) (by decide +kernel))) hr
    · cases hi; exact vk_R.of (A := #[Value.ref b]) (hts (.stringRef "WindTaken$Reader" 162 "half") (List.mem_of_getElem? (i := 516) (by decide +kernel))) hr
    · cases hi; exact vk_R.of (A := #[Value.ref b]) (hts (.stringRef "WindTaken$Reader" 164 "water") (List.mem_of_getElem? (i := 517) (by decide +kernel))) hr
    · cases hi; exact vk_R.of (A := #[Value.ref b]) (hts (.stringRef "WindTaken$Reader" 166 "ruin") (List.mem_of_getElem? (i := 518) (by decide +kernel))) hr
  · have h := hV.1 i hi
    rw [← eK i hi, ← eV i hi] at h
    exact h
  · exact hV.2 i j hi hj (by rw [← eK i hi, ← eK j hj]; exact he)
  · exact va_Zof (args := #[Value.ref b]) (hts (.laysStatic "java/lang/String" "COMPACT_STRINGS" "Z") (List.mem_of_getElem? (i := 446) (by decide +kernel))) (hts (.initialized "java/lang/String") (List.mem_of_getElem? (i := 62) (by decide +kernel))) (va_eqt (hs _ (by decide +kernel))) hA
  · exact va_Zqof (args := #[Value.ref b]) (hts (.laysStatic "jdk/internal/util/Preconditions" "SIOOBE_FORMATTER" "Ljava/util/function/BiFunction;") (List.mem_of_getElem? (i := 462) (by decide +kernel))) (hts (.initialized "jdk/internal/util/Preconditions") (List.mem_of_getElem? (i := 64) (by decide +kernel))) (hs _ (by decide +kernel)) hA
theorem st_arr {s : State} {A : Array Value} {ty : FieldType} (hne : ∀ C, ty ≠ .object C) (h : (Cond.arrayClass ty).before A s = true) : ∃ cA, ArrOfT s cA ty ∧ va_RA s cA ty := by
  obtain ⟨c, k, comp, h1, h2, h3⟩ := Cond.arrayClass_spec h
  refine ⟨c, fun N z => ⟨(fun k h => by cases h), k, h2, comp, h3⟩, ?_⟩
  cases ty with
  | object C => exact absurd rfl (hne C)
  | _ => exact h1
theorem st_arq {s : State} {A : Array Value} {C : String} (h : (Cond.arrayOver (.object C)).before A s = true) : ∃ cA, ArrOfT s cA (.object C) ∧ va_RA s cA (.object C) := by
  obtain ⟨comp, c, k, h1, h2, h3, h4, h5⟩ := Cond.arrayOver_spec h
  exact ⟨c, fun N z => ⟨(fun k h => by cases h), k, h3, comp, h4⟩, k, comp, h3, h4, h1, h5⟩
set_option maxHeartbeats 4000000 in
theorem st_KA {s : State} {b : Nat} (hts : ∀ w ∈ lw_tbl, w.before #[Value.ref b] s = true) : ∃ G : GG, KA G s := by
  obtain ⟨c0, i0, k0⟩ := u_known (C := RX0) (T := TX0) (N := 12) (n := 12) hts wx_0 (hts (.instantiable RX0 12) (List.mem_of_getElem? (i := 133) (by decide +kernel)))
  obtain ⟨c1, i1, k1⟩ := u_known (C := RX1) (T := TX1) (N := 6) (n := 6) hts wx_1 (hts (.instantiable RX1 6) (List.mem_of_getElem? (i := 273) (by decide +kernel)))
  obtain ⟨c2, i2, k2⟩ := u_known (C := RX2) (T := TX2) (N := 7) (n := 7) hts wx_2 (hts (.instantiable RX2 7) (List.mem_of_getElem? (i := 79) (by decide +kernel)))
  obtain ⟨c3, i3, k3⟩ := u_known (C := RX3) (T := TX3) (N := 6) (n := 6) hts wx_3 (hts (.instantiable RX3 6) (List.mem_of_getElem? (i := 126) (by decide +kernel)))
  obtain ⟨c4, i4, k4⟩ := u_known (C := RX4) (T := TX4) (N := 3) (n := 3) hts wx_4 (hts (.instantiable RX4 3) (List.mem_of_getElem? (i := 255) (by decide +kernel)))
  obtain ⟨c5, i5, k5⟩ := u_known (C := RX5) (T := TX5) (N := 2) (n := 2) hts wx_5 (hts (.instantiable RX5 2) (List.mem_of_getElem? (i := 85) (by decide +kernel)))
  obtain ⟨c6, i6, k6⟩ := u_known (C := RX6) (T := TX6) (N := 2) (n := 2) hts wx_6 (hts (.instantiable RX6 2) (List.mem_of_getElem? (i := 240) (by decide +kernel)))
  obtain ⟨c7, i7, k7⟩ := u_known (C := RX7) (T := TX7) (N := 9) (n := 9) hts wx_7 (hts (.instantiable RX7 9) (List.mem_of_getElem? (i := 69) (by decide +kernel)))
  obtain ⟨c8, i8, k8⟩ := u_known (C := RX8) (T := TX8) (N := 21) (n := 21) hts wx_8 (hts (.instantiable RX8 21) (List.mem_of_getElem? (i := 800) (by decide +kernel)))
  obtain ⟨a0, f0⟩ := st_arr (ty := .int) (fun C h => by cases h) (hts (.arrayClass .int) (List.mem_of_getElem? (i := 254) (by decide +kernel)))
  obtain ⟨a1, f1⟩ := st_arr (ty := .byte) (fun C h => by cases h) (hts (.arrayClass .byte) (List.mem_of_getElem? (i := 100) (by decide +kernel)))
  have w2 := (hts (.arrayOver (.object "WindTaken$Mill")) (List.mem_of_getElem? (i := 132) (by decide +kernel)))
  obtain ⟨a2, f2⟩ := st_arq w2
  have w3 := (hts (.arrayOver (.object "WindTaken$Quarter")) (List.mem_of_getElem? (i := 238) (by decide +kernel)))
  obtain ⟨a3, f3⟩ := st_arq w3
  have w4 := (hts (.arrayOver (.object "WindTaken$Ridge")) (List.mem_of_getElem? (i := 236) (by decide +kernel)))
  obtain ⟨a4, f4⟩ := st_arq w4
  have w5 := (hts (.arrayOver (.object "WindTaken$Row")) (List.mem_of_getElem? (i := 77) (by decide +kernel)))
  obtain ⟨a5, f5⟩ := st_arq w5
  refine ⟨((fun k => if k = 0 then c0 else if k = 1 then c1 else if k = 2 then c2 else if k = 3 then c3 else if k = 4 then c4 else if k = 5 then c5 else if k = 6 then c6 else if k = 7 then c7 else c8, fun k => if k = 0 then i0 else if k = 1 then i1 else if k = 2 then i2 else if k = 3 then i3 else if k = 4 then i4 else if k = 5 then i5 else if k = 6 then i6 else if k = 7 then i7 else i8), fun k => if k = 0 then a0 else if k = 1 then a1 else if k = 2 then a2 else if k = 3 then a3 else if k = 4 then a4 else a5), ⟨⟨fun c q hq => ?_, fun k q hq => ?_⟩, ?_⟩, va_AO.of w2, va_AO.of w3, va_AO.of w4, va_AO.of w5⟩
  · have hl : c < 9 := (List.getElem?_eq_some_iff.mp hq).1
    have hc : c = 0 ∨ c = 1 ∨ c = 2 ∨ c = 3 ∨ c = 4 ∨ c = 5 ∨ c = 6 ∨ c = 7 ∨ c = 8 := by omega
    rcases hc with rfl | rfl | rfl | rfl | rfl | rfl | rfl | rfl | rfl
    · cases hq; exact k0
    · cases hq; exact k1
    · cases hq; exact k2
    · cases hq; exact k3
    · cases hq; exact k4
    · cases hq; exact k5
    · cases hq; exact k6
    · cases hq; exact k7
    · cases hq; exact k8
  · have hl : k < 6 := (List.getElem?_eq_some_iff.mp hq).1
    have hc : k = 0 ∨ k = 1 ∨ k = 2 ∨ k = 3 ∨ k = 4 ∨ k = 5 := by omega
    rcases hc with rfl | rfl | rfl | rfl | rfl | rfl
    · cases hq; exact f0
    · cases hq; exact f1
    · cases hq; exact f2
    · cases hq; exact f3
    · cases hq; exact f4
    · cases hq; exact f5
  · exact List.forall_mem_cons.mpr ⟨va_Nw.of rfl (hts (.methodLinkNest RX1 64 yX7_bit "WindTaken") (List.mem_of_getElem? (i := 601) (by decide +kernel))), List.forall_mem_cons.mpr ⟨va_Nw.of rfl (hts (.methodLinkNest RX1 85 yX7_isWithin "WindTaken") (List.mem_of_getElem? (i := 609) (by decide +kernel))), List.forall_mem_cons.mpr ⟨va_Nw.of rfl (hts (.methodLinkNest RX2 11 yX5_init "WindTaken") (List.mem_of_getElem? (i := 86) (by decide +kernel))), List.forall_mem_cons.mpr ⟨va_Nw.of rfl (hts (.methodLinkNest RX2 130 yX7_isWithin "WindTaken") (List.mem_of_getElem? (i := 497) (by decide +kernel))), List.forall_mem_cons.mpr ⟨va_Nw.of rfl (hts (.methodLinkNest RX3 17 yX0_init "WindTaken") (List.mem_of_getElem? (i := 134) (by decide +kernel))), List.forall_mem_cons.mpr ⟨va_Nw.of rfl (hts (.methodLinkNest RX3 48 yX7_bit "WindTaken") (List.mem_of_getElem? (i := 717) (by decide +kernel))), List.forall_mem_cons.mpr ⟨va_Nw.of rfl (hts (.methodLinkNest RX7 17 yX2_init "WindTaken") (List.mem_of_getElem? (i := 80) (by decide +kernel))), List.forall_mem_cons.mpr ⟨va_Nw.of rfl (hts (.methodLinkNest RX7 44 yX6_init "WindTaken") (List.mem_of_getElem? (i := 241) (by decide +kernel))), List.forall_mem_cons.mpr ⟨va_Nw.of rfl (hts (.methodLinkNest RX7 49 yX4_init "WindTaken") (List.mem_of_getElem? (i := 256) (by decide +kernel))), List.forall_mem_cons.mpr ⟨va_Nw.of rfl (hts (.methodLinkNest RX7 50 yX1_init "WindTaken") (List.mem_of_getElem? (i := 274) (by decide +kernel))), fun _ h => absurd h List.not_mem_nil⟩⟩⟩⟩⟩⟩⟩⟩⟩⟩
