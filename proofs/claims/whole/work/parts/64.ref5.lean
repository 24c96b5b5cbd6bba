theorem kX8_goHour_22 : (.fieldLink RX8 22 "WindTakenModel" "now" "[I" : Cond) ∈ wsX8_goHour := by decide +kernel
theorem iX8_goHour_X8 : ∀ w ∈ wsX80, w ∈ wsX8_goHour := by decide +kernel
theorem kX8_goHour_40 : (.fieldLink RX8 40 "WindTakenModel" "ground" "[I" : Cond) ∈ wsX8_goHour := by decide +kernel
theorem kX8_goHour_43 : (.fieldLink RX8 43 "WindTakenModel" "worn" "[I" : Cond) ∈ wsX8_goHour := by decide +kernel
theorem kX8_goHour_215 : (.constant RX8 215 (-1000000) : Cond) ∈ wsX8_goHour := by decide +kernel
abbrev rmX8_goHour : Room := { frames := 6, cells := 0, slots := 0, locals := 148 }
set_option maxHeartbeats 4000000 in
set_option maxRecDepth 100000 in
theorem c_X8_goHour (l : Launch) (G : GG) (B : Nat) (hW : WOK (wM G B)) (x : Mem) {q : Nat} (w : Int32) {n : Nat} (hN : x 5 0 = nI n) (hn8 : n ≤ 8) (hq : q < 4) : Met l yX8_goHour wsX8_goHour rmX8_goHour (XP G (wM G B) [.ref (B + (0)), .int (nI q), .int (w)] x) (va_Qi (fun r u => r = sMade (x 5) n q w 0 ∧ u 5 = hourNw (x 5) n q w ∧ ∀ a, a ≠ 5 → a ≠ 11 → a ≠ 12 → u a = x a) (XB G (wM G B)) (blkA B (B + 13))) 0 0 (blkA B (B + 13)) := by
  refine Met.ofW (cc := cX8_goHour) (maxL := 5) (ret := (some .int)) (by decide) rfl ?_
  intro pp ee ss mm aa bb mt cd s1 Bd hml hv
  obtain ⟨hae, hX, hK, hE⟩ := hv
  have hx := Bd.exec
  have hb := Bd.bytes
  have hr := Bd.returns
  have hts := atoms_spec (ws := wsX8_goHour) Bd.pre
  have hown : ss.vm.findClass RX8 = some mm.cls := findClass_of_methodNamed Bd.named
  have hlocks := Bd.notSynchronized
  have hS : va_S (blkA B (B + 13)) ss.heap ss.heap [] := va_S.rf
  have hl := lv_entry ([.ref (B + (0)), .int (nI q), .int (w)]) (n := 5) (Nat.le_of_ble_eq_true rfl)
  subst hae
  rw [lg_entry_eq]
  generalize (lg_sl ([.ref (B + (0)), .int (nI q), .int (w)]) ++ List.replicate (5 - (lg_sl ([.ref (B + (0)), .int (nI q), .int (w)])).length) Slot.unset).toArray = ls at hl ⊢
  have hl : lv_has ls 5 [(0, .ref (B + (0))), (1, .int (nI q)), (2, .int (w))] := hl
  generalize ([.ref (B + (0)), .int (nI q), .int (w)] : List Value).toArray = aa at hts ⊢
  show W pp l ee rmX8_goHour ss mm aa bb mt cd ss.heap [] 0 0 _ (F0 mm 0 ls [])
  generalize hQ : MQ bb (va_Qi (fun r u => r = sMade (x 5) n q w 0 ∧ u 5 = hourNw (x 5) n q w ∧ ∀ a, a ≠ 5 → a ≠ 11 → a ≠ 12 → u a = x a) (XB G (wM G B)) (blkA B (B + 13))) aa ss 0 0 (blkA B (B + 13)) = Q
  refine lv_iconst (v := 0) hx hb dX8_goHour_0 (by decide) ?_
  refine lv_istore_n (lv' := [(3, .int (0)), (0, .ref (B + (0))), (1, .int (nI q)), (2, .int (w))]) hx hb dX8_goHour_1 rfl hl (by decide) rfl (fun ls hl => ?_)
  refine lv_iconst (v := 0) hx hb dX8_goHour_2 (by decide) ?_
  refine lv_istore (lv' := [(4, .int (0)), (3, .int (0)), (0, .ref (B + (0))), (1, .int (nI q)), (2, .int (w))]) hx hb dX8_goHour_3 hl (by decide) rfl (fun ls hl => ?_)
  have L_1 : ∀ (n9 : Nat) (i : Nat) (sm : Int32)  (u : Mem) (_ : n9 = n - i) (_ : i ≤ n ∧ sm = sumN (fun m => sGr (x 5) n m q w 0 hNo) i ∧ (∀ a, a ≠ 11 → a ≠ 12 → u a = x a) ∧ ∀ j, j < i → u 11 j = sGr (x 5) n j q w 0 hNo ∧ u 12 j = sWear (x 5) n j q w) (H_2 : Heap) (lo_3 : List Loc) (_ : MR G (wM G B) u H_2) (_ : va_S (blkA B (B + 13)) ss.heap H_2 lo_3) (ls : Array Slot) (_ : lv_has ls 5 [(4, .int (nI i)), (3, .int (sm)), (0, .ref (B + (0))), (1, .int (nI q)), (2, .int (w))]), W pp l ee rmX8_goHour ss mm aa bb mt cd H_2 lo_3 0 0 Q (F0 mm 5 ls []) := by
    intro n9
    induction n9 using Nat.strongRecOn with
    | _ n9 ih => 
      have ih_5 := ih
      intro i sm u hn9 hI H_2 lo_3 hX hS ls hl
      obtain ⟨hi, hsm, ho, hk⟩ := hI
      have hu5 : u 5 = x 5 := ho 5 (by decide) (by decide)
      have hNu : u 5 0 = nI n := by rw [hu5]; exact hN
      refine lv_iload hx hb dX8_goHour_5 (lv_at hl 0 rfl) ?_
      refine lv_aload_n hx hb dX8_goHour_7 rfl (lv_at hl 2 rfl) ?_
      refine x_get (w := (wM G B)) (a := 0) (v := .ref (B + (5))) hx hb hts iX8_goHour_X8 hown hK hX (Nat.le_of_ble_eq_true rfl) (shM_0 (G := G) (B := B)) rfl 7 (by decide) (hts _ kX8_goHour_22) (fun _ h9 => h9) rfl dX8_goHour_8 ?_
      refine lv_iconst (v := 0) hx hb dX8_goHour_11 (by decide) ?_
      refine x_iald (w := (wM G B)) (a := 5) (n := 93) (j := 0) hx hb hK hX (Nat.le_of_ble_eq_true rfl) (shM_a (G := G) (B := B) (a := 5) (f := u (5)) (by decide)) rfl (by decide) (by decide) dX8_goHour_12 ?_
      refine lv_icmp_ge (tgt := 86) hx hb dX8_goHour_13 (by decide) (fun c_4 => ?_) (fun c_4 => ?_)
      · have nc_4 := (n_le (a := n) (b := i) hNu rfl (by omega) (by omega)).mp c_4
        have e9 : i = n := by omega
        rw [e9] at hsm hk
        refine lv_iconst (v := 0) hx hb dX8_goHour_86 (by decide) ?_
        refine lv_istore (lv' := [(4, .int (0)), (3, .int (sm)), (0, .ref (B + (0))), (1, .int (nI q)), (2, .int (w))]) hx hb dX8_goHour_87 hl (by decide) rfl (fun ls hl => ?_)
        have L_5 : ∀ (n9 : Nat) (g : Nat)  (u2 : Mem) (_ : n9 = n - g) (_ : g ≤ n ∧ u2 5 = hourP (x 5) n q w g ∧ (∀ a, a ≠ 5 → u2 a = u a)) (H_6 : Heap) (lo_7 : List Loc) (_ : MR G (wM G B) u2 H_6) (_ : va_S (blkA B (B + 13)) ss.heap H_6 lo_7) (ls : Array Slot) (_ : lv_has ls 5 [(4, .int (nI g)), (3, .int (sm)), (0, .ref (B + (0))), (1, .int (nI q)), (2, .int (w))]), W pp l ee rmX8_goHour ss mm aa bb mt cd H_6 lo_7 0 0 Q (F0 mm 89 ls []) := by
          intro n9
          induction n9 using Nat.strongRecOn with
          | _ n9 ih => 
            have ih_89 := ih
            intro g u2 hn9 hI H_6 lo_7 hX hS ls hl
            obtain ⟨hg9, h5, ho2⟩ := hI
            have hNu2 : u2 5 0 = nI n := by rw [h5, hourP_lo (by decide)]; exact hN
            refine lv_iload hx hb dX8_goHour_89 (lv_at hl 0 rfl) ?_
            refine lv_aload_n hx hb dX8_goHour_91 rfl (lv_at hl 2 rfl) ?_
            refine x_get (w := (wM G B)) (a := 0) (v := .ref (B + (5))) hx hb hts iX8_goHour_X8 hown hK hX (Nat.le_of_ble_eq_true rfl) (shM_0 (G := G) (B := B)) rfl 7 (by decide) (hts _ kX8_goHour_22) (fun _ h9 => h9) rfl dX8_goHour_92 ?_
            refine lv_iconst (v := 0) hx hb dX8_goHour_95 (by decide) ?_
            refine x_iald (w := (wM G B)) (a := 5) (n := 93) (j := 0) hx hb hK hX (Nat.le_of_ble_eq_true rfl) (shM_a (G := G) (B := B) (a := 5) (f := u2 (5)) (by decide)) rfl (by decide) (by decide) dX8_goHour_96 ?_
            refine lv_icmp_ge (tgt := 178) hx hb dX8_goHour_97 (by decide) (fun c_8 => ?_) (fun c_8 => ?_)
            · have nc_8 := (n_le (a := n) (b := g) hNu2 rfl (by omega) (by omega)).mp c_8
              have e8 : g = n := by omega
              rw [e8] at h5
              refine lv_aload_n hx hb dX8_goHour_178 rfl (lv_at hl 2 rfl) ?_
              refine x_get (w := (wM G B)) (a := 0) (v := .ref (B + (5))) hx hb hts iX8_goHour_X8 hown hK hX (Nat.le_of_ble_eq_true rfl) (shM_0 (G := G) (B := B)) rfl 7 (by decide) (hts _ kX8_goHour_22) (fun _ h9 => h9) rfl dX8_goHour_179 ?_
              refine lv_iconst (v := 1) hx hb dX8_goHour_182 (by decide) ?_
              refine lv_dup2_11 hx hb dX8_goHour_183 rfl rfl ?_
              refine x_iald (w := (wM G B)) (a := 5) (n := 93) (j := 1) hx hb hK hX (Nat.le_of_ble_eq_true rfl) (shM_a (G := G) (B := B) (a := 5) (f := u2 (5)) (by decide)) rfl (by decide) (by decide) dX8_goHour_184 ?_
              refine lv_iconst (v := 1) hx hb dX8_goHour_185 (by decide) ?_
              refine lv_iadd hx hb dX8_goHour_186 ?_
              refine x_iast (w := (wM G B)) (a := 5) (n := 93) (j := 1) hx hb hK hW hX hS (Nat.le_of_ble_eq_true rfl) (fun f => (shM_a (G := G) (B := B) (a := 5) (f := f) (by decide))) rfl (by decide) (by decide) dX8_goHour_187 (fun H_10 lo_11 hX hS => ?_)
              obtain ⟨x_9, ex_9⟩ : ∃ z, z = mst u2 (5) 1 ((u2 (5) 1) + 1) := ⟨_, rfl⟩
              rw [← ex_9] at hX
              have z_12 : x_9 (5) 0 = nI (n) := by rw [ex_9, mst_eq, upd_ne (by first | decide | omega)]; exact hNu2
              refine lv_iload_n hx hb dX8_goHour_188 rfl (lv_at hl 1 rfl) ?_
              rw [← hQ]
              refine x_iret (v := sm) hx hb hr hX hS hlocks dX8_goHour_189 ?_
              exact ⟨hsm, by rw [ex_9, mst_eq]; exact hourNw_up h5, fun a a1 a2 a3 => by rw [ex_9, mst_ne a1, ho2 a a1, ho a a2 a3]⟩
            · have nc_8 := Nat.not_le.mp (fun q => c_8 ((n_le (a := n) (b := g) hNu2 rfl (by omega) (by omega)).mpr q))
              refine lv_aload_n hx hb dX8_goHour_100 rfl (lv_at hl 2 rfl) ?_
              refine x_get (w := (wM G B)) (a := 0) (v := .ref (B + (5))) hx hb hts iX8_goHour_X8 hown hK hX (Nat.le_of_ble_eq_true rfl) (shM_0 (G := G) (B := B)) rfl 7 (by decide) (hts _ kX8_goHour_22) (fun _ h9 => h9) rfl dX8_goHour_101 ?_
              refine lv_iconst (v := 5) hx hb dX8_goHour_104 (by decide) ?_
              refine lv_bipush (v := 10) hx hb dX8_goHour_105 (by decide) ?_
              refine lv_iload hx hb dX8_goHour_107 (lv_at hl 0 rfl) ?_
              refine lv_imul hx hb dX8_goHour_109 ?_
              refine lv_iadd hx hb dX8_goHour_110 ?_
              refine lv_iconst (v := 3) hx hb dX8_goHour_111 (by decide) ?_
              refine lv_iadd hx hb dX8_goHour_112 ?_
              refine lv_dup2_11 hx hb dX8_goHour_113 rfl rfl ?_
              refine x_iald (w := (wM G B)) (a := 5) (n := 93) (j := 5 + (10 * g) + 3) hx hb hK hX (Nat.le_of_ble_eq_true rfl) (shM_a (G := G) (B := B) (a := 5) (f := u2 (5)) (by decide)) (n_add (n_add rfl (n_mul rfl rfl)) rfl) (by omega) (by decide) dX8_goHour_114 ?_
              refine lv_aload_n hx hb dX8_goHour_115 rfl (lv_at hl 2 rfl) ?_
              refine x_get (w := (wM G B)) (a := 0) (v := .ref (B + (11))) hx hb hts iX8_goHour_X8 hown hK hX (Nat.le_of_ble_eq_true rfl) (shM_0 (G := G) (B := B)) rfl 19 (by decide) (hts _ kX8_goHour_40) (fun _ h9 => h9) rfl dX8_goHour_116 ?_
              refine lv_iload hx hb dX8_goHour_119 (lv_at hl 0 rfl) ?_
              refine x_iald (w := (wM G B)) (a := 11) (n := 8) (j := g) hx hb hK hX (Nat.le_of_ble_eq_true rfl) (shM_a (G := G) (B := B) (a := 11) (f := u2 (11)) (by decide)) rfl (by omega) (by decide) dX8_goHour_121 ?_
              refine lv_isub hx hb dX8_goHour_122 ?_
              refine x_iast (w := (wM G B)) (a := 5) (n := 93) (j := 5 + (10 * g) + 3) hx hb hK hW hX hS (Nat.le_of_ble_eq_true rfl) (fun f => (shM_a (G := G) (B := B) (a := 5) (f := f) (by decide))) (n_add (n_add rfl (n_mul rfl rfl)) rfl) (by omega) (by decide) dX8_goHour_123 (fun H_14 lo_15 hX hS => ?_)
              obtain ⟨x_13, ex_13⟩ : ∃ z, z = mst u2 (5) (5 + (10 * g) + 3) ((u2 (5) (5 + (10 * g) + 3)) - (u2 (11) g)) := ⟨_, rfl⟩
              rw [← ex_13] at hX
              have z_16 : x_13 (5) 0 = nI (n) := by rw [ex_13, mst_eq, upd_ne (by first | decide | omega)]; exact hNu2
              refine lv_aload_n hx hb dX8_goHour_124 rfl (lv_at hl 2 rfl) ?_
              refine x_get (w := (wM G B)) (a := 0) (v := .ref (B + (5))) hx hb hts iX8_goHour_X8 hown hK hX (Nat.le_of_ble_eq_true rfl) (shM_0 (G := G) (B := B)) rfl 7 (by decide) (hts _ kX8_goHour_22) (fun _ h9 => h9) rfl dX8_goHour_125 ?_
              refine lv_iconst (v := 5) hx hb dX8_goHour_128 (by decide) ?_
              refine lv_bipush (v := 10) hx hb dX8_goHour_129 (by decide) ?_
              refine lv_iload hx hb dX8_goHour_131 (lv_at hl 0 rfl) ?_
              refine lv_imul hx hb dX8_goHour_133 ?_
              refine lv_iadd hx hb dX8_goHour_134 ?_
              refine lv_iconst (v := 4) hx hb dX8_goHour_135 (by decide) ?_
              refine lv_iadd hx hb dX8_goHour_136 ?_
              refine lv_dup2_11 hx hb dX8_goHour_137 rfl rfl ?_
              refine x_iald (w := (wM G B)) (a := 5) (n := 93) (j := 5 + (10 * g) + 4) hx hb hK hX (Nat.le_of_ble_eq_true rfl) (shM_a (G := G) (B := B) (a := 5) (f := x_13 (5)) (by decide)) (n_add (n_add rfl (n_mul rfl rfl)) rfl) (by omega) (by decide) dX8_goHour_138 ?_
              refine lv_aload_n hx hb dX8_goHour_139 rfl (lv_at hl 2 rfl) ?_
              refine x_get (w := (wM G B)) (a := 0) (v := .ref (B + (11))) hx hb hts iX8_goHour_X8 hown hK hX (Nat.le_of_ble_eq_true rfl) (shM_0 (G := G) (B := B)) rfl 19 (by decide) (hts _ kX8_goHour_40) (fun _ h9 => h9) rfl dX8_goHour_140 ?_
              refine lv_iload hx hb dX8_goHour_143 (lv_at hl 0 rfl) ?_
              refine x_iald (w := (wM G B)) (a := 11) (n := 8) (j := g) hx hb hK hX (Nat.le_of_ble_eq_true rfl) (shM_a (G := G) (B := B) (a := 11) (f := x_13 (11)) (by decide)) rfl (by omega) (by decide) dX8_goHour_145 ?_
              refine lv_iadd hx hb dX8_goHour_146 ?_
              refine x_iast (w := (wM G B)) (a := 5) (n := 93) (j := 5 + (10 * g) + 4) hx hb hK hW hX hS (Nat.le_of_ble_eq_true rfl) (fun f => (shM_a (G := G) (B := B) (a := 5) (f := f) (by decide))) (n_add (n_add rfl (n_mul rfl rfl)) rfl) (by omega) (by decide) dX8_goHour_147 (fun H_18 lo_19 hX hS => ?_)
              obtain ⟨x_17, ex_17⟩ : ∃ z, z = mst x_13 (5) (5 + (10 * g) + 4) ((x_13 (5) (5 + (10 * g) + 4)) + (x_13 (11) g)) := ⟨_, rfl⟩
              rw [← ex_17] at hX
              have z_20 : x_17 (5) 0 = nI (n) := by rw [ex_17, mst_eq, upd_ne (by first | decide | omega)]; exact z_16
              refine lv_aload_n hx hb dX8_goHour_148 rfl (lv_at hl 2 rfl) ?_
              refine x_get (w := (wM G B)) (a := 0) (v := .ref (B + (5))) hx hb hts iX8_goHour_X8 hown hK hX (Nat.le_of_ble_eq_true rfl) (shM_0 (G := G) (B := B)) rfl 7 (by decide) (hts _ kX8_goHour_22) (fun _ h9 => h9) rfl dX8_goHour_149 ?_
              refine lv_iconst (v := 5) hx hb dX8_goHour_152 (by decide) ?_
              refine lv_bipush (v := 10) hx hb dX8_goHour_153 (by decide) ?_
              refine lv_iload hx hb dX8_goHour_155 (lv_at hl 0 rfl) ?_
              refine lv_imul hx hb dX8_goHour_157 ?_
              refine lv_iadd hx hb dX8_goHour_158 ?_
              refine lv_iconst (v := 5) hx hb dX8_goHour_159 (by decide) ?_
              refine lv_iadd hx hb dX8_goHour_160 ?_
              refine lv_dup2_11 hx hb dX8_goHour_161 rfl rfl ?_
              refine x_iald (w := (wM G B)) (a := 5) (n := 93) (j := 5 + (10 * g) + 5) hx hb hK hX (Nat.le_of_ble_eq_true rfl) (shM_a (G := G) (B := B) (a := 5) (f := x_17 (5)) (by decide)) (n_add (n_add rfl (n_mul rfl rfl)) rfl) (by omega) (by decide) dX8_goHour_162 ?_
              refine lv_aload_n hx hb dX8_goHour_163 rfl (lv_at hl 2 rfl) ?_
              refine x_get (w := (wM G B)) (a := 0) (v := .ref (B + (12))) hx hb hts iX8_goHour_X8 hown hK hX (Nat.le_of_ble_eq_true rfl) (shM_0 (G := G) (B := B)) rfl 20 (by decide) (hts _ kX8_goHour_43) (fun _ h9 => h9) rfl dX8_goHour_164 ?_
              refine lv_iload hx hb dX8_goHour_167 (lv_at hl 0 rfl) ?_
              refine x_iald (w := (wM G B)) (a := 12) (n := 8) (j := g) hx hb hK hX (Nat.le_of_ble_eq_true rfl) (shM_a (G := G) (B := B) (a := 12) (f := x_17 (12)) (by decide)) rfl (by omega) (by decide) dX8_goHour_169 ?_
              refine lv_iadd hx hb dX8_goHour_170 ?_
              refine x_iast (w := (wM G B)) (a := 5) (n := 93) (j := 5 + (10 * g) + 5) hx hb hK hW hX hS (Nat.le_of_ble_eq_true rfl) (fun f => (shM_a (G := G) (B := B) (a := 5) (f := f) (by decide))) (n_add (n_add rfl (n_mul rfl rfl)) rfl) (by omega) (by decide) dX8_goHour_171 (fun H_22 lo_23 hX hS => ?_)
              obtain ⟨x_21, ex_21⟩ : ∃ z, z = mst x_17 (5) (5 + (10 * g) + 5) ((x_17 (5) (5 + (10 * g) + 5)) + (x_17 (12) g)) := ⟨_, rfl⟩
              rw [← ex_21] at hX
              have z_24 : x_21 (5) 0 = nI (n) := by rw [ex_21, mst_eq, upd_ne (by first | decide | omega)]; exact z_20
              refine lv_iinc (v := nI (g + 1)) (lv' := [(4, .int (nI (g + 1))), (3, .int (sm)), (0, .ref (B + (0))), (1, .int (nI q)), (2, .int (w))]) hx hb dX8_goHour_172 hl (k := 0) rfl (inc_nI _) (by decide) rfl (fun ls hl => ?_)
              refine lv_goto (tgt := 89) hx hb dX8_goHour_175 (by decide) ?_
              have hG : u2 11 g = sGr (x 5) n g q w 0 hNo := by rw [ho2 11 (by decide)]; exact (hk g (by omega)).1
              have hW9 : u2 12 g = sWear (x 5) n g q w := by rw [ho2 12 (by decide)]; exact (hk g (by omega)).2
              have hx2 : x_13 5 = upd (u2 5) (5 + 10 * g + 3) (u2 5 (5 + 10 * g + 3) - u2 11 g) := by rw [ex_13, mst_eq]
              have hx1 : x_17 5 = upd (x_13 5) (5 + 10 * g + 4) (u2 5 (5 + 10 * g + 4) + u2 11 g) := by rw [ex_17, mst_eq, show x_13 5 (5 + 10 * g + 4) = u2 5 (5 + 10 * g + 4) by rw [hx2, upd_ne (by omega)], show x_13 11 g = u2 11 g by rw [ex_13, mst_ne (by decide)]]
              have hx0 : x_21 5 = upd (x_17 5) (5 + 10 * g + 5) (u2 5 (5 + 10 * g + 5) + u2 12 g) := by rw [ex_21, mst_eq, show x_17 5 (5 + 10 * g + 5) = u2 5 (5 + 10 * g + 5) by rw [hx1, upd_ne (by omega), hx2, upd_ne (by omega)], show x_17 12 g = u2 12 g by rw [ex_17, mst_ne (by decide), ex_13, mst_ne (by decide)]]
              exact ih_89 _ (by omega) (g + 1) (x_21) rfl ⟨by omega, by rw [hx0, hx1, hx2]; exact hourP_up h5 hG hW9, fun a a1 => by rw [ex_21, mst_ne a1, ex_17, mst_ne a1, ex_13, mst_ne a1]; exact ho2 a a1⟩ _ _ hX hS ls (lv_sub hl [0, 1, 2, 3, 4] rfl)
        exact L_5 _ (0) (u) rfl ⟨Nat.zero_le _, by rw [hu5]; exact hourP_0, fun a _ => rfl⟩ _ _ hX hS ls (lv_sub hl [0, 1, 2, 3, 4] rfl)
      · have nc_4 := Nat.not_le.mp (fun q => c_4 ((n_le (a := n) (b := i) hNu rfl (by omega) (by omega)).mpr q))
        refine lv_aload_n hx hb dX8_goHour_16 rfl (lv_at hl 2 rfl) ?_
        refine x_get (w := (wM G B)) (a := 0) (v := .ref (B + (11))) hx hb hts iX8_goHour_X8 hown hK hX (Nat.le_of_ble_eq_true rfl) (shM_0 (G := G) (B := B)) rfl 19 (by decide) (hts _ kX8_goHour_40) (fun _ h9 => h9) rfl dX8_goHour_17 ?_
        refine lv_iload hx hb dX8_goHour_20 (lv_at hl 0 rfl) ?_
        refine lv_aload_n hx hb dX8_goHour_22 rfl (lv_at hl 2 rfl) ?_
        refine lv_iload hx hb dX8_goHour_23 (lv_at hl 0 rfl) ?_
        refine lv_iload_n hx hb dX8_goHour_25 rfl (lv_at hl 3 rfl) ?_
        refine lv_iload_n hx hb dX8_goHour_26 rfl (lv_at hl 4 rfl) ?_
        refine lv_iconst (v := 0) hx hb dX8_goHour_27 (by decide) ?_
        refine lv_ldc (v := (-1000000)) hx hb hown (hts _ kX8_goHour_215) dX8_goHour_28 ?_
        refine x_ip (w := (wM G B)) (x := u) (v := sGr (u 5) n i q w 0 hNo) (va_runV (As := [.int (nI i), .int (nI q), .int (w), .int (0), .int ((-1000000))]) (rest := [.int (nI i), .ref (B + (11))]) ⟨hx, hb, hml, hown, hts⟩ (c_X8_grinds (l := l) (G := G) (B := B) (hW := hW) (x := u) (ml := i) (q := q) (w := w) (s := 0) (h := hNo) (n := n) (hN := hNu) (hn8 := hn8) (hml9 := (by omega)) (hq := (by omega)) (hs := (by omega))) (cwV 5 hts gX8_goHour_X8_grinds rfl rfl rfl (by decide +kernel) ⟨Nat.le_of_ble_eq_true rfl, Nat.le_of_ble_eq_true rfl⟩) (x_pv (w := (wM G B)) (a := 0) hW hX hK hE hS [.int (nI i), .int (nI q), .int (w), .int (0), .int ((-1000000))] (Nat.le_of_ble_eq_true rfl) (shM_0 (G := G) (B := B)) rfl) rfl rfl hl.1 rfl (lv_room (Nat.le_of_ble_eq_true rfl)) dX8_goHour_30 ⟨Nat.zero_le _, Nat.zero_le _⟩) hS (fun H_25 lo_26 hX hS => ?_)
        refine x_iast (w := (wM G B)) (a := 11) (n := 8) (j := i) hx hb hK hW hX hS (Nat.le_of_ble_eq_true rfl) (fun f => (shM_a (G := G) (B := B) (a := 11) (f := f) (by decide))) rfl (by omega) (by decide) dX8_goHour_33 (fun H_28 lo_29 hX hS => ?_)
        obtain ⟨x_27, ex_27⟩ : ∃ z, z = mst u (11) i (sGr (u 5) n i q w 0 hNo) := ⟨_, rfl⟩
        rw [← ex_27] at hX
        have z_30 : x_27 (5) 0 = nI (n) := by rw [ex_27, mst_ne (by first | decide | omega)]; exact hNu
        have hNv : x_27 5 0 = nI n := by rw [ex_27, mst_ne (by decide)]; exact hNu
        refine lv_aload_n hx hb dX8_goHour_34 rfl (lv_at hl 2 rfl) ?_
        refine x_get (w := (wM G B)) (a := 0) (v := .ref (B + (12))) hx hb hts iX8_goHour_X8 hown hK hX (Nat.le_of_ble_eq_true rfl) (shM_0 (G := G) (B := B)) rfl 20 (by decide) (hts _ kX8_goHour_43) (fun _ h9 => h9) rfl dX8_goHour_35 ?_
        refine lv_iload hx hb dX8_goHour_38 (lv_at hl 0 rfl) ?_
        refine lv_aload_n hx hb dX8_goHour_40 rfl (lv_at hl 2 rfl) ?_
        refine lv_iload hx hb dX8_goHour_41 (lv_at hl 0 rfl) ?_
        refine lv_iload_n hx hb dX8_goHour_43 rfl (lv_at hl 3 rfl) ?_
        refine lv_iconst (v := 0) hx hb dX8_goHour_44 (by decide) ?_
        refine x_ip (w := (wM G B)) (x := x_27) (v := bI (sTakes (x_27 5) i q 0)) (va_runV (As := [.int (nI i), .int (nI q), .int (0)]) (rest := [.int (nI i), .ref (B + (12))]) ⟨hx, hb, hml, hown, hts⟩ (c_X8_takes (l := l) (G := G) (B := B) (hW := hW) (x := x_27) (ml := i) (q := q) (s := 0) (hml9 := (by omega)) (hq := (by omega)) (hs := (by omega))) (cwV 3 hts gX8_goHour_X8_takes rfl rfl rfl (by decide +kernel) ⟨Nat.le_of_ble_eq_true rfl, Nat.le_of_ble_eq_true rfl⟩) (x_pv (w := (wM G B)) (a := 0) hW hX hK hE hS [.int (nI i), .int (nI q), .int (0)] (Nat.le_of_ble_eq_true rfl) (shM_0 (G := G) (B := B)) rfl) rfl rfl hl.1 rfl (lv_room (Nat.le_of_ble_eq_true rfl)) dX8_goHour_45 ⟨Nat.zero_le _, Nat.zero_le _⟩) hS (fun H_31 lo_32 hX hS => ?_)
        have kJ_35 : ∀ (v_34 : Int32) (_ : v_34 = (if (sTakes (x_27 5) i q 0) = false then (0 : Int32) else ((sLeft (x_27 5) n i q w 0 hNo) / 10))) (H_36 : Heap) (lo_37 : List Loc) (_ : MR G (wM G B) x_27 H_36) (_ : va_S (blkA B (B + 13)) ss.heap H_36 lo_37) (ls : Array Slot) (_ : lv_has ls 5 [(4, .int (nI i)), (3, .int (sm)), (0, .ref (B + (0))), (1, .int (nI q)), (2, .int (w))]), W pp l ee rmX8_goHour ss mm aa bb mt cd H_36 lo_37 0 0 Q (F0 mm 69 ls [.int (v_34), .int (nI i), .ref (B + (12))]) := by
          intro v_34 ev_34 H_36 lo_37 hX hS ls hl
          refine x_iast (w := (wM G B)) (a := 12) (n := 8) (j := i) hx hb hK hW hX hS (Nat.le_of_ble_eq_true rfl) (fun f => (shM_a (G := G) (B := B) (a := 12) (f := f) (by decide))) rfl (by omega) (by decide) dX8_goHour_69 (fun H_39 lo_40 hX hS => ?_)
          obtain ⟨x_38, ex_38⟩ : ∃ z, z = mst x_27 (12) i (v_34) := ⟨_, rfl⟩
          rw [← ex_38] at hX
          have z_41 : x_38 (5) 0 = nI (n) := by rw [ex_38, mst_ne (by first | decide | omega)]; exact z_30
          refine lv_iload_n hx hb dX8_goHour_70 rfl (lv_at hl 1 rfl) ?_
          refine lv_aload_n hx hb dX8_goHour_71 rfl (lv_at hl 2 rfl) ?_
          refine x_get (w := (wM G B)) (a := 0) (v := .ref (B + (11))) hx hb hts iX8_goHour_X8 hown hK hX (Nat.le_of_ble_eq_true rfl) (shM_0 (G := G) (B := B)) rfl 19 (by decide) (hts _ kX8_goHour_40) (fun _ h9 => h9) rfl dX8_goHour_72 ?_
          refine lv_iload hx hb dX8_goHour_75 (lv_at hl 0 rfl) ?_
          refine x_iald (w := (wM G B)) (a := 11) (n := 8) (j := i) hx hb hK hX (Nat.le_of_ble_eq_true rfl) (shM_a (G := G) (B := B) (a := 11) (f := x_38 (11)) (by decide)) rfl (by omega) (by decide) dX8_goHour_77 ?_
          refine lv_iadd hx hb dX8_goHour_78 ?_
          refine lv_istore_n (lv' := [(3, .int (sm + (x_38 (11) i))), (4, .int (nI i)), (0, .ref (B + (0))), (1, .int (nI q)), (2, .int (w))]) hx hb dX8_goHour_79 rfl hl (by decide) rfl (fun ls hl => ?_)
          refine lv_iinc (v := nI (i + 1)) (lv' := [(4, .int (nI (i + 1))), (3, .int (sm + (x_38 (11) i))), (0, .ref (B + (0))), (1, .int (nI q)), (2, .int (w))]) hx hb dX8_goHour_80 hl (k := 1) rfl (inc_nI _) (by decide) rfl (fun ls hl => ?_)
          refine lv_goto (tgt := 5) hx hb dX8_goHour_83 (by decide) ?_
          have hk5 : x_27 5 = x 5 := by rw [ex_27, mst_ne (by decide)]; exact hu5
          have hg : x_38 11 i = sGr (x 5) n i q w 0 hNo := by rw [ex_38, mst_ne (by decide), ex_27, mst_self, hu5]
          have hwr : x_38 12 i = sWear (x 5) n i q w := by rw [ex_38, mst_self, ev_34, hk5]; exact wea_ref
          exact ih_5 _ (by omega) (i + 1) (sm + (x_38 (11) i)) (x_38) rfl ⟨by omega, by rw [sumN, ← hsm, hg], fun a a1 a2 => by rw [ex_38, mst_ne a2, ex_27, mst_ne a1]; exact ho a a1 a2, fun j hj => by
          by_cases hji : j = i
          · rw [hji]; exact ⟨hg, hwr⟩
          · rw [ex_38, mst_ne (by decide), mst_eq, upd_ne hji, ex_27, mst_eq, upd_ne hji, mst_ne (by decide)]; exact hk j (by omega)⟩ _ _ hX hS ls (lv_sub hl [0, 1, 2, 3, 4] rfl)
        refine x_ifeq (tgt := 68) hx hb dX8_goHour_48 (by decide) (fun c_33 => ?_) (fun c_33 => ?_)
        · refine lv_iconst (v := 0) hx hb dX8_goHour_68 (by decide) ?_
          exact kJ_35 (0) (by rw [if_pos c_33]) _ _ hX hS ls (lv_sub hl [0, 1, 2, 3, 4] rfl)
        · refine lv_aload_n hx hb dX8_goHour_51 rfl (lv_at hl 2 rfl) ?_
          refine lv_iload hx hb dX8_goHour_52 (lv_at hl 0 rfl) ?_
          refine lv_iload_n hx hb dX8_goHour_54 rfl (lv_at hl 3 rfl) ?_
          refine lv_iload_n hx hb dX8_goHour_55 rfl (lv_at hl 4 rfl) ?_
          refine lv_iconst (v := 0) hx hb dX8_goHour_56 (by decide) ?_
          refine lv_ldc (v := (-1000000)) hx hb hown (hts _ kX8_goHour_215) dX8_goHour_57 ?_
          refine x_ip (w := (wM G B)) (x := x_27) (v := sLeft (x_27 5) n i q w 0 hNo) (va_runV (As := [.int (nI i), .int (nI q), .int (w), .int (0), .int ((-1000000))]) (rest := [.int (nI i), .ref (B + (12))]) ⟨hx, hb, hml, hown, hts⟩ (c_X8_leftAt (l := l) (G := G) (B := B) (hW := hW) (x := x_27) (ml := i) (q := q) (w := w) (s := 0) (h := hNo) (n := n) (hN := hNv) (hn8 := hn8) (hml9 := (by omega)) (hq := (by omega)) (hs := (by omega))) (cwV 5 hts gX8_goHour_X8_leftAt rfl rfl rfl (by decide +kernel) ⟨Nat.le_of_ble_eq_true rfl, Nat.le_of_ble_eq_true rfl⟩) (x_pv (w := (wM G B)) (a := 0) hW hX hK hE hS [.int (nI i), .int (nI q), .int (w), .int (0), .int ((-1000000))] (Nat.le_of_ble_eq_true rfl) (shM_0 (G := G) (B := B)) rfl) rfl rfl hl.1 rfl (lv_room (Nat.le_of_ble_eq_true rfl)) dX8_goHour_59 ⟨Nat.zero_le _, Nat.zero_le _⟩) hS (fun H_42 lo_43 hX hS => ?_)
          refine lv_bipush (v := 10) hx hb dX8_goHour_62 (by decide) ?_
          refine lv_idiv hx hb dX8_goHour_64 (by decide) ?_
          refine lv_goto (tgt := 69) hx hb dX8_goHour_65 (by decide) ?_
          exact kJ_35 ((sLeft (x_27 5) n i q w 0 hNo) / 10) (by rw [if_neg (ne_of_true c_33)]) _ _ hX hS ls (lv_sub hl [0, 1, 2, 3, 4] rfl)
  exact L_1 _ (0) (0) (x) rfl ⟨Nat.zero_le _, rfl, fun a _ _ => rfl, fun j hj => absurd hj (Nat.not_lt_zero j)⟩ _ _ hX hS ls (lv_sub hl [0, 1, 2, 3, 4] rfl)

def PT_X8_hour (x : Mem) (q : Int32) (w : Int32) (n : Nat) (r : Int32) (u : Mem) : Prop := (if (decide (x 5 0 = 0)) = false then (if ((decide (0 ≤ q) && decide (q ≤ 3)) && (decide (0 ≤ w) && decide (w ≤ 100))) = false then (r = (-1000001) ∧ u = x) else (r = sMade (x 5) n (tn q) w 0 ∧ u 5 = hourNw (x 5) n (tn q) w ∧ ∀ a, a ≠ 5 → a ≠ 11 → a ≠ 12 → u a = x a)) else (r = (-1000002) ∧ u = x))
theorem kX8_hour_63 : (.constant RX8 63 (-1000001) : Cond) ∈ wsX8_hour := by decide +kernel
theorem kX8_hour_185 : (.constant RX8 185 (-1000002) : Cond) ∈ wsX8_hour := by decide +kernel
abbrev rmX8_hour : Room := { frames := 7, cells := 0, slots := 0, locals := 172 }
set_option maxHeartbeats 4000000 in
set_option maxRecDepth 100000 in
theorem c_X8_hour (l : Launch) (G : GG) (B : Nat) (hW : WOK (wM G B)) (x : Mem) (q : Int32) (w : Int32) {n : Nat} (hN : x 5 0 = nI n) (hn8 : n ≤ 8) : Met l yX8_hour wsX8_hour rmX8_hour (XP G (wM G B) [.ref (B + (0)), .int (q), .int (w)] x) (va_Qi (fun r u => PT_X8_hour x q w n r u) (XB G (wM G B)) (blkA B (B + 13))) 0 0 (blkA B (B + 13)) := by
  refine Met.ofW (cc := cX8_hour) (maxL := 3) (ret := (some .int)) (by decide) rfl ?_
  intro pp ee ss mm aa bb mt cd s1 Bd hml hv
  obtain ⟨hae, hX, hK, hE⟩ := hv
  have hx := Bd.exec
  have hb := Bd.bytes
  have hr := Bd.returns
  have hts := atoms_spec (ws := wsX8_hour) Bd.pre
  have hown : ss.vm.findClass RX8 = some mm.cls := findClass_of_methodNamed Bd.named
  have hlocks := Bd.notSynchronized
  have hS : va_S (blkA B (B + 13)) ss.heap ss.heap [] := va_S.rf
  have hl := lv_entry ([.ref (B + (0)), .int (q), .int (w)]) (n := 3) (Nat.le_of_ble_eq_true rfl)
  subst hae
  rw [lg_entry_eq]
  generalize (lg_sl ([.ref (B + (0)), .int (q), .int (w)]) ++ List.replicate (3 - (lg_sl ([.ref (B + (0)), .int (q), .int (w)])).length) Slot.unset).toArray = ls at hl ⊢
  have hl : lv_has ls 3 [(0, .ref (B + (0))), (1, .int (q)), (2, .int (w))] := hl
  generalize ([.ref (B + (0)), .int (q), .int (w)] : List Value).toArray = aa at hts ⊢
  show W pp l ee rmX8_hour ss mm aa bb mt cd ss.heap [] 0 0 _ (F0 mm 0 ls [])
  generalize hQ : MQ bb (va_Qi (fun r u => PT_X8_hour x q w n r u) (XB G (wM G B)) (blkA B (B + 13))) aa ss 0 0 (blkA B (B + 13)) = Q
  refine lv_aload_n hx hb dX8_hour_0 rfl (lv_at hl 0 rfl) ?_
  refine x_ip (w := (wM G B)) (x := x) (v := bI (decide (x 5 0 = 0))) (va_runV (As := []) (rest := []) ⟨hx, hb, hml, hown, hts⟩ (c_X8_isNoRidge (l := l) (G := G) (B := B) (hW := hW) (x := x) ) (cwV 0 hts gX8_hour_X8_isNoRidge rfl rfl rfl (by decide +kernel) ⟨Nat.le_of_ble_eq_true rfl, Nat.le_of_ble_eq_true rfl⟩) (x_pv (w := (wM G B)) (a := 0) hW hX hK hE hS [] (Nat.le_of_ble_eq_true rfl) (shM_0 (G := G) (B := B)) rfl) rfl rfl hl.1 rfl (lv_room (Nat.le_of_ble_eq_true rfl)) dX8_hour_1 ⟨Nat.zero_le _, Nat.zero_le _⟩) hS (fun H_1 lo_2 hX hS => ?_)
  refine x_ifeq (tgt := 10) hx hb dX8_hour_4 (by decide) (fun c_3 => ?_) (fun c_3 => ?_)
  · refine lv_iload_n hx hb dX8_hour_10 rfl (lv_at hl 1 rfl) ?_
    refine lv_iload_n hx hb dX8_hour_11 rfl (lv_at hl 2 rfl) ?_
    refine x_ip (w := (wM G B)) (x := x) (v := bI ((decide (0 ≤ q) && decide (q ≤ 3)) && (decide (0 ≤ w) && decide (w ≤ 100)))) (va_runS (As := [.int (q), .int (w)]) (rest := []) ⟨hx, hb, hml, hown, hts⟩ (c_X8_isWind (l := l) (G := G) (B := B) (hW := hW) (x := x) (q := q) (v := w)) (va_cwS 2 hts gX8_hour_X8_isWind rfl rfl rfl (by decide +kernel) ⟨Nat.le_of_ble_eq_true rfl, Nat.le_of_ble_eq_true rfl⟩) (x_ps (w := (wM G B)) hW hX hK hE hS [.int (q), .int (w)]) rfl rfl hl.1 rfl (lv_room (Nat.le_of_ble_eq_true rfl)) dX8_hour_12 ⟨Nat.zero_le _, Nat.zero_le _⟩) hS (fun H_4 lo_5 hX hS => ?_)
    refine x_ifeq (tgt := 27) hx hb dX8_hour_15 (by decide) (fun c_6 => ?_) (fun c_6 => ?_)
    · refine lv_ldc (v := (-1000001)) hx hb hown (hts _ kX8_hour_63) dX8_hour_27 ?_
      rw [← hQ]
      refine x_iret (v := (-1000001)) hx hb hr hX hS hlocks dX8_hour_29 ?_
      show PT_X8_hour _ _ _ _ _ _
      unfold PT_X8_hour
      rw [if_pos c_3, if_pos c_6]
      exact ⟨rfl, rfl⟩
    · obtain ⟨hqe, hq4⟩ := windQ c_6
      refine lv_aload_n hx hb dX8_hour_18 rfl (lv_at hl 0 rfl) ?_
      refine lv_iload_n hx hb dX8_hour_19 rfl (lv_at hl 1 rfl) ?_
      refine lv_iload_n hx hb dX8_hour_20 rfl (lv_at hl 2 rfl) ?_
      refine W.eq (g2 := F0 mm 21 ls [.int (w), .int (nI (tn q)), .ref (B + (0))]) (congrArg (fun z9 : Int32 => F0 mm 21 ls [.int (w), .int (z9), .ref (B + (0))]) hqe) ?_
      refine x_if (w := (wM G B)) (va_runV (As := [.int (nI (tn q)), .int (w)]) (rest := []) ⟨hx, hb, hml, hown, hts⟩ (c_X8_goHour (l := l) (G := G) (B := B) (hW := hW) (x := x) (q := tn q) (w := w) (n := n) (hN := hN) (hn8 := hn8) (hq := (by omega))) (cwV 2 hts gX8_hour_X8_goHour rfl rfl rfl (by decide +kernel) ⟨Nat.le_of_ble_eq_true rfl, Nat.le_of_ble_eq_true rfl⟩) (x_pv (w := (wM G B)) (a := 0) hW hX hK hE hS [.int (nI (tn q)), .int (w)] (Nat.le_of_ble_eq_true rfl) (shM_0 (G := G) (B := B)) rfl) rfl rfl hl.1 rfl (lv_room (Nat.le_of_ble_eq_true rfl)) dX8_hour_21 ⟨Nat.zero_le _, Nat.zero_le _⟩) hS (fun r_9 x_10 H_7 lo_8 h_21 hX hS => ?_)
      try dsimp only at h_21
      refine lv_goto (tgt := 29) hx hb dX8_hour_24 (by decide) ?_
      rw [← hQ]
      refine x_iret (v := r_9) hx hb hr hX hS hlocks dX8_hour_29 ?_
      show PT_X8_hour _ _ _ _ _ _
      unfold PT_X8_hour
      rw [if_pos c_3, if_neg (ne_of_true c_6)]
      exact h_21
  · refine lv_ldc (v := (-1000002)) hx hb hown (hts _ kX8_hour_185) dX8_hour_7 ?_
    rw [← hQ]
    refine x_iret (v := (-1000002)) hx hb hr hX hS hlocks dX8_hour_9 ?_
    show PT_X8_hour _ _ _ _ _ _
    unfold PT_X8_hour
    rw [if_neg (ne_of_true c_3)]
    exact ⟨rfl, rfl⟩

def PT_X8_hours (x : Mem) (a : Int32) (i : Int32) (nh : Int32) (n : Nat) (r : Int32) (u : Mem) : Prop := (if (decide (x 5 0 = 0)) = false then (if (decide (0 ≤ a) && decide (a ≤ 7)) = false then (r = (-1000001) ∧ u = x) else (if (decide (((1 : Int32)) ≤ ((nh : Int32))) && decide (((nh : Int32)) ≤ ((24 : Int32)))) = true then (if (decide (x 1 (tn a) < 0)) = false then (if (decide (0 ≤ i) && (decide (0 ≤ nh) && decide (nh ≤ (x (2) (tn a)) - i))) = true then (if hrsB (fun j9 => x 3 (40 * tn a + j9)) (tn i) (tn nh) = true then (r = hrsS (x 5) n (fun j9 => x 3 (40 * tn a + j9)) (tn i) (tn nh) ∧ ∃ y, (y 5 = hrsNw (x 5) n (fun j9 => x 3 (40 * tn a + j9)) (tn i) (tn nh) ∧ ∀ a9, a9 ≠ 5 → a9 ≠ 11 → a9 ≠ 12 → y a9 = x a9) ∧ u = mst y 0 3 0) else (r = (-1000001) ∧ u = x)) else (r = -1000010 - 2 ∧ u = mst x 0 3 2)) else (r = -1000010 - 1 ∧ u = mst x 0 3 1)) else (r = (-1000001) ∧ u = x))) else (r = (-1000002) ∧ u = x))
theorem kX8_hours_63 : (.constant RX8 63 (-1000001) : Cond) ∈ wsX8_hours := by decide +kernel
theorem kX8_hours_228 : (.constantLong RX8 228 (24) : Cond) ∈ wsX8_hours := by decide +kernel
theorem kX8_hours_13 : (.fieldLink RX8 13 "WindTakenModel" "sizes" "[I" : Cond) ∈ wsX8_hours := by decide +kernel
theorem iX8_hours_X8 : ∀ w ∈ wsX80, w ∈ wsX8_hours := by decide +kernel
theorem kX8_hours_16 : (.fieldLink RX8 16 "WindTakenModel" "items" "[I" : Cond) ∈ wsX8_hours := by decide +kernel
theorem kX8_hours_185 : (.constant RX8 185 (-1000002) : Cond) ∈ wsX8_hours := by decide +kernel
abbrev rmX8_hours : Room := { frames := 7, cells := 0, slots := 0, locals := 172 }
set_option maxHeartbeats 4000000 in
set_option maxRecDepth 100000 in
theorem c_X8_hours (l : Launch) (G : GG) (B : Nat) (hW : WOK (wM G B)) (x : Mem) (a : Int32) (i : Int32) (nh : Int32) {n : Nat} (hN : x 5 0 = nI n) (hn8 : n ≤ 8) (hY : YOK x) : Met l yX8_hours wsX8_hours rmX8_hours (XP G (wM G B) [.ref (B + (0)), .int (a), .int (i), .int (nh)] x) (va_Qi (fun r u => PT_X8_hours x a i nh n r u) (XB G (wM G B)) (blkA B (B + 13))) 0 0 (blkA B (B + 13)) := by
  refine Met.ofW (cc := cX8_hours) (maxL := 6) (ret := (some .int)) (by decide) rfl ?_
  intro pp ee ss mm aa bb mt cd s1 Bd hml hv
  obtain ⟨hae, hX, hK, hE⟩ := hv
  have hx := Bd.exec
  have hb := Bd.bytes
  have hr := Bd.returns
  have hts := atoms_spec (ws := wsX8_hours) Bd.pre
  have hown : ss.vm.findClass RX8 = some mm.cls := findClass_of_methodNamed Bd.named
  have hlocks := Bd.notSynchronized
  have hS : va_S (blkA B (B + 13)) ss.heap ss.heap [] := va_S.rf
  have hl := lv_entry ([.ref (B + (0)), .int (a), .int (i), .int (nh)]) (n := 6) (Nat.le_of_ble_eq_true rfl)
  subst hae
  rw [lg_entry_eq]
  generalize (lg_sl ([.ref (B + (0)), .int (a), .int (i), .int (nh)]) ++ List.replicate (6 - (lg_sl ([.ref (B + (0)), .int (a), .int (i), .int (nh)])).length) Slot.unset).toArray = ls at hl ⊢
  have hl : lv_has ls 6 [(0, .ref (B + (0))), (1, .int (a)), (2, .int (i)), (3, .int (nh))] := hl
  generalize ([.ref (B + (0)), .int (a), .int (i), .int (nh)] : List Value).toArray = aa at hts ⊢
  show W pp l ee rmX8_hours ss mm aa bb mt cd ss.heap [] 0 0 _ (F0 mm 0 ls [])
  generalize hQ : MQ bb (va_Qi (fun r u => PT_X8_hours x a i nh n r u) (XB G (wM G B)) (blkA B (B + 13))) aa ss 0 0 (blkA B (B + 13)) = Q
  refine lv_aload_n hx hb dX8_hours_0 rfl (lv_at hl 0 rfl) ?_
  refine x_ip (w := (wM G B)) (x := x) (v := bI (decide (x 5 0 = 0))) (va_runV (As := []) (rest := []) ⟨hx, hb, hml, hown, hts⟩ (c_X8_isNoRidge (l := l) (G := G) (B := B) (hW := hW) (x := x) ) (cwV 0 hts gX8_hours_X8_isNoRidge rfl rfl rfl (by decide +kernel) ⟨Nat.le_of_ble_eq_true rfl, Nat.le_of_ble_eq_true rfl⟩) (x_pv (w := (wM G B)) (a := 0) hW hX hK hE hS [] (Nat.le_of_ble_eq_true rfl) (shM_0 (G := G) (B := B)) rfl) rfl rfl hl.1 rfl (lv_room (Nat.le_of_ble_eq_true rfl)) dX8_hours_1 ⟨Nat.zero_le _, Nat.zero_le _⟩) hS (fun H_1 lo_2 hX hS => ?_)
  refine x_ifeq (tgt := 10) hx hb dX8_hours_4 (by decide) (fun c_3 => ?_) (fun c_3 => ?_)
  · refine lv_iload_n hx hb dX8_hours_10 rfl (lv_at hl 1 rfl) ?_
    refine x_ip (w := (wM G B)) (x := x) (v := bI (decide (0 ≤ a) && decide (a ≤ 7))) (va_runS (As := [.int (a)]) (rest := []) ⟨hx, hb, hml, hown, hts⟩ (c_X8_isRow (l := l) (G := G) (B := B) (hW := hW) (x := x) (v := a)) (va_cwS 1 hts gX8_hours_X8_isRow rfl rfl rfl (by decide +kernel) ⟨Nat.le_of_ble_eq_true rfl, Nat.le_of_ble_eq_true rfl⟩) (x_ps (w := (wM G B)) hW hX hK hE hS [.int (a)]) rfl rfl hl.1 rfl (lv_room (Nat.le_of_ble_eq_true rfl)) dX8_hours_11 ⟨Nat.zero_le _, Nat.zero_le _⟩) hS (fun H_4 lo_5 hX hS => ?_)
    refine x_ifeq (tgt := 29) hx hb dX8_hours_14 (by decide) (fun c_6 => ?_) (fun c_6 => ?_)
    · refine lv_ldc (v := (-1000001)) hx hb hown (hts _ kX8_hours_63) dX8_hours_29 ?_
      rw [← hQ]
      refine x_iret (v := (-1000001)) hx hb hr hX hS hlocks dX8_hours_31 ?_
      show PT_X8_hours _ _ _ _ _ _ _
      unfold PT_X8_hours
      rw [if_pos c_3, if_pos c_6]
      exact ⟨rfl, rfl⟩
    · obtain ⟨hae, ha8⟩ := rowN c_6
      refine lv_iload_n hx hb dX8_hours_17 rfl (lv_at hl 3 rfl) ?_
      refine lv_i2l (v := (nh : Int32).toInt64) hx hb dX8_hours_18 rfl ?_
      refine lv_lconst (v := 1) hx hb dX8_hours_19 (by decide) ?_
      refine lv_ldc2 (v := 24) hx hb hown (hts _ kX8_hours_228) dX8_hours_20 ?_
      refine x_ip (w := (wM G B)) (x := x) (v := bI (decide (((1 : Int32)) ≤ ((nh : Int32))) && decide (((nh : Int32)) ≤ ((24 : Int32))))) (va_runS (As := [.long ((nh : Int32).toInt64), .long (1), .long (24)]) (rest := []) ⟨hx, hb, hml, hown, hts⟩ (c_X8_in (l := l) (G := G) (B := B) (hW := hW) (x := x) (va := (nh : Int32).toInt64) (vb := 1) (vc := 24) (v1 := (nh : Int32)) (lo1 := (1 : Int32)) (hi1 := (24 : Int32)) (hv := (by first | rfl | decide)) (hlo := (by first | rfl | decide)) (hhi := (by first | rfl | decide))) (va_cwS 3 hts gX8_hours_X8_in rfl rfl rfl (by decide +kernel) ⟨Nat.le_of_ble_eq_true rfl, Nat.le_of_ble_eq_true rfl⟩) (x_ps (w := (wM G B)) hW hX hK hE hS [.long ((nh : Int32).toInt64), .long (1), .long (24)]) rfl rfl hl.1 rfl (lv_room (Nat.le_of_ble_eq_true rfl)) dX8_hours_23 ⟨Nat.zero_le _, Nat.zero_le _⟩) hS (fun H_7 lo_8 hX hS => ?_)
      refine x_ifne (tgt := 32) hx hb dX8_hours_26 (by decide) (fun c_9 => ?_) (fun c_9 => ?_)
      · obtain ⟨hne, hn1, hn24⟩ := within1 (k := 24) rfl (by decide) c_9
        refine lv_aload_n hx hb dX8_hours_32 rfl (lv_at hl 0 rfl) ?_
        refine lv_iload_n hx hb dX8_hours_33 rfl (lv_at hl 1 rfl) ?_
        refine W.eq (g2 := F0 mm 34 ls [.int (nI (tn a)), .ref (B + (0))]) (congrArg (fun z9 : Int32 => F0 mm 34 ls [.int (z9), .ref (B + (0))]) hae) ?_
        refine x_ip (w := (wM G B)) (x := x) (v := bI (decide (x 1 (tn a) < 0))) (va_runV (As := [.int (nI (tn a))]) (rest := []) ⟨hx, hb, hml, hown, hts⟩ (c_X8_isMissing (l := l) (G := G) (B := B) (hW := hW) (x := x) (i := tn a) (hi := (by omega))) (cwV 1 hts gX8_hours_X8_isMissing rfl rfl rfl (by decide +kernel) ⟨Nat.le_of_ble_eq_true rfl, Nat.le_of_ble_eq_true rfl⟩) (x_pv (w := (wM G B)) (a := 0) hW hX hK hE hS [.int (nI (tn a))] (Nat.le_of_ble_eq_true rfl) (shM_0 (G := G) (B := B)) rfl) rfl rfl hl.1 rfl (lv_room (Nat.le_of_ble_eq_true rfl)) dX8_hours_34 ⟨Nat.zero_le _, Nat.zero_le _⟩) hS (fun H_10 lo_11 hX hS => ?_)
        refine x_ifeq (tgt := 47) hx hb dX8_hours_37 (by decide) (fun c_12 => ?_) (fun c_12 => ?_)
        · obtain ⟨sz, hsz40, hsz⟩ := hY.get ha8 c_12
          refine lv_iload_n hx hb dX8_hours_47 rfl (lv_at hl 2 rfl) ?_
          refine lv_iload_n hx hb dX8_hours_48 rfl (lv_at hl 3 rfl) ?_
          refine lv_aload_n hx hb dX8_hours_49 rfl (lv_at hl 0 rfl) ?_
          refine x_get (w := (wM G B)) (a := 0) (v := .ref (B + (2))) hx hb hts iX8_hours_X8 hown hK hX (Nat.le_of_ble_eq_true rfl) (shM_0 (G := G) (B := B)) rfl 1 (by decide) (hts _ kX8_hours_13) (fun _ h9 => h9) rfl dX8_hours_50 ?_
          refine lv_iload_n hx hb dX8_hours_53 rfl (lv_at hl 1 rfl) ?_
          refine x_iald (w := (wM G B)) (a := 2) (n := 8) (j := tn a) hx hb hK hX (Nat.le_of_ble_eq_true rfl) (shM_a (G := G) (B := B) (a := 2) (f := x (2)) (by decide)) hae (by omega) (by decide) dX8_hours_54 ?_
          refine x_ip (w := (wM G B)) (x := x) (v := bI (decide (0 ≤ i) && (decide (0 ≤ nh) && decide (nh ≤ (x (2) (tn a)) - i)))) (va_runS (As := [.int (i), .int (nh), .int (x (2) (tn a))]) (rest := []) ⟨hx, hb, hml, hown, hts⟩ (c_X8_isWithin (l := l) (G := G) (B := B) (hW := hW) (x := x) (i := i) (k := nh) (z1 := x (2) (tn a)) (sz := sz) (hsz := hsz) (hsz40 := hsz40)) (va_cwS 3 hts gX8_hours_X8_isWithin rfl rfl rfl (by decide +kernel) ⟨Nat.le_of_ble_eq_true rfl, Nat.le_of_ble_eq_true rfl⟩) (x_ps (w := (wM G B)) hW hX hK hE hS [.int (i), .int (nh), .int (x (2) (tn a))]) rfl rfl hl.1 rfl (lv_room (Nat.le_of_ble_eq_true rfl)) dX8_hours_55 ⟨Nat.zero_le _, Nat.zero_le _⟩) hS (fun H_13 lo_14 hX hS => ?_)
          refine x_ifne (tgt := 68) hx hb dX8_hours_58 (by decide) (fun c_15 => ?_) (fun c_15 => ?_)
          · obtain ⟨hie, hke, hik⟩ := wiN hsz hsz40 c_15
            refine lv_iload_n hx hb dX8_hours_68 rfl (lv_at hl 2 rfl) ?_
            refine W.eq (g2 := F0 mm 69 ls [.int (nI (tn i))]) (congrArg (fun z9 : Int32 => F0 mm 69 ls [.int (z9)]) hie) ?_
            refine lv_istore (lv' := [(4, .int (nI (tn i))), (0, .ref (B + (0))), (1, .int (a)), (2, .int (i)), (3, .int (nh))]) hx hb dX8_hours_69 hl (by decide) rfl (fun ls hl => ?_)
            have L_16 : ∀ (n9 : Nat) (k : Nat)  (_ : n9 = tn i + tn nh - k) (_ : tn i ≤ k ∧ k ≤ tn i + tn nh ∧ ∀ j, tn i ≤ j → j < k → isWnd ((fun j9 => x 3 (40 * tn a + j9)) j) = true) (H_17 : Heap) (lo_18 : List Loc) (_ : MR G (wM G B) x H_17) (_ : va_S (blkA B (B + 13)) ss.heap H_17 lo_18) (ls : Array Slot) (_ : lv_has ls 6 [(4, .int (nI k)), (0, .ref (B + (0))), (1, .int (a)), (2, .int (i)), (3, .int (nh))]), W pp l ee rmX8_hours ss mm aa bb mt cd H_17 lo_18 0 0 Q (F0 mm 71 ls []) := by
              intro n9
              induction n9 using Nat.strongRecOn with
              | _ n9 ih => 
                have ih_71 := ih
                intro k hn9 hI H_17 lo_18 hX hS ls hl
                obtain ⟨hk1, hk2, hkp⟩ := hI
                refine lv_iload hx hb dX8_hours_71 (lv_at hl 0 rfl) ?_
                refine lv_iload_n hx hb dX8_hours_73 rfl (lv_at hl 3 rfl) ?_
                refine lv_iload_n hx hb dX8_hours_74 rfl (lv_at hl 4 rfl) ?_
                refine lv_iadd hx hb dX8_hours_75 ?_
                refine lv_icmp_ge (tgt := 125) hx hb dX8_hours_76 (by decide) (fun c_19 => ?_) (fun c_19 => ?_)
                · have nc_19 := (n_le (a := tn i + (tn nh)) (b := k) (n_add hie hne) rfl (by omega) (by omega)).mp c_19
                  have hyes := hrsB_yes (it := (fun j9 => x 3 (40 * tn a + j9))) hkp (show k = tn i + tn nh by omega)
                  refine lv_iconst (v := 0) hx hb dX8_hours_125 (by decide) ?_
                  refine lv_istore (lv' := [(4, .int (0)), (0, .ref (B + (0))), (1, .int (a)), (2, .int (i)), (3, .int (nh))]) hx hb dX8_hours_126 hl (by decide) rfl (fun ls hl => ?_)
                  refine lv_iload_n hx hb dX8_hours_128 rfl (lv_at hl 3 rfl) ?_
                  refine W.eq (g2 := F0 mm 129 ls [.int (nI (tn i))]) (congrArg (fun z9 : Int32 => F0 mm 129 ls [.int (z9)]) hie) ?_
                  refine lv_istore (lv' := [(5, .int (nI (tn i))), (4, .int (0)), (0, .ref (B + (0))), (1, .int (a)), (2, .int (i)), (3, .int (nh))]) hx hb dX8_hours_129 hl (by decide) rfl (fun ls hl => ?_)
                  have L_20 : ∀ (n9 : Nat) (k : Nat) (sm : Int32)  (u : Mem) (_ : n9 = tn i + tn nh - k) (_ : tn i ≤ k ∧ k ≤ tn i + tn nh ∧ sm = hrsS (x 5) n (fun j9 => x 3 (40 * tn a + j9)) (tn i) (k - tn i) ∧ u 5 = hrsNw (x 5) n (fun j9 => x 3 (40 * tn a + j9)) (tn i) (k - tn i) ∧ ∀ a9, a9 ≠ 5 → a9 ≠ 11 → a9 ≠ 12 → u a9 = x a9) (H_21 : Heap) (lo_22 : List Loc) (_ : MR G (wM G B) u H_21) (_ : va_S (blkA B (B + 13)) ss.heap H_21 lo_22) (ls : Array Slot) (_ : lv_has ls 6 [(5, .int (nI k)), (4, .int (sm)), (0, .ref (B + (0))), (1, .int (a)), (2, .int (i)), (3, .int (nh))]), W pp l ee rmX8_hours ss mm aa bb mt cd H_21 lo_22 0 0 Q (F0 mm 131 ls []) := by
                    intro n9
                    induction n9 using Nat.strongRecOn with
                    | _ n9 ih => 
                      have ih_131 := ih
                      intro k sm u hn9 hI H_21 lo_22 hX hS ls hl
                      obtain ⟨hk1, hk2, hsm, h5, ho⟩ := hI
                      refine lv_iload hx hb dX8_hours_131 (lv_at hl 0 rfl) ?_
                      refine lv_iload_n hx hb dX8_hours_133 rfl (lv_at hl 4 rfl) ?_
                      refine lv_iload_n hx hb dX8_hours_134 rfl (lv_at hl 5 rfl) ?_
                      refine lv_iadd hx hb dX8_hours_135 ?_
                      refine lv_icmp_ge (tgt := 186) hx hb dX8_hours_136 (by decide) (fun c_23 => ?_) (fun c_23 => ?_)
                      · have nc_23 := (n_le (a := tn i + (tn nh)) (b := k) (n_add hie hne) rfl (by omega) (by omega)).mp c_23
                        have e9 : k - tn i = tn nh := by omega
                        rw [e9] at hsm h5
                        refine lv_aload_n hx hb dX8_hours_186 rfl (lv_at hl 2 rfl) ?_
                        refine lv_iconst (v := 0) hx hb dX8_hours_187 (by decide) ?_
                        refine lv_iload hx hb dX8_hours_188 (lv_at hl 1 rfl) ?_
                        refine x_if (w := (wM G B)) (va_runV (As := [.int (0), .int (sm)]) (rest := []) ⟨hx, hb, hml, hown, hts⟩ (c_X8_found (l := l) (G := G) (B := B) (hW := hW) (x := u) (nu := 0) (to := sm)) (cwV 2 hts gX8_hours_X8_found rfl rfl rfl (by decide +kernel) ⟨Nat.le_of_ble_eq_true rfl, Nat.le_of_ble_eq_true rfl⟩) (x_pv (w := (wM G B)) (a := 0) hW hX hK hE hS [.int (0), .int (sm)] (Nat.le_of_ble_eq_true rfl) (shM_0 (G := G) (B := B)) rfl) rfl rfl hl.1 rfl (lv_room (Nat.le_of_ble_eq_true rfl)) dX8_hours_190 ⟨Nat.zero_le _, Nat.zero_le _⟩) hS (fun r_26 x_27 H_24 lo_25 h_190 hX hS => ?_)
                        try dsimp only at h_190
                        rw [← hQ]
                        refine x_iret (v := r_26) hx hb hr hX hS hlocks dX8_hours_193 ?_
                        show PT_X8_hours _ _ _ _ _ _ _
                        unfold PT_X8_hours
                        rw [if_pos c_3, if_neg (ne_of_true c_6), if_pos c_9, if_pos c_12, if_pos c_15, if_pos hyes]
                        exact ⟨(h_190.1 rfl).trans hsm, _, ⟨h5, ho⟩, h_190.2.2⟩
                      · have nc_23 := Nat.not_le.mp (fun q => c_23 ((n_le (a := tn i + (tn nh)) (b := k) (n_add hie hne) rfl (by omega) (by omega)).mpr q))
                        obtain ⟨hqe, hq4⟩ := hrsB_at (k := k) hyes (by omega) (by omega)
                        have hu3 : u 3 = x 3 := ho 3 (by decide) (by decide) (by decide)
                        have hpos := wnd_pos (hrsB_in (k := k) hyes (by omega) (by omega))
                        have hNu : u 5 0 = nI n := by rw [h5, hrsNw_0]; exact hN
                        refine lv_iload hx hb dX8_hours_139 (lv_at hl 1 rfl) ?_
                        refine lv_aload_n hx hb dX8_hours_141 rfl (lv_at hl 2 rfl) ?_
                        refine lv_aload_n hx hb dX8_hours_142 rfl (lv_at hl 2 rfl) ?_
                        refine x_get (w := (wM G B)) (a := 0) (v := .ref (B + (3))) hx hb hts iX8_hours_X8 hown hK hX (Nat.le_of_ble_eq_true rfl) (shM_0 (G := G) (B := B)) rfl 2 (by decide) (hts _ kX8_hours_16) (fun _ h9 => h9) rfl dX8_hours_143 ?_
                        refine lv_bipush (v := 40) hx hb dX8_hours_146 (by decide) ?_
                        refine lv_iload_n hx hb dX8_hours_148 rfl (lv_at hl 3 rfl) ?_
                        refine lv_imul hx hb dX8_hours_149 ?_
                        refine lv_iload hx hb dX8_hours_150 (lv_at hl 0 rfl) ?_
                        refine lv_iadd hx hb dX8_hours_152 ?_
                        refine x_iald (w := (wM G B)) (a := 3) (n := 320) (j := 40 * (tn a) + k) hx hb hK hX (Nat.le_of_ble_eq_true rfl) (shM_a (G := G) (B := B) (a := 3) (f := u (3)) (by decide)) (n_add (n_mul rfl hae) rfl) (by omega) (by decide) dX8_hours_153 ?_
                        refine lv_sipush (v := 1000) hx hb dX8_hours_154 (by decide) ?_
                        refine lv_idiv hx hb dX8_hours_157 (by decide) ?_
                        refine W.eq (g2 := F0 mm 158 ls [.int (nI (tn (qOf ((fun j9 => x 3 (40 * tn a + j9)) k)))), .ref (B + (0)), .int (sm)]) (congrArg (fun z9 : Int32 => F0 mm 158 ls [.int (z9), .ref (B + (0)), .int (sm)]) (show u 3 (40 * tn a + k) / 1000 = nI (tn (qOf ((fun j9 => x 3 (40 * tn a + j9)) k))) by rw [hu3, ← wnd_q hpos]; exact hqe)) ?_
                        refine lv_aload_n hx hb dX8_hours_158 rfl (lv_at hl 2 rfl) ?_
                        refine x_get (w := (wM G B)) (a := 0) (v := .ref (B + (3))) hx hb hts iX8_hours_X8 hown hK hX (Nat.le_of_ble_eq_true rfl) (shM_0 (G := G) (B := B)) rfl 2 (by decide) (hts _ kX8_hours_16) (fun _ h9 => h9) rfl dX8_hours_159 ?_
                        refine lv_bipush (v := 40) hx hb dX8_hours_162 (by decide) ?_
                        refine lv_iload_n hx hb dX8_hours_164 rfl (lv_at hl 3 rfl) ?_
                        refine lv_imul hx hb dX8_hours_165 ?_
                        refine lv_iload hx hb dX8_hours_166 (lv_at hl 0 rfl) ?_
                        refine lv_iadd hx hb dX8_hours_168 ?_
                        refine x_iald (w := (wM G B)) (a := 3) (n := 320) (j := 40 * (tn a) + k) hx hb hK hX (Nat.le_of_ble_eq_true rfl) (shM_a (G := G) (B := B) (a := 3) (f := u (3)) (by decide)) (n_add (n_mul rfl hae) rfl) (by omega) (by decide) dX8_hours_169 ?_
                        refine lv_sipush (v := 1000) hx hb dX8_hours_170 (by decide) ?_
                        refine lv_irem hx hb dX8_hours_173 (by decide) ?_
                        refine x_if (w := (wM G B)) (va_runV (As := [.int (nI (tn (qOf ((fun j9 => x 3 (40 * tn a + j9)) k)))), .int ((u (3) (40 * (tn a) + k)) - (u (3) (40 * (tn a) + k)) / 1000 * 1000)]) (rest := [.int (sm)]) ⟨hx, hb, hml, hown, hts⟩ (c_X8_goHour (l := l) (G := G) (B := B) (hW := hW) (x := u) (q := tn (qOf ((fun j9 => x 3 (40 * tn a + j9)) k))) (w := (u (3) (40 * (tn a) + k)) - (u (3) (40 * (tn a) + k)) / 1000 * 1000) (n := n) (hN := hNu) (hn8 := hn8) (hq := (by omega))) (cwV 2 hts gX8_hours_X8_goHour rfl rfl rfl (by decide +kernel) ⟨Nat.le_of_ble_eq_true rfl, Nat.le_of_ble_eq_true rfl⟩) (x_pv (w := (wM G B)) (a := 0) hW hX hK hE hS [.int (nI (tn (qOf ((fun j9 => x 3 (40 * tn a + j9)) k)))), .int ((u (3) (40 * (tn a) + k)) - (u (3) (40 * (tn a) + k)) / 1000 * 1000)] (Nat.le_of_ble_eq_true rfl) (shM_0 (G := G) (B := B)) rfl) rfl rfl hl.1 rfl (lv_room (Nat.le_of_ble_eq_true rfl)) dX8_hours_174 ⟨Nat.zero_le _, Nat.zero_le _⟩) hS (fun r_30 x_31 H_28 lo_29 h_174 hX hS => ?_)
                        try dsimp only at h_174
                        rw [hu3, h5] at h_174
                        refine lv_iadd hx hb dX8_hours_177 ?_
                        refine lv_istore (lv' := [(4, .int (sm + r_30)), (5, .int (nI k)), (0, .ref (B + (0))), (1, .int (a)), (2, .int (i)), (3, .int (nh))]) hx hb dX8_hours_178 hl (by decide) rfl (fun ls hl => ?_)
                        refine lv_iinc (v := nI (k + 1)) (lv' := [(5, .int (nI (k + 1))), (4, .int (sm + r_30)), (0, .ref (B + (0))), (1, .int (a)), (2, .int (i)), (3, .int (nh))]) hx hb dX8_hours_180 hl (k := 1) rfl (inc_nI _) (by decide) rfl (fun ls hl => ?_)
                        refine lv_goto (tgt := 131) hx hb dX8_hours_183 (by decide) ?_
                        have hd : k + 1 - tn i = (k - tn i) + 1 := by omega
                        have hd2 : tn i + (k - tn i) = k := by omega
                        exact ih_131 _ (by omega) (k + 1) (sm + r_30) (x_31) rfl ⟨by omega, by omega, by rw [hd, hrsS, hd2, hsm, h_174.1]; rfl, by rw [hd, hrsNw, hd2]; exact h_174.2.1, fun a9 a1 a2 a3 => (h_174.2.2 a9 a1 a2 a3).trans (ho a9 a1 a2 a3)⟩ _ _ hX hS ls (lv_sub hl [0, 1, 2, 3, 4, 5] rfl)
                  exact L_20 _ (tn i) (0) (x) rfl ⟨Nat.le_refl _, by omega, by rw [Nat.sub_self]; rfl, by rw [Nat.sub_self]; rfl, fun a9 _ _ _ => rfl⟩ _ _ hX hS ls (lv_sub hl [0, 1, 2, 3, 4, 5] rfl)
                · have nc_19 := Nat.not_le.mp (fun q => c_19 ((n_le (a := tn i + (tn nh)) (b := k) (n_add hie hne) rfl (by omega) (by omega)).mpr q))
                  refine lv_aload_n hx hb dX8_hours_79 rfl (lv_at hl 1 rfl) ?_
                  refine x_get (w := (wM G B)) (a := 0) (v := .ref (B + (3))) hx hb hts iX8_hours_X8 hown hK hX (Nat.le_of_ble_eq_true rfl) (shM_0 (G := G) (B := B)) rfl 2 (by decide) (hts _ kX8_hours_16) (fun _ h9 => h9) rfl dX8_hours_80 ?_
                  refine lv_bipush (v := 40) hx hb dX8_hours_83 (by decide) ?_
                  refine lv_iload_n hx hb dX8_hours_85 rfl (lv_at hl 2 rfl) ?_
                  refine lv_imul hx hb dX8_hours_86 ?_
                  refine lv_iload hx hb dX8_hours_87 (lv_at hl 0 rfl) ?_
                  refine lv_iadd hx hb dX8_hours_89 ?_
                  refine x_iald (w := (wM G B)) (a := 3) (n := 320) (j := 40 * (tn a) + k) hx hb hK hX (Nat.le_of_ble_eq_true rfl) (shM_a (G := G) (B := B) (a := 3) (f := x (3)) (by decide)) (n_add (n_mul rfl hae) rfl) (by omega) (by decide) dX8_hours_90 ?_
                  refine lv_istore (lv' := [(5, .int (x (3) (40 * (tn a) + k))), (4, .int (nI k)), (0, .ref (B + (0))), (1, .int (a)), (2, .int (i)), (3, .int (nh))]) hx hb dX8_hours_91 hl (by decide) rfl (fun ls hl => ?_)
                  refine lv_iload hx hb dX8_hours_93 (lv_at hl 0 rfl) ?_
                  refine lv_if_lt (tgt := 116) hx hb dX8_hours_95 (by decide) (fun c_32 => ?_) (fun c_32 => ?_)
                  · refine lv_ldc (v := (-1000001)) hx hb hown (hts _ kX8_hours_63) dX8_hours_116 ?_
                    rw [← hQ]
                    refine x_iret (v := (-1000001)) hx hb hr hX hS hlocks dX8_hours_118 ?_
                    show PT_X8_hours _ _ _ _ _ _ _
                    unfold PT_X8_hours
                    rw [if_pos c_3, if_neg (ne_of_true c_6), if_pos c_9, if_pos c_12, if_pos c_15, if_neg (hrsB_no (it := (fun j9 => x 3 (40 * tn a + j9))) (k := k) (wnd_no c_32) (by omega) (by omega))]
                    exact ⟨rfl, rfl⟩
                  · refine lv_iload hx hb dX8_hours_98 (lv_at hl 0 rfl) ?_
                    refine lv_sipush (v := 1000) hx hb dX8_hours_100 (by decide) ?_
                    refine lv_idiv hx hb dX8_hours_103 (by decide) ?_
                    refine lv_iload hx hb dX8_hours_104 (lv_at hl 0 rfl) ?_
                    refine lv_sipush (v := 1000) hx hb dX8_hours_106 (by decide) ?_
                    refine lv_irem hx hb dX8_hours_109 (by decide) ?_
                    refine x_ip (w := (wM G B)) (x := x) (v := bI ((decide (0 ≤ ((x (3) (40 * (tn a) + k)) / 1000)) && decide (((x (3) (40 * (tn a) + k)) / 1000) ≤ 3)) && (decide (0 ≤ ((x (3) (40 * (tn a) + k)) - (x (3) (40 * (tn a) + k)) / 1000 * 1000)) && decide (((x (3) (40 * (tn a) + k)) - (x (3) (40 * (tn a) + k)) / 1000 * 1000) ≤ 100)))) (va_runS (As := [.int ((x (3) (40 * (tn a) + k)) / 1000), .int ((x (3) (40 * (tn a) + k)) - (x (3) (40 * (tn a) + k)) / 1000 * 1000)]) (rest := []) ⟨hx, hb, hml, hown, hts⟩ (c_X8_isWind (l := l) (G := G) (B := B) (hW := hW) (x := x) (q := (x (3) (40 * (tn a) + k)) / 1000) (v := (x (3) (40 * (tn a) + k)) - (x (3) (40 * (tn a) + k)) / 1000 * 1000)) (va_cwS 2 hts gX8_hours_X8_isWind rfl rfl rfl (by decide +kernel) ⟨Nat.le_of_ble_eq_true rfl, Nat.le_of_ble_eq_true rfl⟩) (x_ps (w := (wM G B)) hW hX hK hE hS [.int ((x (3) (40 * (tn a) + k)) / 1000), .int ((x (3) (40 * (tn a) + k)) - (x (3) (40 * (tn a) + k)) / 1000 * 1000)]) rfl rfl hl.1 rfl (lv_room (Nat.le_of_ble_eq_true rfl)) dX8_hours_110 ⟨Nat.zero_le _, Nat.zero_le _⟩) hS (fun H_33 lo_34 hX hS => ?_)
                    refine x_ifne (tgt := 119) hx hb dX8_hours_113 (by decide) (fun c_35 => ?_) (fun c_35 => ?_)
                    · refine lv_iinc (v := nI (k + 1)) (lv' := [(4, .int (nI (k + 1))), (5, .int (x (3) (40 * (tn a) + k))), (0, .ref (B + (0))), (1, .int (a)), (2, .int (i)), (3, .int (nh))]) hx hb dX8_hours_119 hl (k := 1) rfl (inc_nI _) (by decide) rfl (fun ls hl => ?_)
                      refine lv_goto (tgt := 71) hx hb dX8_hours_122 (by decide) ?_
                      exact ih_71 _ (by omega) (k + 1) rfl ⟨by omega, by omega, fun j h1 h2 => by
          by_cases hjk : j = k
          · rw [hjk]; exact (wnd_eq c_32).trans c_35
          · exact hkp j h1 (by omega)⟩ _ _ hX hS ls (lv_sub hl [0, 2, 3, 4, 5] rfl)
                    · refine lv_ldc (v := (-1000001)) hx hb hown (hts _ kX8_hours_63) dX8_hours_116 ?_
                      rw [← hQ]
                      refine x_iret (v := (-1000001)) hx hb hr hX hS hlocks dX8_hours_118 ?_
                      show PT_X8_hours _ _ _ _ _ _ _
                      unfold PT_X8_hours
                      rw [if_pos c_3, if_neg (ne_of_true c_6), if_pos c_9, if_pos c_12, if_pos c_15, if_neg (hrsB_no (it := (fun j9 => x 3 (40 * tn a + j9))) (k := k) ((wnd_eq c_32).trans c_35) (by omega) (by omega))]
                      exact ⟨rfl, rfl⟩
            exact L_16 _ (tn i) rfl ⟨Nat.le_refl _, by omega, fun j h1 h2 => absurd h1 (by omega)⟩ _ _ hX hS ls (lv_sub hl [0, 1, 2, 3, 4] rfl)
          · refine lv_aload_n hx hb dX8_hours_61 rfl (lv_at hl 0 rfl) ?_
            refine lv_iconst (v := 2) hx hb dX8_hours_62 (by decide) ?_
            refine lv_iconst (v := 0) hx hb dX8_hours_63 (by decide) ?_
            refine x_if (w := (wM G B)) (va_runV (As := [.int (2), .int (0)]) (rest := []) ⟨hx, hb, hml, hown, hts⟩ (c_X8_found (l := l) (G := G) (B := B) (hW := hW) (x := x) (nu := 2) (to := 0)) (cwV 2 hts gX8_hours_X8_found rfl rfl rfl (by decide +kernel) ⟨Nat.le_of_ble_eq_true rfl, Nat.le_of_ble_eq_true rfl⟩) (x_pv (w := (wM G B)) (a := 0) hW hX hK hE hS [.int (2), .int (0)] (Nat.le_of_ble_eq_true rfl) (shM_0 (G := G) (B := B)) rfl) rfl rfl hl.1 rfl (lv_room (Nat.le_of_ble_eq_true rfl)) dX8_hours_64 ⟨Nat.zero_le _, Nat.zero_le _⟩) hS (fun r_38 x_39 H_36 lo_37 h_64 hX hS => ?_)
            try dsimp only at h_64
            rw [← hQ]
            refine x_iret (v := r_38) hx hb hr hX hS hlocks dX8_hours_67 ?_
            show PT_X8_hours _ _ _ _ _ _ _
            unfold PT_X8_hours
            rw [if_pos c_3, if_neg (ne_of_true c_6), if_pos c_9, if_pos c_12, if_neg (ne_of_false c_15)]
            exact ⟨h_64.2.1 (by decide), h_64.2.2⟩
        · refine lv_aload_n hx hb dX8_hours_40 rfl (lv_at hl 0 rfl) ?_
          refine lv_iconst (v := 1) hx hb dX8_hours_41 (by decide) ?_
          refine lv_iconst (v := 0) hx hb dX8_hours_42 (by decide) ?_
          refine x_if (w := (wM G B)) (va_runV (As := [.int (1), .int (0)]) (rest := []) ⟨hx, hb, hml, hown, hts⟩ (c_X8_found (l := l) (G := G) (B := B) (hW := hW) (x := x) (nu := 1) (to := 0)) (cwV 2 hts gX8_hours_X8_found rfl rfl rfl (by decide +kernel) ⟨Nat.le_of_ble_eq_true rfl, Nat.le_of_ble_eq_true rfl⟩) (x_pv (w := (wM G B)) (a := 0) hW hX hK hE hS [.int (1), .int (0)] (Nat.le_of_ble_eq_true rfl) (shM_0 (G := G) (B := B)) rfl) rfl rfl hl.1 rfl (lv_room (Nat.le_of_ble_eq_true rfl)) dX8_hours_43 ⟨Nat.zero_le _, Nat.zero_le _⟩) hS (fun r_42 x_43 H_40 lo_41 h_43 hX hS => ?_)
          try dsimp only at h_43
          rw [← hQ]
          refine x_iret (v := r_42) hx hb hr hX hS hlocks dX8_hours_46 ?_
          show PT_X8_hours _ _ _ _ _ _ _
          unfold PT_X8_hours
          rw [if_pos c_3, if_neg (ne_of_true c_6), if_pos c_9, if_neg (ne_of_true c_12)]
          exact ⟨h_43.2.1 (by decide), h_43.2.2⟩
      · refine lv_ldc (v := (-1000001)) hx hb hown (hts _ kX8_hours_63) dX8_hours_29 ?_
        rw [← hQ]
        refine x_iret (v := (-1000001)) hx hb hr hX hS hlocks dX8_hours_31 ?_
        show PT_X8_hours _ _ _ _ _ _ _
        unfold PT_X8_hours
        rw [if_pos c_3, if_neg (ne_of_true c_6), if_neg (ne_of_false c_9)]
        exact ⟨rfl, rfl⟩
  · refine lv_ldc (v := (-1000002)) hx hb hown (hts _ kX8_hours_185) dX8_hours_7 ?_
    rw [← hQ]
    refine x_iret (v := (-1000002)) hx hb hr hX hS hlocks dX8_hours_9 ?_
    show PT_X8_hours _ _ _ _ _ _ _
    unfold PT_X8_hours
    rw [if_neg (ne_of_true c_3)]
    exact ⟨rfl, rfl⟩
