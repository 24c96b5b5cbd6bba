section STRX
variable {p : Program} {l : Launch} {e : Env} {R : Room} {s : State} {m : MethodId} {args : Array Value} {below : List Frame} {meth : Method} {c : Code} {H : Heap} {locs : List Loc} {cells slots : Nat} {Q : State → Prop}
variable {cc : ByteArray} {pc : Nat} {ls : Array Slot} {rest : List Value}
theorem x_tldB (hexec : p.tables.exec = Jvm.exec) (hb : c.code = cc) {A : Nat → Prop} {t N : Nat} {f : Nat → Int32} (hS : va_S A s.heap H locs) (hT : va_T .byte t N (fun j => .int (f j)) A s s.heap) {i : Int32} {j : Nat} (hi : i = nI j) (hj : j < N) (hN : N < 2 ^ 31) (hdg : decode cc pc = .ok (.baload, 1))
    (kk : W p l e R s m args below meth c H locs cells slots Q (F0 m (pc + 1) ls (.int (f j) :: rest))) : W p l e R s m args below meth c H locs cells slots Q (F0 m pc ls (.int i :: .ref t :: rest)) := by
  subst hi
  have hc : (nI j).toNatClampNeg = j := nI_clamp (by omega)
  obtain ⟨cell, h1, h2, h3, h4, h5, h6, h7⟩ := hT.kept hS.2.1
  refine W.bald (v := .int (f j)) hexec hb h1 h2 h3 ?_ (by rw [hc]; exact h6 j hj) rfl rfl hdg kk
  intro q
  rcases q with q | q
  · exact nI_pos (show j < 2 ^ 31 by omega) q
  · rw [hc] at q; omega
theorem x_tlenB (hexec : p.tables.exec = Jvm.exec) (hb : c.code = cc) {A : Nat → Prop} {t N : Nat} {f : Nat → Value} (hS : va_S A s.heap H locs) (hT : va_T .byte t N f A s s.heap) (hdg : decode cc pc = .ok (.arraylength, 1))
    (kk : W p l e R s m args below meth c H locs cells slots Q (F0 m (pc + 1) ls (.int (nI N) :: rest))) : W p l e R s m args below meth c H locs cells slots Q (F0 m pc ls (.ref t :: rest)) := by
  obtain ⟨cell, h1, h2, h3, h4, h5, h6, h7⟩ := hT.kept hS.2.1
  exact W.alen (n := nI N) hexec hb h1 h2 h5 rfl rfl hdg kk
end STRX
theorem x_pvs {G : GG} {B : Nat} {tt : Nat → Nat} {x : Mem} {H : Heap} {s : State} {locs : List Loc} (hW : WOK (wX G B tt)) (hX : MR G (wX G B tt) x H) (hK : KN G s) (hE : EX B tt s s.heap) (hS : va_S (blkA B (B + 117)) s.heap H locs) (As : List Value) {q : Nat} (hq : q < 7) : PreV s H RJ0 (tt (100 + q)) (XP G (wX G B tt) (.ref (tt (100 + q)) :: As) x) As :=
  ⟨(x_pre hW hX hK hE hS (.ref (tt (100 + q)) :: As)).1, vk_recv (adK := fun i => tt (100 + i)) (adV := fun i => tt (200 + i)) (i := q) hE.2.2.2.1 hq hS, (x_pre hW hX hK hE hS (.ref (tt (100 + q)) :: As)).2⟩
abbrev chB (q j : Nat) : Int32 := (strByt.getD q []).getD j 0
abbrev slen (q : Nat) : Nat := strLen.getD q 0
theorem slen_le : ∀ q, q < 7 → slen q < 8 := by decide
theorem ch_eq : ∀ q, q < 7 → ∀ j, j < slen q → ((chB q j &&& 255).toUInt32 % 65536).toInt32 = chB q j := by decide +kernel
theorem ch_nar : ∀ q, q < 7 → ∀ j, j < slen q → narrow .char (.int (chB q j)) = .int (chB q j) := by decide +kernel
theorem len_shr : ∀ q, q < 7 → nI (slen q) >>> (bI false &&& 31) = nI (slen q) := by decide +kernel
theorem len_shr0 : ∀ q, q < 7 → nI (slen q) >>> ((0 : Int32) &&& 31) = nI (slen q) := by decide +kernel
