theorem isKf_eq {k b : Nat} (h : k = b) : ∀ {f : Nat}, isKf f k b = true
  | 0 => by simp [isKf, h]
  | f + 1 => by simp [isKf, h]
section XTL
variable {p : Program} {l : Launch} {e : Env} {R : Room} {s : State} {m : MethodId} {args : Array Value} {below : List Frame} {meth : Method} {c : Code} {H : Heap} {locs : List Loc} {cells slots : Nat} {Q : State → Prop}
variable {cc : ByteArray} {pc : Nat} {ls : Array Slot} {rest : List Value}
theorem x_tlen (hexec : p.tables.exec = Jvm.exec) (hb : c.code = cc) {A : Nat → Prop} {t N : Nat} {f : Nat → Value} (hS : va_S A s.heap H locs) (hT : va_T .int t N f A s s.heap) (hdg : decode cc pc = .ok (.arraylength, 1))
    (kk : W p l e R s m args below meth c H locs cells slots Q (F0 m (pc + 1) ls (.int (nI N) :: rest))) : W p l e R s m args below meth c H locs cells slots Q (F0 m pc ls (.ref t :: rest)) := by
  obtain ⟨cell, h1, h2, h3, h4, h5, h6, h7⟩ := hT.kept hS.2.1
  exact W.alen (n := nI N) hexec hb h1 h2 h5 rfl rfl hdg kk
end XTL
theorem kdN {x : Int32} (h : ∃ k, k < 6 ∧ x = nI k) : x = nI (tn x) ∧ tn x < 6 := by
  obtain ⟨k, hk, rfl⟩ := h
  rw [tn_nI (by omega)]
  exact ⟨rfl, hk⟩
