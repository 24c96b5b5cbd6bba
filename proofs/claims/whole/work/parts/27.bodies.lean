theorem Met.room {l : Launch} {y : MethodName} {ws : List Cond} {rm rm' : Room} {P : Array Value → State → Prop} {Q : Array Value → State → Outcome → State → Prop} {mc ms : Nat} {free : Addr → Prop} (h : Met l y ws rm P Q mc ms free)
    (h1 : rm.frames ≤ rm'.frames) (h2 : rm.locals ≤ rm'.locals) (h3 : rm.cells = rm'.cells) (h4 : rm.slots = rm'.slots) : Met l y ws rm' P Q mc ms free := by
  intro p e ha hc hk s m args below hfr hap hP hK
  have h9 := (Spec.appliesLoose_iff hfr).mp hap
  refine h p e ha hc hk s m args below hfr ((Spec.appliesLoose_iff hfr).mpr ⟨h9.1, h9.2.1, h9.2.2.1, h9.2.2.2.1, h9.2.2.2.2.1, h9.2.2.2.2.2.1, ?_, h9.2.2.2.2.2.2.2⟩) hP hK
  have h8 := h9.2.2.2.2.2.2.1
  simp only [State.hasRoom, headSpec, Bool.and_eq_true] at h8 ⊢
  obtain ⟨⟨⟨⟨a1, a2⟩, a3⟩, a4⟩, a5⟩ := h8
  have b1 := of_decide_eq_true a1
  obtain ⟨c1, c2, c3, c4, c5⟩ := of_decide_eq_true a2
  have b3 := of_decide_eq_true a3
  have b4 := of_decide_eq_true a4
  exact ⟨⟨⟨⟨decide_eq_true (by omega), decide_eq_true ⟨by omega, by omega, by omega, by omega, c5⟩⟩, decide_eq_true (by omega)⟩, decide_eq_true (by omega)⟩, a5⟩
abbrev rmX7_gives : Room := { frames := 7, cells := 0, slots := 0, locals := 210 }
theorem c_gives_any (l : Launch) (G : GG) (B : Nat) (tt : Nat → Nat) (hW : WOK (wX G B tt)) (x : Mem) (bd : Int32) {j : Nat} (hj : j < 8) {d : Nat} {k : Nat} {kk : Nat} {w0 : Int32} (hk : x 27 1 = nI k) (hk16 : k + 8 ≤ 16) (hd : d + 6 ≤ 16) (hkd : x (5 + 1 + 1 + j) 1 = nI kk) (hk1 : 1 ≤ kk) (hk6 : kk < 6) (hbd : bd = if w0 = 0 then sizeK kk else markK kk) :
    Met l yX7_gives wsX7_gives rmX7_gives (XP G (wX G B tt) [.int bd, .ref (B + (5 + 1 + 1 + j)), .ref (B + (27)), .int (nI d)] x) (va_Qi (fun r u => r = (if w0 = 0 then sizeV (x (5 + 1 + 1 + j)) kk else markV (x (5 + 1 + 1 + j)) kk) ∧ u = pushL x k (if w0 = 0 then sizeT kk else markT kk)) (XB G (wX G B tt)) (blkA B (B + 117))) 0 0 (blkA B (B + 117)) := by
  have le : ∀ {a b : Nat}, Nat.ble a b = true → a ≤ b := fun h => Nat.le_of_ble_eq_true h
  by_cases h0 : w0 = 0
  · rw [if_pos h0] at hbd
    simp only [if_pos h0]
    have hc : kk = 1 ∨ kk = 2 ∨ kk = 3 ∨ kk = 4 ∨ kk = 5 := by omega
    rcases hc with rfl | rfl | rfl | rfl | rfl <;> subst hbd
    · exact (c_X7_gives_11m21 l G B tt hW x hj hk (by omega) (by omega) hkd hk6 rfl).room (le rfl) (le rfl) rfl rfl
    · exact (c_X7_gives_11m22 l G B tt hW x hj hk (by omega) (by omega) hkd hk6 rfl).room (le rfl) (le rfl) rfl rfl
    · exact (c_X7_gives_12 l G B tt hW x hj hk (by omega) (by omega) hkd hk6 rfl).room (le rfl) (le rfl) rfl rfl
    · exact (c_X7_gives_13 l G B tt hW x hj hk (by omega) (by omega)).room (le rfl) (le rfl) rfl rfl
    · exact (c_X7_gives_14 l G B tt hW x hj hk (by omega) (by omega) hkd hk6 rfl).room (le rfl) (le rfl) rfl rfl
  · rw [if_neg h0] at hbd
    simp only [if_neg h0]
    have hc : kk = 1 ∨ kk = 2 ∨ kk = 3 ∨ kk = 4 ∨ kk = 5 := by omega
    rcases hc with rfl | rfl | rfl | rfl | rfl <;> subst hbd
    · exact (c_X7_gives_21 l G B tt hW x hj hk (by omega) (by omega)).room (le rfl) (le rfl) rfl rfl
    · exact (c_X7_gives_22 l G B tt hW x hj hk (by omega) (by omega)).room (le rfl) (le rfl) rfl rfl
    · exact (c_X7_gives_24 l G B tt hW x hj hk (by omega) (by omega)).room (le rfl) (le rfl) rfl rfl
    · exact (c_X7_gives_23 l G B tt hW x hj hk (by omega) (by omega) hkd hk6 rfl).room (le rfl) (le rfl) rfl rfl
    · exact (c_X7_gives_21 l G B tt hW x hj hk (by omega) (by omega)).room (le rfl) (le rfl) rfl rfl
