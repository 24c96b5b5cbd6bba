/-! the class's cells as they are to be -/
def TX (G : GG) (B b : Nat) : va_E := shX G B b (x0 b)
def TI (G : GG) (B n : Nat) (z : Nat → va_E) : Prop := ∀ b, b < n → b ≠ 0 → b ≠ 1 → b ≠ 25 → b ≠ 26 → z b = TX G B b
section TIS
variable {G : GG} {B n c : Nat} {z y : Nat → va_E}
theorem x0_z {a k : Nat} (h : ¬ (29 ≤ a ∧ a < 45 ∧ a % 2 = 1 ∧ k = 2)) : x0 a k = 0 := if_neg h
theorem x0_f {a : Nat} (h : ¬ (29 ≤ a ∧ a < 45 ∧ a % 2 = 1)) : x0 a = fun _ => 0 := funext fun k => if_neg (fun q => h ⟨q.1, q.2.1, q.2.2.1⟩)
theorem TI.set (h : TI G B n z) {a : Nat} {e : va_E} (ha : a = 0 ∨ a = 1 ∨ a = 25 ∨ a = 26) : TI G B n (zs z a e) := fun b b0 b1 b2 b3 b4 => (zs_ne (by omega)).trans (h b b0 b1 b2 b3 b4)
theorem TI.up (h : TI G B n z) (hn : n = 1 ∨ n = 25 ∨ n = 26) : TI G B (n + 1) z := fun b b0 b1 b2 b3 b4 => h b (by omega) b1 b2 b3 b4
theorem TI.ext (h : TI G B c z) {n' : Nat} (ho : ∀ b, b < c → y b = z b) (hn : ∀ b, c ≤ b → b < n' → b ≠ 25 → b ≠ 26 → y b = TX G B b) : TI G B n' y := fun b b0 b1 b2 b3 b4 => by
  by_cases e : b < c
  · exact (ho b e).trans (h b e b1 b2 b3 b4)
  · exact hn b (by omega) b0 b3 b4
theorem TX_ri {ρ : Nat} (h : isRg ρ) : TX G B ρ = .inr (3, [.ref (B + (ρ + 1)), .int 0, .int 0, .int 0, .int 0, .int 0]) := by
  unfold TX
  rw [shX_ri h, x0_f (by unfold isRg at h; omega)]
theorem TX_ma {ρ : Nat} (h : isRg ρ) : TX G B (ρ + 1) = .inl (G.2 2, 8, rfs (fun j => some (B + (ρ + 1 + 1 + j)))) := by
  unfold TX
  rw [shX_ma h]
theorem TX_mi {ρ j : Nat} (h : isRg ρ) (hj : j < 8) : TX G B (ρ + 1 + 1 + j) = .inr (0, [.int 0, .int 0, .int 0, .int 0, .int 0, .int 0, .int 0, .int 0, .int 0, .int 0, .int 0, .int 0]) := by
  unfold TX
  rw [shX_mi h hj, x0_f (by unfold isRg at h; omega)]
  rfl
theorem TI.rg {ρ : Nat} (hρ : isRg ρ) (h : TI G B ρ z) (ho : ∀ b, b < ρ → y b = z b) (h1 : y ρ = .inr (3, [.ref (B + (ρ + 1)), .int 0, .int 0, .int 0, .int 0, .int 0])) (h2 : y (ρ + 1) = .inl (G.2 2, 8, rfs (fun j => some (B + (ρ + 1 + 1 + j))))) (h3 : ∀ j, j < 8 → y (ρ + 1 + 1 + j) = .inr (0, [.int 0, .int 0, .int 0, .int 0, .int 0, .int 0, .int 0, .int 0, .int 0, .int 0, .int 0, .int 0])) : TI G B (ρ + 1 + 9) y :=
  h.ext ho (fun b b0 b1 b2 b3 => by
    by_cases e : b = ρ
    · rw [e, h1, TX_ri hρ]
    · by_cases e2 : b = ρ + 1
      · rw [e2, h2, TX_ma hρ]
      · obtain ⟨j, rfl⟩ : ∃ j, b = ρ + 1 + 1 + j := ⟨b - (ρ + 1 + 1), by omega⟩
        rw [h3 j (by omega), TX_mi hρ (by omega)])
theorem TI.rw {r : Nat} (hr : r < 8) (h : TI G B (29 + 2 * r) z) (ho : ∀ b, b < 29 + 2 * r → y b = z b) (h1 : y (29 + 2 * r) = .inr (4, [.ref (B + (29 + 2 * r + 1)), .int 0, .int (-1)])) (h2 : y (29 + 2 * r + 1) = .inl (G.2 0, 40, .inl fun _ => 0)) : TI G B (29 + 2 * r + 1 + 1) y :=
  h.ext ho (fun b b0 b1 b2 b3 => by
    have e : b = 29 + 2 * r ∨ b = 29 + 2 * r + 1 := by omega
    rcases e with rfl | rfl
    · rw [h1]
      unfold TX
      rw [shX_rw hr]
      have e1 : x0 (29 + 2 * r) 1 = 0 := x0_z (by omega)
      have e2 : x0 (29 + 2 * r) 2 = -1 := if_pos (by omega)
      unfold rwE
      rw [e1, e2]
    · rw [h2]
      unfold TX
      rw [shX_it hr, x0_f (by omega)])
theorem TI.qu {q : Nat} (hq : q < 4) (h : TI G B (65 + 13 * q) z) (ho : ∀ b, b < 65 + 13 * q → y b = z b) (h1 : y (65 + 13 * q) = .inr (1, [.ref (B + (65 + 13 * q + 1)), .ref (B + (65 + 13 * q + 1 + 1)), .ref (B + (65 + 13 * q + 1 + 1 + 1)), .int 0, .int 0, .int 0])) (h2 : y (65 + 13 * q + 1) = .inl (G.2 0, 8, .inl fun _ => 0)) (h3 : y (65 + 13 * q + 1 + 1) = .inl (G.2 0, 9, .inl fun _ => 0)) (h4 : y (65 + 13 * q + 1 + 1 + 1) = .inr (3, [.ref (B + (65 + 13 * q + 1 + 1 + 1 + 1)), .int 0, .int 0, .int 0, .int 0, .int 0])) (h5 : y (65 + 13 * q + 1 + 1 + 1 + 1) = .inl (G.2 2, 8, rfs (fun j => some (B + (65 + 13 * q + 1 + 1 + 1 + 1 + 1 + j))))) (h6 : ∀ j, j < 8 → y (65 + 13 * q + 1 + 1 + 1 + 1 + 1 + j) = .inr (0, [.int 0, .int 0, .int 0, .int 0, .int 0, .int 0, .int 0, .int 0, .int 0, .int 0, .int 0, .int 0])) : TI G B (65 + 13 * q + 1 + 1 + 1 + 1 + 9) y := by
  have hg : isRg (65 + 13 * q + 1 + 1 + 1) := rgQ hq
  refine h.ext ho (fun b b0 b1 b2 b3 => ?_)
  by_cases e1 : b = 65 + 13 * q
  · subst e1
    rw [h1]
    unfold TX
    rw [shX_qu hq, x0_f (by omega)]
  · by_cases e2 : b = 65 + 13 * q + 1
    · subst e2
      rw [h2]
      unfold TX
      rw [shX_bh hq, x0_f (by omega)]
    · by_cases e3 : b = 65 + 13 * q + 1 + 1
      · subst e3
        rw [h3]
        unfold TX
        rw [show 65 + 13 * q + 1 + 1 = 65 + 13 * q + 2 from rfl, shX_af hq, x0_f (by omega)]
      · by_cases e4 : b = 65 + 13 * q + 1 + 1 + 1
        · rw [e4, h4, TX_ri hg]
        · by_cases e5 : b = 65 + 13 * q + 1 + 1 + 1 + 1
          · rw [e5, h5, TX_ma hg]
          · obtain ⟨j, rfl⟩ : ∃ j, b = 65 + 13 * q + 1 + 1 + 1 + 1 + 1 + j := ⟨b - (65 + 13 * q + 1 + 1 + 1 + 1 + 1), by omega⟩
            rw [h6 j (by omega), TX_mi hg (by omega)]
theorem TI.rd (h : TI G B 2 z) (ho : ∀ b, b < 2 → y b = z b) (h1 : y 2 = .inr (2, [.ref (B + 3), .int 0, .int 0, .int 0, .int 0, .int 0, .int 0])) (h2 : y 3 = .inr (5, [.ref (B + 4), .int 0])) (h3 : y 4 = .inl (G.2 1, 400, .inl fun _ => 0)) : TI G B 5 y :=
  h.ext ho (fun b b0 b1 b2 b3 => by
    have e : b = 2 ∨ b = 3 ∨ b = 4 := by omega
    rcases e with rfl | rfl | rfl
    · rw [h1]
      unfold TX
      rw [shX_rd, x0_f (by omega)]
    · rw [h2]
      unfold TX
      rw [shX_tp, x0_f (by omega)]
    · rw [h3]
      unfold TX
      rw [shX_tb, x0_f (by omega)])
theorem TI.tr (h : TI G B 27 z) (ho : ∀ b, b < 27 → y b = z b) (h1 : y 27 = .inr (6, [.ref (B + 28), .int 0])) (h2 : y 28 = .inl (G.2 0, 16, .inl fun _ => 0)) : TI G B 29 y :=
  h.ext ho (fun b b0 b1 b2 b3 => by
    have e : b = 27 ∨ b = 28 := by omega
    rcases e with rfl | rfl
    · rw [h1]
      unfold TX
      rw [shX_tr, x0_f (by omega)]
    · rw [h2]
      unfold TX
      rw [shX_tn, x0_f (by omega)])
theorem TI.fin (h : TI G B 117 z) (h0 : z 0 = .inr (7, [.ref (B + 1), .ref (B + 2), .ref (B + 5), .ref (B + 15), .ref (B + 25), .ref (B + 26), .ref (B + 27), .int 0, .int 0])) (h1 : z 1 = .inl (G.2 5, 8, rfs (fun r => some (B + (29 + 2 * r))))) (h2 : z 25 = .inl (G.2 4, 2, rfs (fun k => some (B + (45 + 10 * k))))) (h3 : z 26 = .inl (G.2 3, 4, rfs (fun q => some (B + (65 + 13 * q))))) : ∀ b, b < 117 → z b = TX G B b := fun b hb => by
  by_cases e0 : b = 0
  · subst e0
    rw [h0]
    unfold TX
    rw [shX_mn, x0_f (by omega)]
  · by_cases e1 : b = 1
    · subst e1
      rw [h1]
      unfold TX
      rw [shX_ra]
    · by_cases e2 : b = 25
      · subst e2
        rw [h2]
        unfold TX
        rw [shX_ia]
      · by_cases e3 : b = 26
        · subst e3
          rw [h3]
          unfold TX
          rw [shX_qa]
        · exact h b hb e0 e1 e2 e3
end TIS
