/-- hours: the winds that a row tells -/
def qOf (v : Int32) : Int32 := if 0 ≤ v then v / 1000 else -1
def sOf (v : Int32) : Int32 := v - v / 1000 * 1000
def isWnd (v : Int32) : Bool := (decide (0 ≤ qOf v) && decide (qOf v ≤ 3)) && (decide (0 ≤ sOf v) && decide (sOf v ≤ 100))
def hrsB (it : Nat → Int32) (i n : Nat) : Bool := allN (fun j => isWnd (it (i + j))) n
def hrsNw (nw : Nat → Int32) (n : Nat) (it : Nat → Int32) (i : Nat) : Nat → (Nat → Int32)
  | 0 => nw
  | k + 1 => hourNw (hrsNw nw n it i k) n (tn (qOf (it (i + k)))) (sOf (it (i + k)))
def hrsS (nw : Nat → Int32) (n : Nat) (it : Nat → Int32) (i : Nat) : Nat → Int32
  | 0 => 0
  | k + 1 => hrsS nw n it i k + sMade (hrsNw nw n it i k) n (tn (qOf (it (i + k)))) (sOf (it (i + k))) 0
theorem allN_get {p : Nat → Bool} : ∀ {n j : Nat}, allN p n = true → j < n → p j = true := by
  intro n j h hj
  cases hp : p j with
  | true => rfl
  | false => rw [allN_false hp n hj] at h; exact absurd h (by decide)
def offH (x u : Mem) : Prop := ∀ a, ¬ (5 ≤ a ∧ a < 15) → ¬ (65 ≤ a ∧ a < 117) → u a = x a
theorem offH.st {x u v : Mem} {q : Nat} (h : offH x u) (g : offP q u v) (hq : q < 4) : offH x v := fun a h1 h2 => by
  rw [g a h1 (by omega)]
  exact h a h1 h2
theorem hrs_lt {i nh : Int32} {k : Nat} (hi : i = nI (tn i)) (hn : nh = nI (tn nh)) : i + nh = nI (tn i + tn nh) := n_add hi hn
/-- years: the sequence of draws -/
def lcg (z : Int64) : Int64 := z * 16807 - z * 16807 / 2147483647 * 2147483647
def yZ (seed : Int32) : Nat → Int64
  | 0 => seed.toInt64
  | k + 1 => lcg (lcg (yZ seed k))
def yQ (z : Int64) : Nat := tn ((lcg z &&& 3).toInt32)
def yW (z : Int64) : Int32 := (lcg (lcg z) - lcg (lcg z) / 101 * 101).toInt32
def yG (nw : Nat → Int32) (n q : Nat) (w m : Int32) : Int32 := if m = -1 then sumN (fun k => sFree nw n k q w 0 hNo) n else sFree nw n (tn m) q w 0 hNo
def yS (nw : Nat → Int32) (n : Nat) (m seed : Int32) : Nat → Int32
  | 0 => 0
  | k + 1 => yS nw n m seed k + yG nw n (yQ (yZ seed k)) (yW (yZ seed k)) m
theorem and3 (v : Int32) : ∃ k, k < 4 ∧ v &&& 3 = nI k := by
  refine ⟨(v.toBitVec &&& 3).toNat, ?_, ?_⟩
  · have h : (v.toBitVec &&& 3#32).toNat = v.toBitVec.toNat % 4 := by
      rw [BitVec.toNat_and]
      exact Nat.and_two_pow_sub_one_eq_mod _ 2
    show (v.toBitVec &&& 3#32).toNat < 4
    rw [h]
    exact Nat.mod_lt _ (by decide)
  · apply Int32.toBitVec_inj.mp
    show (v.toBitVec &&& 3#32) = (nI _).toBitVec
    apply BitVec.eq_of_getLsbD_eq
    intro i hi
    rw [nI_bit _ _ hi, BitVec.getLsbD]
    rfl
theorem yq_lt (z : Int64) : (lcg z &&& 3).toInt32 = nI (yQ z) ∧ yQ z < 4 := by
  obtain ⟨k, hk, he⟩ := and3 (lcg z).toInt32
  have h : (lcg z &&& 3).toInt32 = (lcg z).toInt32 &&& 3 := by
    rw [Int64.toInt32_and]
    rfl
  unfold yQ
  rw [h, he, tn_nI (by omega)]
  exact ⟨rfl, hk⟩
def offY (x u : Mem) : Prop := ∀ a, ¬ (65 ≤ a ∧ a < 117) → u a = x a
theorem offY.st {x u v : Mem} {q : Nat} (h : offY x u) (g : offQ q u v) (hq : q < 4) : offY x v := fun a h1 => by
  rw [g a (by omega)]
  exact h a h1
theorem RR.offY {n ρ : Nat} {x u : Mem} {nw : Nat → Int32} (h : RR n x ρ nw) (hr : isRc ρ) (ho : offY x u) : RR n u ρ nw := by
  unfold isRc at hr
  exact h.same fun a h1 h2 => ho a (by omega)
theorem hrsB_no {it : Nat → Int32} {i n k : Nat} (h : isWnd (it k) = false) (h1 : i ≤ k) (h2 : k < i + n) : ¬ hrsB it i n = true := by
  intro z
  have h3 : isWnd (it (i + (k - i))) = true := allN_get z (by omega)
  rw [show i + (k - i) = k by omega, h] at h3
  exact absurd h3 (by decide)
theorem hrsB_yes {it : Nat → Int32} {i n k : Nat} (h : ∀ j, i ≤ j → j < k → isWnd (it j) = true) (hk : k = i + n) : hrsB it i n = true :=
  allN_true n fun j hj => h (i + j) (by omega) (by omega)
theorem hrsB_at {it : Nat → Int32} {i n k : Nat} (z : hrsB it i n = true) (h1 : i ≤ k) (h2 : k < i + n) : qOf (it k) = nI (tn (qOf (it k))) ∧ tn (qOf (it k)) < 4 := by
  have h3 : isWnd (it (i + (k - i))) = true := allN_get z (by omega)
  rw [show i + (k - i) = k by omega] at h3
  exact windQ h3
/-- a quarter that is surveyed, and its own ridge -/
def SQ (n : Nat) (nw : Nat → Int32) (x : Mem) (q : Nat) : Prop := SV n nw x q hNo ∧ RQ n x q nw
theorem SQ.keep {n : Nat} {nw : Nat → Int32} {x u : Mem} {q : Nat} (s : SQ n nw x q) (hu : ∀ a, 65 + 13 * q ≤ a → a < 65 + 13 * q + 13 → a ≠ 65 + 13 * q + 2 → u a = x a) : SQ n nw u q :=
  ⟨s.1.keep (hu _ (by omega) (by omega) (by omega)) (hu _ (by omega) (by omega) (by omega)), s.2.keep fun a h1 h2 => hu a (by omega) h2 (by omega)⟩
theorem SQ.all {n : Nat} {nw : Nat → Int32} {x u : Mem} {q : Nat} {i : Nat} (s : ∀ k, k < i → SQ n nw x k) (ho : ∀ a, a ≠ 65 + 13 * q + 2 → u a = x a) : ∀ k, k < i → SQ n nw u k := fun k hk => (s k hk).keep fun a h1 h2 h3 => ho a (by omega)
theorem or_ite {p : Prop} [Decidable p] {b : Bool} : (if p then true else if b = false then false else true) = (decide p || b) := by
  by_cases h : p <;> cases b <;> simp [h]
