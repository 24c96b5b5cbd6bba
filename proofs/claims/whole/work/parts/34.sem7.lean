/-- a night: the sets that fit -/
def nightF (nw : Nat → Int32) (n q : Nat) (w nh : Int32) (x : Mem) (ro s : Nat) : Bool :=
  decide (nI s &&& nI (maskN (fun j => decide (x (5 + 1 + 1 + j) 11 ≠ 0)) n) = 0) && allN (fun m => decide (jmin (nh * sFree nw n m q w s hNo) (sF nw m 3) = x (29 + 2 * ro + 1) m)) n
def nightR (F : Nat → Bool) (i : Int32) : Nat → Option Nat
  | 0 => none
  | k + 1 => match nightR F i k with
    | some s => some s
    | none => if F k = true ∧ nI (cntN F k) = i then some k else none
def nightV (F : Nat → Bool) (i : Int32) (N : Nat) : Int32 := match nightR F i N with
  | some s => nI s
  | none => if i = -1 then nI (cntN F N) else -1000000
section NG
variable {F : Nat → Bool} {i ft : Int32} {s : Nat}
theorem night_skip (hF : F s = false) (h : nightR F i s = none) (hf : ft = nI (cntN F s)) : nightR F i (s + 1) = none ∧ ft = nI (cntN F (s + 1)) := by
  refine ⟨?_, ?_⟩
  · rw [nightR, h]
    simp [hF]
  · rw [cntN, hF]
    simpa using hf
theorem night_on (hF : F s = true) (hi : ¬ ft = i) (h : nightR F i s = none) (hf : ft = nI (cntN F s)) : nightR F i (s + 1) = none ∧ ft + Int32.ofInt 1 = nI (cntN F (s + 1)) := by
  refine ⟨?_, ?_⟩
  · rw [nightR, h]
    simp only []
    rw [if_neg (fun z => hi (hf.trans z.2))]
  · rw [cntN, hF, if_pos rfl]
    exact n_add hf rfl
theorem nightR_mono {k : Nat} (h : nightR F i k = some s) : ∀ d, nightR F i (k + d) = some s
  | 0 => h
  | d + 1 => by
    show nightR F i (k + d + 1) = some s
    rw [nightR, nightR_mono h d]
theorem night_hit {N : Nat} (hF : F s = true) (hi : ft = i) (h : nightR F i s = none) (hf : ft = nI (cntN F s)) (hs : s < N) : nightV F i N = nI s := by
  have h1 : nightR F i (s + 1) = some s := by
    rw [nightR, h]
    simp only []
    rw [if_pos ⟨hF, hf.symm.trans hi⟩]
  have h2 := nightR_mono h1 (N - (s + 1))
  rw [show s + 1 + (N - (s + 1)) = N by omega] at h2
  unfold nightV
  rw [h2]
theorem night_end {N : Nat} (h : nightR F i N = none) (hf : ft = nI (cntN F N)) : nightV F i N = if i = -1 then ft else -1000000 := by
  unfold nightV
  rw [h, hf]
end NG
theorem night_f1 {nw : Nat → Int32} {n q ro s : Nat} {w nh : Int32} {x : Mem} (h : ¬ (nI s &&& nI (maskN (fun j => decide (x (5 + 1 + 1 + j) 11 ≠ 0)) n)) = 0) : nightF nw n q w nh x ro s = false := by
  unfold nightF
  rw [decide_eq_false h, Bool.false_and]
theorem night_f2 {nw : Nat → Int32} {n q ro s : Nat} {w nh : Int32} {x : Mem} (h : allN (fun m => decide (jmin (nh * sFree nw n m q w s hNo) (sF nw m 3) = x (29 + 2 * ro + 1) m)) n = false) : nightF nw n q w nh x ro s = false := by
  unfold nightF
  rw [h, Bool.and_false]
theorem night_f3 {nw : Nat → Int32} {n q ro s : Nat} {w nh : Int32} {x : Mem} (h1 : (nI s &&& nI (maskN (fun j => decide (x (5 + 1 + 1 + j) 11 ≠ 0)) n)) = 0) (h : allN (fun m => decide (jmin (nh * sFree nw n m q w s hNo) (sF nw m 3) = x (29 + 2 * ro + 1) m)) n = true) : nightF nw n q w nh x ro s = true := by
  unfold nightF
  rw [decide_eq_true h1, h]
  rfl
theorem nightF_off {nw : Nat → Int32} {n q ro : Nat} {w nh : Int32} {x u : Mem} (ho : offQ q x u) (hn : n ≤ 8) (hro : ro < 8) : nightF nw n q w nh u ro = nightF nw n q w nh x ro := by
  funext s
  unfold nightF
  rw [ho (29 + 2 * ro + 1) (by omega), maskN_congr (q := fun j => decide (x (5 + 1 + 1 + j) 11 ≠ 0)) n (fun j hj => by rw [ho (5 + 1 + 1 + j) (by omega)])]
