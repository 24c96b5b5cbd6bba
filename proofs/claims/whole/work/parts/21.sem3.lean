/-- rows: missing, or of at most 40 items -/
def ROK (x : Mem) : Prop := ∀ r, r < 8 → x (29 + 2 * r) 2 = -1 ∨ ∃ sz, sz ≤ 40 ∧ x (29 + 2 * r) 2 = nI sz
theorem covN {x : Mem} {r : Nat} {i k : Int32} (h : ROK x) (hr : r < 8) (hm : decide (x (29 + 2 * r) 2 = -1) = false) (hc : (decide (0 ≤ i) && (decide (0 ≤ k) && decide (k ≤ x (29 + 2 * r) 2 - i))) = true) : i = nI (tn i) ∧ k = nI (tn k) ∧ tn i + tn k ≤ 40 := by
  simp only [Bool.and_eq_true, decide_eq_true_eq, decide_eq_false_iff_not] at hm hc
  rcases h r hr with h1 | ⟨sz, h1, h2⟩
  · exact absurd h1 hm
  · rw [h2] at hc
    obtain ⟨a, ha, ea⟩ := nI_of (Int32.not_lt.mpr hc.1)
    obtain ⟨b, hb, eb⟩ := nI_of (Int32.not_lt.mpr hc.2.1)
    subst ea; subst eb
    rw [tn_nI ha, tn_nI hb]
    refine ⟨rfl, rfl, ?_⟩
    have h3 := Int32.le_iff_toInt_le.mp hc.2.2
    rw [nI_toInt hb] at h3
    rw [Int32.toInt_sub, nI_toInt ha, nI_toInt (show sz < 2 ^ 31 by omega), Int.bmod_def] at h3
    split at h3 <;> omega
theorem covNm {x : Mem} {r : Nat} {i k : Int32} (h : ROK x) (hr : r < 8) (hm : decide (x (29 + 2 * r) 2 = -1) = false) (hc : (decide (0 ≤ i) && (decide (0 ≤ k) && decide (k ≤ x (29 + 2 * r) 2 - i))) = true) : ∃ sz, sz ≤ 40 ∧ x (29 + 2 * r) 2 = nI sz ∧ tn i + tn k ≤ sz := by
  simp only [Bool.and_eq_true, decide_eq_true_eq, decide_eq_false_iff_not] at hm hc
  rcases h r hr with h1 | ⟨sz, h1, h2⟩
  · exact absurd h1 hm
  · refine ⟨sz, h1, h2, ?_⟩
    rw [h2] at hc
    obtain ⟨a, ha, ea⟩ := nI_of (Int32.not_lt.mpr hc.1)
    obtain ⟨b, hb, eb⟩ := nI_of (Int32.not_lt.mpr hc.2.1)
    subst ea; subst eb
    rw [tn_nI ha, tn_nI hb]
    have h3 := Int32.le_iff_toInt_le.mp hc.2.2
    rw [nI_toInt hb] at h3
    rw [Int32.toInt_sub, nI_toInt ha, nI_toInt (show sz < 2 ^ 31 by omega), Int.bmod_def] at h3
    split at h3 <;> omega
theorem within1 {v K : Int32} {k : Nat} (hK : K = nI k) (hk : k < 2 ^ 31) (h : (decide (1 ≤ v) && decide (v ≤ K)) = true) : v = nI (tn v) ∧ 1 ≤ tn v ∧ tn v ≤ k := by
  simp only [Bool.and_eq_true, decide_eq_true_eq] at h
  have h0 : (0 : Int32) ≤ v := Int32.le_trans (by decide) h.1
  obtain ⟨h1, h2⟩ := within_nI hK hk (by rw [decide_eq_true h0, decide_eq_true h.2]; rfl)
  refine ⟨h1, ?_, h2⟩
  have h3 := h.1
  rw [h1] at h3
  exact (n_le (a := 1) rfl rfl (by decide) (by omega)).mp h3
theorem ixN {i c : Int32} {k : Nat} (h0 : ¬ i < 0) (h1 : ¬ c ≤ i) (hc : c = nI k) (hk : k < 2 ^ 31) : i = nI (tn i) ∧ tn i < k := by
  obtain ⟨a, ha, ea⟩ := nI_of h0
  subst ea
  rw [tn_nI ha]
  rw [hc] at h1
  exact ⟨rfl, Nat.lt_of_not_le fun q => h1 (nI_le q ha)⟩
/-- kinds -/
def nxtK (k : Nat) : Nat := if k = 1 then 0 else if k = 2 then 1 else if k = 3 then 2 else if k = 4 then 0 else if k = 5 then 1 else 0
def isKf : Nat → Nat → Nat → Bool
  | 0, k, b => decide (k = b)
  | f + 1, k, b => if k = b then true else if k = 0 then false else isKf f (nxtK k) b
theorem nextK_n : ∀ k, k < 6 → 0 < k → nextK k = nI (nxtK k) := by decide +kernel
theorem nxtK_lt : ∀ k, k < 6 → nxtK k < 6 := by decide
theorem kd_in : ∀ k, k < 6 → (decide (0 ≤ nI k) && decide (nI k ≤ 5)) = true := by decide +kernel
/-- asks: what a mill of kind k gives, and by which bodies -/
def pushT (x : Mem) (k : Nat) (b : Int32) : Mem := mst (mst x 28 k b) 27 1 (nI (k + 1))
def pushL (x : Mem) (k : Nat) : List Int32 → Mem
  | [] => x
  | b :: bs => pushL (pushT x k b) (k + 1) bs
theorem pushL_app (x : Mem) (k : Nat) : ∀ (a b : List Int32), pushL x k (a ++ b) = pushL (pushL x k a) (k + a.length) b
  | [], b => rfl
  | c :: a, b => by
    show pushL (pushT x k c) (k + 1) (a ++ b) = pushL (pushL (pushT x k c) (k + 1) a) (k + (a.length + 1)) b
    rw [pushL_app (pushT x k c) (k + 1) a b, show k + 1 + a.length = k + (a.length + 1) by omega]
theorem pushL_len (k : Nat) : ∀ (l : List Int32) (x : Mem), x 27 1 = nI k → (pushL x k l) 27 1 = nI (k + l.length) := by
  intro l
  induction l generalizing k with
  | nil => intro x h; exact h
  | cons b bs ih =>
    intro x h
    have := ih (k + 1) (pushT x k b) (by unfold pushT; rw [mst_self])
    rw [show k + 1 + bs.length = k + (b :: bs).length by simp; omega] at this
    exact this
theorem pushL_off (k : Nat) : ∀ (l : List Int32) (x : Mem) (a : Nat), a ≠ 27 → a ≠ 28 → (pushL x k l) a = x a := by
  intro l
  induction l generalizing k with
  | nil => intro x a h1 h2; rfl
  | cons b bs ih =>
    intro x a h1 h2
    rw [show pushL x k (b :: bs) = pushL (pushT x k b) (k + 1) bs from rfl, ih (k + 1) _ a h1 h2]
    unfold pushT
    rw [mst_ne h1, mst_ne h2]
def markV (m : Nat → Int32) (k : Nat) : Int32 := if k = 2 then m 0 + 10 * m 4 - m 6 else if k = 3 then 2 * (m 0 + 10 * m 4 - m 6) else if k = 4 then m 0 + (m 8 - 100) else m 0 + 10 * m 4
def markT (k : Nat) : List Int32 := if k = 2 then [22, 21, 20] else if k = 3 then [24, 22, 21, 20] else if k = 4 then [23, 20, 13, 10] else [21, 20]
def sizeV (m : Nat → Int32) (k : Nat) : Int32 := if k = 3 then 0 - (m 8 + markV m k) else if k = 4 then m 8 - 100 else if k = 5 then 2 * (m 8 + markV m k) else m 8 + markV m k
def sizeT (k : Nat) : List Int32 := if k = 3 then 12 :: 11 :: 10 :: markT k else if k = 4 then [13, 10] else if k = 5 then 14 :: 11 :: 10 :: markT k else 11 :: 10 :: markT k
/-- a row's items that come to another's places -/
def mcp (x : Mem) (a0 b sp dp n : Nat) : Mem := fun a' => if a' = b then va_cpy (x a0) (x b) sp dp n else x a'
abbrev mrL (G : GG) (w : WD) (x : Mem) : va_W := (List.range w.1).map (fun a => (w.2.1 + a, w.2.2.1 a (x a)))
theorem mrL_get {G : GG} {w : WD} {x : Mem} {a : Nat} (h : a < w.1) : (mrL G w x)[a]? = some (w.2.1 + a, w.2.2.1 a (x a)) := by
  simp [mrL, h]
theorem MR.lst {G : GG} {w : WD} {x : Mem} {H : Heap} (h : MR G w x H) : va_P G.1 vwCl (mrL G w x) H := by
  intro k q hk
  have hl : k < w.1 := by
    have := (List.getElem?_eq_some_iff.mp hk).1
    simpa [mrL] using this
  rw [mrL_get hl] at hk
  cases hk
  exact h k hl
theorem mrL_D {G : GG} {w : WD} {x : Mem} (hW : WOK w) : va_D w.2.2.2.1 (mrL G w x) := by
  have key : ∀ (k : Nat) (q : Nat × va_E), (mrL G w x)[k]? = some q → k < w.1 ∧ q.1 = w.2.1 + k := by
    intro k q hk
    have hl : k < w.1 := by
      have := (List.getElem?_eq_some_iff.mp hk).1
      simpa [mrL] using this
    rw [mrL_get hl] at hk
    cases hk
    exact ⟨hl, rfl⟩
  refine ⟨fun i j p q hi hj e => ?_, fun k q hk => ?_⟩
  · have h1 := (key i p hi).2
    have h2 := (key j q hj).2
    omega
  · rw [(key k q hk).2]
    exact hW.1 k (key k q hk).1
section XCP
variable {p : Program} {l : Launch} {e : Env} {R : Room} {s : State} {m : MethodId} {args : Array Value} {below : List Frame} {meth : Method} {c : Code} {H : Heap} {locs : List Loc} {cells slots : Nat} {Q : State → Prop}
variable {cc : ByteArray} {pc : Nat} {ls : Array Slot} {rest st0 : List Value} {G : GG} {w : WD} {x : Mem} {a b : Nat} {aa : Array Value}
theorem x_copy (hexec : p.tables.exec = Jvm.exec) (hb : c.code = cc) (hml : c.maxLocals = ls.size) {own : String} {index : Nat} (hown : s.vm.findClass own = some m.cls) (hlink : (Cond.methodLink own index arraycopyName).before args s = true) (hnat : (Cond.native arraycopyName).before args s = true) (hstat : (Cond.static arraycopyName).before args s = true) (hini : (Cond.initialized "java/lang/System").before args s = true)
    (hK : KN G s) (hW : WOK w) (hX : MR G w x H) (hS : va_S w.2.2.2.1 s.heap H locs) (ha : a < w.1) (hb2 : b < w.1) {n0 n1 : Nat} (he : w.2.2.1 a (x a) = .inl (G.2 0, n0, .inl (x a))) (he1 : ∀ f, w.2.2.1 b f = .inl (G.2 0, n1, .inl f))
    {sp dp n : Int32} (h1 : sp = nI (tn sp)) (h2 : dp = nI (tn dp)) (h3 : n = nI (tn n)) (hb1 : tn sp + tn n ≤ n0) (hb3 : tn dp + tn n ≤ n1) (hn0 : n0 < 2 ^ 31) (hn1 : n1 < 2 ^ 31)
    (hframes : 1 ≤ R.frames) (hlocals : (rest.map fun v => v.category).sum + (nativeFrameWords "java/lang/System" "arraycopy" 5 + 11) ≤ R.locals) (hdg : decode cc pc = .ok (.invokestatic index, 3))
    (kk : ∀ (H1 : Heap) (locs1 : List Loc), MR G w (mcp x a b (tn sp) (tn dp) (tn n)) H1 → va_S w.2.2.2.1 s.heap H1 locs1 → W p l e R s m args below meth c H1 locs1 cells slots Q (F0 m (pc + 3) ls rest)) : W p l e R s m args below meth c H locs cells slots Q (F0 m pc ls (.int n :: .int dp :: .ref (w.2.1 + b) :: .int sp :: .ref (w.2.1 + a) :: rest)) := by
  have np : ∀ z : Int32, z = nI (tn z) → tn z < 2 ^ 31 → ¬ z < 0 := fun z hz hl => by rw [hz]; exact nI_pos hl
  refine va_copyi hexec hb hml hown hlink hnat hstat hini hK.1 hX.lst (mrL_D hW) hS a b 0 0 (ty := .int) ((mrL_get ha).trans (by rw [he])) ((mrL_get hb2).trans (by rw [he1])) rfl rfl rfl (np sp h1 (by omega)) (np dp h2 (by omega)) (np n h3 (by omega)) hb1 hb3 (fun _ _ => rfl) hframes hlocals hdg (fun H1 locs1 hP hD hS1 => ?_)
  refine kk H1 locs1 (fun k hk => ?_) hS1
  unfold mcp
  by_cases hkb : k = b
  · subst hkb
    rw [if_pos rfl, he1]
    exact hP k _ (List.getElem?_set_self (by simp [mrL]; exact hk))
  · rw [if_neg hkb]
    refine hP k _ ?_
    rw [List.getElem?_set_ne (Ne.symm hkb)]
    exact mrL_get hk
end XCP
