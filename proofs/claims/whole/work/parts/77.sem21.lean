theorem hi_ref {k : Nat} (h : k ≤ 4) : (if 2 ≤ nI k then (if nI k = 2 then (99 : Int32) else 999) else 9) = hiK k := by
  have h1 : ∀ k, k < 5 → (if 2 ≤ nI k then (if nI k = 2 then (99 : Int32) else 999) else 9) = hiK k := by decide +kernel
  exact h1 k (by omega)
theorem lo_ref {k : Nat} (h : k ≤ 4) : bI (if 2 ≤ nI k then false else true) = loK k := by
  have h1 : ∀ k, k < 5 → bI (if 2 ≤ nI k then false else true) = loK k := by decide +kernel
  exact h1 k (by omega)
theorem mlU_n {f : Nat → Int32} {t c k : Nat} {s : Nat × Int32} {d : Nat → Int32} (_ : c < 9) (h : d 0 = nI c) : mlU f t s c d k 0 = nI c := by
  unfold mlU
  rw [if_neg (by omega), if_neg (by omega)]
  exact h
theorem mlU_0 {f : Nat → Int32} {t c : Nat} {s : Nat × Int32} {d g : Nat → Int32} (hc : c < 8) (h : ∀ i, g i = if 5 + 10 * c ≤ i ∧ i < 5 + 10 * c + 10 then 0 else d i) :
    upd (upd (upd g (5 + 10 * c + 8) (tvI f t (ml2 f t s c).1)) (5 + 10 * c + 9) (tvI f t (ml3 f t s c).1)) (85 + c) (nI (srtN f t (ml1 f t s c).1)) = mlU f t s c d 0 := by
  funext i
  unfold mlU
  by_cases a : i = 85 + c
  · subst a
    rw [upd_eq, if_pos rfl]
  · rw [upd_ne a, if_neg a]
    by_cases b : i = 5 + 10 * c + 9
    · subst b
      rw [upd_eq, if_pos (by omega), if_neg (by omega), if_neg (by omega), if_pos (by omega)]
    · rw [upd_ne b]
      by_cases e : i = 5 + 10 * c + 8
      · subst e
        rw [upd_eq, if_pos (by omega), if_neg (by omega), if_pos (by omega)]
      · rw [upd_ne e, h i]
        by_cases q : 5 + 10 * c ≤ i ∧ i < 5 + 10 * c + 10
        · rw [if_pos q, if_pos (show 5 + 10 * c ≤ i ∧ i < 15 + 10 * c by omega), if_neg (by omega), if_neg (by omega), if_neg (by omega)]
        · rw [if_neg q, if_neg (show ¬ (5 + 10 * c ≤ i ∧ i < 15 + 10 * c) by omega)]
section LCE
variable {p : Program} {l : Launch} {e : Env} {R : Room} {s : State} {m : MethodId} {args : Array Value} {below : List Frame} {meth : Method} {c : Code} {H : Heap} {locs : List Loc} {cells slots : Nat} {Q : State → Prop}
variable {cc : ByteArray} {pc : Nat} {ls : Array Slot} {rest : List Value}
theorem x_lceq (hexec : p.tables.exec = Jvm.exec) (hb : c.code = cc) {x y : Int64} {off : Int} {tgt : Nat} (hdg : decode cc pc = .ok (.ifCond .eq off, 3)) (ht : (pc : Int) + off = (tgt : Int))
    (kt : x = y → W p l e R s m args below meth c H locs cells slots Q (F0 m tgt ls rest)) (kf : ¬ x = y → W p l e R s m args below meth c H locs cells slots Q (F0 m (pc + 3) ls rest)) : W p l e R s m args below meth c H locs cells slots Q (F0 m pc ls (.int (lg_cmp x y) :: rest)) :=
  lv_if_eq hexec hb hdg ht (fun h => kt ((lg_cmp_eq x y).mp h)) (fun h => kf (fun q => h ((lg_cmp_eq x y).mpr q)))
end LCE
