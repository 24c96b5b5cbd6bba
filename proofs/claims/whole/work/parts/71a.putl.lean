theorem MR.putG {G : GG} {w : WD} {x x1 : Mem} {H H1 : Heap} (h : MR G w x H) {a : Nat} (hx1 : ∀ b, b ≠ a → x1 b = x b) (hq : va_at G.1 vwCl (w.2.1 + a, w.2.2.1 a (x1 a)) H1) (oq : ∀ q : Nat, q ≠ w.2.1 + a → H1[q]? = H[q]?) : MR G w x1 H1 := by
  intro b hb
  by_cases hba : b = a
  · subst hba; exact hq
  · rw [hx1 b hba]
    exact (h b hb).kept (oq _ (by show w.2.1 + b ≠ w.2.1 + a; omega))
section XW
variable {p : Program} {l : Launch} {e : Env} {R : Room} {s : State} {m : MethodId} {args : Array Value} {below : List Frame} {meth : Method} {c : Code} {H : Heap} {locs : List Loc} {cells slots : Nat} {Q : State → Prop}
variable {cc : ByteArray} {pc : Nat} {ls : Array Slot} {rest st0 : List Value} {G : GG} {w : WD} {x : Mem} {a : Nat} {aa : Array Value}
theorem x_putG (hexec : p.tables.exec = Jvm.exec) (hb : c.code = cc) {own ref C : String} {T : u_T} {N ci index : Nat} {Ts : List Cond} (hts : ∀ w ∈ Ts, w.before args s = true) (hin : ∀ w ∈ u_ws C T N, w ∈ Ts) (ty0 : Nat → FieldType) (hty : ∀ k, k < N → parseFieldDescriptor (T k).2.2.1 = some (ty0 k)) (hnm : ∀ a, a < N → ∀ b, b < N → a ≠ b → (T a).2.1 ≠ (T b).2.1) (hown : s.vm.findClass own = some m.cls) (hK : KN G s) (hW : WOK w) (hX : MR G w x H) (hS : va_S w.2.2.2.1 s.heap H locs) (ha : a < w.1) {fs : List Value} (he : w.2.2.1 a (x a) = .inr (ci, fs)) (hc : vwCl[ci]? = some (C, T, N)) (k : Nat) (hk : k < N) (hlink : (Cond.fieldLink own index ref (T k).2.1 (T k).2.2.1).before args s = true) (hsame : ∀ x, s.fieldFound? (T k).1 (T k).2.1 (T k).2.2.1 = some x → s.fieldFound? ref (T k).2.1 (T k).2.2.1 = some x) (hfin : (T k).2.2.2 = false) {ty : FieldType} {v : Int64} {x1 : Mem} (hd : parseFieldDescriptor (T k).2.2.1 = some ty) (hn : narrow ty (.long v) = .long v) (hfit : fits ty (.long v) = true) (hl : k < fs.length) (hx1 : ∀ b, b ≠ a → x1 b = x b) (he1 : w.2.2.1 a (x1 a) = .inr (ci, fs.set k (.long v)))
    (hdg : decode cc pc = .ok (.putfield index, 3)) (kk : ∀ (H1 : Heap) (locs1 : List Loc), MR G w x1 H1 → va_S w.2.2.2.1 s.heap H1 locs1 → W p l e R s m args below meth c H1 locs1 cells slots Q (F0 m (pc + 3) ls rest)) : W p l e R s m args below meth c H locs cells slots Q (F0 m pc ls (.long v :: .ref (w.2.1 + a) :: rest)) := by
  have hap := va_apart (own := own) hts hin ty0 hty hnm hK.1 hc
  obtain ⟨r, h1, cell, q1, q2, q3, q4⟩ := hX.one ha he 0 _ rfl
  have hr : r = (C, T, N) := Option.some.inj (h1.symm.trans hc)
  subst hr
  obtain ⟨hS2, hfc, kC, hkC, hkind⟩ := hK.1.1 ci _ hc
  obtain ⟨cf, kf, fi, f, hi, hsl⟩ := hS2 k hk
  have hlay := hts _ (hin _ (u_in_lay hk))
  unfold u_lay at hlay
  rw [if_neg (by rw [hfin]; decide)] at hlay
  have hst := (u_facts hfc hkC (u_lays hts hin hk) hi).1
  have h6 := u_store hfc hkC hkind hlay hi hd hn hfit
  refine W.putK hexec hb (f := f) ⟨hown, hlink, ⟨_, _, _, hsame _ hi⟩, hst⟩ (by rw [q2]; exact h6) q1 q3 (by rw [hsl]; exact k2_hasslot (q4 k hk)) rfl rfl hdg fun H' e1 e2 e3 => ?_
  rw [hsl] at e1 ⊢
  refine kk H' _ (hX.putG hx1 ?_ e3) (hS.put e2 e3 (hW.1 a ha))
  rw [he1]
  exact ⟨_, hc, t_OB.to (V := updV (vp_V fs) k (.long v)) ⟨_, e1, q2, q3, t_set q4 hap hk (.long v)⟩ (fun j _ => vp_updV_set hl (.long v) j)⟩
theorem x_putL {B : Nat} (hexec : p.tables.exec = Jvm.exec) (hb : c.code = cc) {own : String} {index : Nat} {Ts : List Cond} (hts : ∀ w ∈ Ts, w.before args s = true) (hin : ∀ w ∈ wsX80, w ∈ Ts) (hown : s.vm.findClass own = some m.cls) (hK : KN G s) (hX : MR G (wM G B) x H) (hS : va_S (blkA B (B + 13)) s.heap H locs)
    (hlink : (Cond.fieldLink own index RX8 "worth" "J").before args s = true) (hdg : decode cc pc = .ok (.putfield index, 3)) {v : Int64}
    (kk : ∀ (H1 : Heap) (locs1 : List Loc), MR G (wM G B) (mst (mst x 0 17 (hiL v)) 0 21 (loL v)) H1 → va_S (blkA B (B + 13)) s.heap H1 locs1 → W p l e R s m args below meth c H1 locs1 cells slots Q (F0 m (pc + 3) ls rest)) : W p l e R s m args below meth c H locs cells slots Q (F0 m pc ls (.long v :: .ref (B + 0) :: rest)) := by
  refine x_putG (w := wM G B) (a := 0) (x1 := mst (mst x 0 17 (hiL v)) 0 21 (loL v)) (ty := .long) hexec hb hts hin tyX8 tyX8_ok nmX8 hown hK (wM_ok G B) hX hS (Nat.le_of_ble_eq_true rfl) (shM_0 (G := G) (B := B)) rfl 17 (by decide) hlink (fun _ h9 => h9) rfl (by decide +kernel) rfl rfl (Nat.le_of_ble_eq_true rfl) (fun b hb9 => by rw [mst_ne hb9, mst_ne hb9]) ?_ hdg kk
  show shM G B 0 _ = _
  rw [shM_0]
  have e : mkL ((mst (mst x 0 17 (hiL v)) 0 21 (loL v)) 0 17) ((mst (mst x 0 17 (hiL v)) 0 21 (loL v)) 0 21) = v := wth_put
  unfold mdE
  rw [e]
  simp only [mst_eq, upd]
  rfl
end XW
