/-! THE FRAME OF THIS PROOF. A world is a block of cells at B + 0, B + 1 ..; 'sh' tells the shape of each, a memory 'x' what ints they hold: x a k is the k-th int of the a-th cell. -/
abbrev Mem : Type := Nat → Nat → Int32
def mst (x : Mem) (a k : Nat) (v : Int32) : Mem := fun a' => if a' = a then upd (x a) k v else x a'
theorem mst_eq (x : Mem) (a k : Nat) (v : Int32) : mst x a k v a = upd (x a) k v := if_pos rfl
theorem mst_ne {x : Mem} {a k : Nat} {v : Int32} {b : Nat} (h : b ≠ a) : mst x a k v b = x b := if_neg h
theorem upd_eq (f : Nat → Int32) (k : Nat) (v : Int32) : upd f k v k = v := if_pos rfl
theorem upd_ne {f : Nat → Int32} {k j : Nat} {v : Int32} (h : j ≠ k) : upd f k v j = f j := if_neg h
theorem mst_self (x : Mem) (a k : Nat) (v : Int32) : mst x a k v a k = v := by rw [mst_eq, upd_eq]
theorem mst_app (x : Mem) (a k : Nat) (v : Int32) (b j : Nat) : mst x a k v b j = if b = a ∧ j = k then v else x b j := by
  unfold mst
  by_cases h : b = a
  · subst h
    by_cases hj : j = k
    · simp [upd, hj]
    · simp [upd, hj]
  · simp [h]
/-- class numbers: of the classes and their slots, of the arrays -/
abbrev GG : Type := va_G × (Nat → ClassId)
abbrev tyl (G : GG) : List (ClassId × FieldType) := [(G.2 0, .int), (G.2 1, .byte), (G.2 2, .object "WindTaken$Mill"), (G.2 3, .object "WindTaken$Quarter"), (G.2 4, .object "WindTaken$Ridge"), (G.2 5, .object "WindTaken$Row")]
/-- a world: how many cells, the first, their shapes, what may be written, what else it stands on -/
abbrev WD : Type := Nat × Nat × (Nat → (Nat → Int32) → va_E) × (Nat → Prop) × (State → Heap → Prop)
def MR (G : GG) (w : WD) (x : Mem) (H : Heap) : Prop := ∀ a, a < w.1 → va_at G.1 vwCl (w.2.1 + a, w.2.2.1 a (x a)) H
def WOK (w : WD) : Prop := (∀ a, a < w.1 → w.2.2.2.1 (w.2.1 + a)) ∧ (∀ (u U : State) (H : Heap), U.vm = u.vm → w.2.2.2.2 u H → w.2.2.2.2 U H) ∧ (∀ (u U : State) (H : Heap), u.WarmedH U.vm → w.2.2.2.2 u H → w.2.2.2.2 U H) ∧ (∀ (U : State) (H H1 : Heap), w.2.2.2.2 U H → (∀ q : Nat, q < H.size → ¬ w.2.2.2.1 q → H1[q]? = H[q]?) → w.2.2.2.2 U H1)
abbrev nestL : List (String × Nat × MethodName × String) := [(RX1, 64, yX7_bit, "WindTaken"), (RX1, 85, yX7_isWithin, "WindTaken"), (RX2, 11, yX5_init, "WindTaken"), (RX2, 130, yX7_isWithin, "WindTaken"), (RX3, 17, yX0_init, "WindTaken"), (RX3, 48, yX7_bit, "WindTaken"), (RX7, 17, yX2_init, "WindTaken"), (RX7, 44, yX6_init, "WindTaken"), (RX7, 49, yX4_init, "WindTaken"), (RX7, 50, yX1_init, "WindTaken")]
def KN (G : GG) (U : State) : Prop := va_K G.1 vwCl (tyl G) U ∧ ∀ q ∈ nestL, va_Nw (.methodLinkNest q.1 q.2.1 q.2.2.1 q.2.2.2) U
theorem KN.same {G : GG} {u U : State} (h : U.vm = u.vm) (hK : KN G u) : KN G U := ⟨va_K.moved (by rw [h]; exact Vm.Alike.refl _) hK.1, fun q hq => va_Nw.same rfl h.symm (hK.2 q hq)⟩
theorem KN.warm {G : GG} {u U : State} (h : u.WarmedH U.vm) (hK : KN G u) : KN G U := ⟨va_K.moved h.alike hK.1, fun q hq => va_Nw.warmM h (hK.2 q hq)⟩
/-- a method's start: its arguments, the world, what is known -/
def XP (G : GG) (w : WD) (av : List Value) (x : Mem) : Array Value → State → Prop := va_Pc av (fun U => MR G w x U.heap ∧ KN G U ∧ w.2.2.2.2 U U.heap)
def XB (G : GG) (w : WD) : Mem → State → Prop := fun u U => MR G w u U.heap
theorem MR.one {G : GG} {w : WD} {x : Mem} {H : Heap} (h : MR G w x H) {a : Nat} (ha : a < w.1) {e : va_E} (he : w.2.2.1 a (x a) = e) : va_P G.1 vwCl [(w.2.1 + a, e)] H := by
  intro k q hk
  match k, hk with
  | 0, hk => cases hk; rw [← he]; exact h a ha
  | k + 1, hk => simp at hk
theorem MR.put {G : GG} {w : WD} {x : Mem} {H H1 : Heap} (h : MR G w x H) {a k : Nat} {v : Int32} (hq : va_at G.1 vwCl (w.2.1 + a, w.2.2.1 a (upd (x a) k v)) H1) (oq : ∀ q : Nat, q ≠ w.2.1 + a → H1[q]? = H[q]?) : MR G w (mst x a k v) H1 := by
  intro b hb
  by_cases hba : b = a
  · subst hba; rw [mst_eq]; exact hq
  · rw [mst_ne hba]
    exact (h b hb).kept (oq _ (by show w.2.1 + b ≠ w.2.1 + a; omega))
theorem x_pre {G : GG} {w : WD} {x : Mem} {H : Heap} {s : State} {locs : List Loc} (hW : WOK w) (hX : MR G w x H) (hK : KN G s) (hE : w.2.2.2.2 s s.heap) (hS : va_S w.2.2.2.1 s.heap H locs) (av : List Value) : FrameBlind (XP G w av x) ∧ ∀ U : State, U.heap = H → s.WarmedH U.vm → XP G w av x av.toArray U := by
  refine ⟨fun a U g mk q => ⟨q.1, q.2.1, KN.same (u := U) (U := U.calling g mk a) rfl q.2.2.1, hW.2.1 U (U.calling g mk a) _ rfl q.2.2.2⟩, fun U hU hV => ⟨rfl, by rw [hU]; exact hX, KN.warm hV hK, ?_⟩⟩
  rw [hU]
  exact hW.2.2.1 s U _ hV (hW.2.2.2 s s.heap H hE hS.2.1)
theorem x_rcv {G : GG} {w : WD} {x : Mem} {H : Heap} {s : State} (hX : MR G w x H) (hK : KN G s) {a : Nat} (ha : a < w.1) {ci : Nat} {fs : List Value} (he : w.2.2.1 a (x a) = .inr (ci, fs)) {q : vw_C} (hc : vwCl[ci]? = some q) : ∃ cell : Cell, H[w.2.1 + a]? = some cell ∧ cell.vm.isStatics = false ∧ s.vm.findClass q.1 = some cell.cls := va_recv hK.1 (hX.one ha he) hc (q0 := 0) rfl
theorem x_pv {G : GG} {w : WD} {x : Mem} {H : Heap} {s : State} {locs : List Loc} (hW : WOK w) (hX : MR G w x H) (hK : KN G s) (hE : w.2.2.2.2 s s.heap) (hS : va_S w.2.2.2.1 s.heap H locs) (As : List Value) {a : Nat} (ha : a < w.1) {ci : Nat} {fs : List Value} (he : w.2.2.1 a (x a) = .inr (ci, fs)) {q : vw_C} (hc : vwCl[ci]? = some q) : PreV s H q.1 (w.2.1 + a) (XP G w (.ref (w.2.1 + a) :: As) x) As :=
  ⟨(x_pre hW hX hK hE hS (.ref (w.2.1 + a) :: As)).1, x_rcv hX hK ha he hc, (x_pre hW hX hK hE hS (.ref (w.2.1 + a) :: As)).2⟩
theorem x_ps {G : GG} {w : WD} {x : Mem} {H : Heap} {s : State} {locs : List Loc} (hW : WOK w) (hX : MR G w x H) (hK : KN G s) (hE : w.2.2.2.2 s s.heap) (hS : va_S w.2.2.2.1 s.heap H locs) (As : List Value) : PreS s H (XP G w As x) As := x_pre hW hX hK hE hS As
/-- a bit -/
def bI (b : Bool) : Int32 := if b then 1 else 0
section XW
variable {p : Program} {l : Launch} {e : Env} {R : Room} {s : State} {m : MethodId} {args : Array Value} {below : List Frame} {meth : Method} {c : Code} {H : Heap} {locs : List Loc} {cells slots : Nat} {Q : State → Prop}
variable {cc : ByteArray} {pc : Nat} {ls : Array Slot} {rest st0 : List Value} {G : GG} {w : WD} {x : Mem} {a : Nat} {aa : Array Value}
theorem x_get (hexec : p.tables.exec = Jvm.exec) (hb : c.code = cc) {own ref C : String} {T : u_T} {N ci index : Nat} {Ts : List Cond} (hts : ∀ w ∈ Ts, w.before args s = true) (hin : ∀ w ∈ u_ws C T N, w ∈ Ts) (hown : s.vm.findClass own = some m.cls) (hK : KN G s) (hX : MR G w x H) (ha : a < w.1) {fs : List Value} (he : w.2.2.1 a (x a) = .inr (ci, fs)) (hc : vwCl[ci]? = some (C, T, N)) (k : Nat) (hk : k < N) (hlink : (Cond.fieldLink own index ref (T k).2.1 (T k).2.2.1).before args s = true) (hsame : ∀ x, s.fieldFound? (T k).1 (T k).2.1 (T k).2.2.1 = some x → s.fieldFound? ref (T k).2.1 (T k).2.2.1 = some x) {v : Value} (hv : fs[k]? = some v) (hdg : decode cc pc = .ok (.getfield index, 3))
    (kk : W p l e R s m args below meth c H locs cells slots Q (F0 m (pc + 3) ls (v :: rest))) : W p l e R s m args below meth c H locs cells slots Q (F0 m pc ls (.ref (w.2.1 + a) :: rest)) :=
  va_get hexec hb hts hin hown hK.1 (hX.one ha he) 0 rfl hc k hk hlink hsame hv hdg kk
theorem x_put (hexec : p.tables.exec = Jvm.exec) (hb : c.code = cc) {own ref C : String} {T : u_T} {N ci index : Nat} {Ts : List Cond} (hts : ∀ w ∈ Ts, w.before args s = true) (hin : ∀ w ∈ u_ws C T N, w ∈ Ts) (ty0 : Nat → FieldType) (hty : ∀ k, k < N → parseFieldDescriptor (T k).2.2.1 = some (ty0 k)) (hnm : ∀ a, a < N → ∀ b, b < N → a ≠ b → (T a).2.1 ≠ (T b).2.1) (hown : s.vm.findClass own = some m.cls) (hK : KN G s) (hW : WOK w) (hX : MR G w x H) (hS : va_S w.2.2.2.1 s.heap H locs) (ha : a < w.1) {fs : List Value} (he : w.2.2.1 a (x a) = .inr (ci, fs)) (hc : vwCl[ci]? = some (C, T, N)) (k : Nat) (hk : k < N) (hlink : (Cond.fieldLink own index ref (T k).2.1 (T k).2.2.1).before args s = true) (hsame : ∀ x, s.fieldFound? (T k).1 (T k).2.1 (T k).2.2.1 = some x → s.fieldFound? ref (T k).2.1 (T k).2.2.1 = some x) (hfin : (T k).2.2.2 = false) {ty : FieldType} {v : Int32} (hd : parseFieldDescriptor (T k).2.2.1 = some ty) (hn : narrow ty (.int v) = .int v) (hfit : fits ty (.int v) = true) (hl : k < fs.length) (he1 : w.2.2.1 a (upd (x a) k v) = .inr (ci, fs.set k (.int v)))
    (hdg : decode cc pc = .ok (.putfield index, 3)) (kk : ∀ (H1 : Heap) (locs1 : List Loc), MR G w (mst x a k v) H1 → va_S w.2.2.2.1 s.heap H1 locs1 → W p l e R s m args below meth c H1 locs1 cells slots Q (F0 m (pc + 3) ls rest)) : W p l e R s m args below meth c H locs cells slots Q (F0 m pc ls (.int v :: .ref (w.2.1 + a) :: rest)) := by
  have hap := va_apart (own := own) hts hin ty0 hty hnm hK.1 hc
  obtain ⟨r, h1, cell, q1, q2, q3, q4⟩ := hX.one ha he 0 _ rfl
  have hr : r = (C, T, N) := Option.some.inj (h1.symm.trans hc)
  subst hr
  obtain ⟨hS2, hfc, kC, hkC, hkind⟩ := hK.1.1 ci _ hc
  obtain ⟨cf, kf, fi, f, hi, hsl⟩ := hS2 k hk
  have hlay := hts _ (hin _ (u_in_lay hk))
  unfold u_lay at hlay
  rw [if_neg (by rw [hfin]; decide)] at hlay
  have hst := (u_facts hfc hkC (u_lays hts hin hk) hi).1
  have h6 := u_store hfc hkC hkind hlay hi hd hn hfit
  refine W.putK hexec hb (f := f) ⟨hown, hlink, ⟨_, _, _, hsame _ hi⟩, hst⟩ (by rw [q2]; exact h6) q1 q3 (by rw [hsl]; exact k2_hasslot (q4 k hk)) rfl rfl hdg fun H' e1 e2 e3 => ?_
  rw [hsl] at e1 ⊢
  refine kk H' _ (hX.put ?_ e3) (hS.put e2 e3 (hW.1 a ha))
  rw [he1]
  exact ⟨_, hc, t_OB.to (V := updV (vp_V fs) k (.int v)) ⟨_, e1, q2, q3, t_set q4 hap hk (.int v)⟩ (fun j _ => vp_updV_set hl (.int v) j)⟩
theorem x_iald (hexec : p.tables.exec = Jvm.exec) (hb : c.code = cc) (hK : KN G s) (hX : MR G w x H) (ha : a < w.1) {n : Nat} (he : w.2.2.1 a (x a) = .inl (G.2 0, n, .inl (x a))) {i : Int32} {j : Nat} (hi : i = nI j) (hj : j < n) (hn : n < 2 ^ 31) (hdg : decode cc pc = .ok (.iaload, 1))
    (kk : W p l e R s m args below meth c H locs cells slots Q (F0 m (pc + 1) ls (.int (x a j) :: rest))) : W p l e R s m args below meth c H locs cells slots Q (F0 m pc ls (.int i :: .ref (w.2.1 + a) :: rest)) := by
  subst hi
  have hc : (nI j).toNatClampNeg = j := nI_clamp (by omega)
  refine va_iald hexec hb hK.1 (hX.one ha he) 0 0 rfl rfl (vp_in_nI hj hn) hdg ?_
  rw [hc]
  exact kk
theorem x_bald (hexec : p.tables.exec = Jvm.exec) (hb : c.code = cc) (hK : KN G s) (hX : MR G w x H) (ha : a < w.1) {n : Nat} (he : w.2.2.1 a (x a) = .inl (G.2 1, n, .inl (x a))) {i : Int32} {j : Nat} (hi : i = nI j) (hj : j < n) (hn : n < 2 ^ 31) (hdg : decode cc pc = .ok (.baload, 1))
    (kk : W p l e R s m args below meth c H locs cells slots Q (F0 m (pc + 1) ls (.int (x a j) :: rest))) : W p l e R s m args below meth c H locs cells slots Q (F0 m pc ls (.int i :: .ref (w.2.1 + a) :: rest)) := by
  subst hi
  have hc : (nI j).toNatClampNeg = j := nI_clamp (by omega)
  refine va_bald hexec hb hK.1 (hX.one ha he) 0 1 rfl rfl (vp_in_nI hj hn) hdg ?_
  rw [hc]
  exact kk
theorem x_aald (hexec : p.tables.exec = Jvm.exec) (hb : c.code = cc) (hK : KN G s) (hX : MR G w x H) (ha : a < w.1) {n t0 : Nat} {C : String} {cA : ClassId} {f : Nat → Option Nat} (he : w.2.2.1 a (x a) = .inl (cA, n, .inr (.inr (.inr (.inr f))))) (ht : (tyl G)[t0]? = some (cA, .object C)) {i : Int32} {j q : Nat} (hi : i = nI j) (hj : j < n) (hn : n < 2 ^ 31) (hf : f j = some q) (hdg : decode cc pc = .ok (.aaload, 1))
    (kk : W p l e R s m args below meth c H locs cells slots Q (F0 m (pc + 1) ls (.ref q :: rest))) : W p l e R s m args below meth c H locs cells slots Q (F0 m pc ls (.int i :: .ref (w.2.1 + a) :: rest)) := by
  subst hi
  have hc : (nI j).toNatClampNeg = j := nI_clamp (by omega)
  refine va_aldq hexec hb hK.1 (hX.one ha he) 0 t0 rfl ht (vp_in_nI hj hn) hdg ?_
  rw [hc, hf]
  exact kk
theorem x_alen (hexec : p.tables.exec = Jvm.exec) (hb : c.code = cc) (hK : KN G s) (hX : MR G w x H) (ha : a < w.1) {t0 : Nat} {cA : ClassId} {z : vp_A} {ty : FieldType} (he : w.2.2.1 a (x a) = .inl (cA, z)) (ht : (tyl G)[t0]? = some (cA, ty)) {v : Int32} (hv : Int32.ofNat z.1 = v) (hdg : decode cc pc = .ok (.arraylength, 1))
    (kk : W p l e R s m args below meth c H locs cells slots Q (F0 m (pc + 1) ls (.int v :: rest))) : W p l e R s m args below meth c H locs cells slots Q (F0 m pc ls (.ref (w.2.1 + a) :: rest)) :=
  va_alen hexec hb hK.1 (hX.one ha he) 0 t0 rfl ht hv hdg kk
theorem x_iast (hexec : p.tables.exec = Jvm.exec) (hb : c.code = cc) (hK : KN G s) (hW : WOK w) (hX : MR G w x H) (hS : va_S w.2.2.2.1 s.heap H locs) (ha : a < w.1) {n : Nat} (he : ∀ f, w.2.2.1 a f = .inl (G.2 0, n, .inl f)) {i v : Int32} {j : Nat} (hi : i = nI j) (hj : j < n) (hn : n < 2 ^ 31) (hdg : decode cc pc = .ok (.iastore, 1))
    (kk : ∀ (H1 : Heap) (locs1 : List Loc), MR G w (mst x a j v) H1 → va_S w.2.2.2.1 s.heap H1 locs1 → W p l e R s m args below meth c H1 locs1 cells slots Q (F0 m (pc + 1) ls rest)) : W p l e R s m args below meth c H locs cells slots Q (F0 m pc ls (.int v :: .int i :: .ref (w.2.1 + a) :: rest)) := by
  subst hi
  have hc : (nI j).toNatClampNeg = j := nI_clamp (by omega)
  have hin := vp_in_nI hj hn
  refine W.iast hexec hb (hX.one ha (he _) 0 _ rfl) ((hK.1.2 0 _ rfl).1 n (fun j => .int (x a j))) (fun q => by cases q) (by show ¬ (nI j < 0 ∨ (arrV _ _ _).slots.size ≤ _); rw [arrV_size]; exact hin) rfl rfl hdg fun H1 e z oq => ?_
  refine kk H1 _ (hX.put ?_ oq) (hS.put z oq (hW.1 a ha))
  rw [he]
  show H1[w.2.1 + a]? = some (vp_cell _ _)
  rw [e, hc]
  rw [vp_cell_i, vp_cell_i, arrV_store]
  congr 2
  funext q
  by_cases hq : q = j
  · subst hq
    simp [updV, upd]
  · simp [updV, upd, hq]
theorem x_bast (hexec : p.tables.exec = Jvm.exec) (hb : c.code = cc) (hK : KN G s) (hW : WOK w) (hX : MR G w x H) (hS : va_S w.2.2.2.1 s.heap H locs) (ha : a < w.1) {n : Nat} (he : ∀ f, w.2.2.1 a f = .inl (G.2 1, n, .inl f)) {i v : Int32} {j : Nat} (hi : i = nI j) (hj : j < n) (hn : n < 2 ^ 31) (hdg : decode cc pc = .ok (.bastore, 1))
    (kk : ∀ (H1 : Heap) (locs1 : List Loc), MR G w (mst x a j (v.toInt8.toInt32)) H1 → va_S w.2.2.2.1 s.heap H1 locs1 → W p l e R s m args below meth c H1 locs1 cells slots Q (F0 m (pc + 1) ls rest)) : W p l e R s m args below meth c H locs cells slots Q (F0 m pc ls (.int v :: .int i :: .ref (w.2.1 + a) :: rest)) := by
  subst hi
  have hc : (nI j).toNatClampNeg = j := nI_clamp (by omega)
  have hin := vp_in_nI hj hn
  refine W.bast hexec hb (hX.one ha (he _) 0 _ rfl) ((hK.1.2 1 _ rfl).1 n (fun j => .int (x a j))) (fun q => by cases q) (by show ¬ (nI j < 0 ∨ (arrV _ _ _).slots.size ≤ _); rw [arrV_size]; exact hin) rfl rfl hdg fun H1 e z oq => ?_
  refine kk H1 _ (hX.put ?_ oq) (hS.put z oq (hW.1 a ha))
  rw [he]
  show H1[w.2.1 + a]? = some (vp_cell _ _)
  rw [e, hc]
  rw [vp_cell_i, vp_cell_i, arrV_store]
  congr 2
  funext q
  by_cases hq : q = j
  · subst hq
    simp [updV, upd]
    try rfl
  · simp [updV, upd, hq]
/-- behind a call that answers v and leaves the memory as it was -/
theorem x_ip {v : Int32} (hr : va_Run p l e R s m args below meth c H locs cells slots 0 0 (F0 m pc ls st0) rest (va_Qi (fun r u => r = v ∧ u = x) (XB G w) w.2.2.2.1 aa) w.2.2.2.1) (hS : va_S w.2.2.2.1 s.heap H locs)
    (kk : ∀ (H1 : Heap) (locs1 : List Loc), MR G w x H1 → va_S w.2.2.2.1 s.heap H1 locs1 → W p l e R s m args below meth c H1 locs1 cells slots Q (F0 m (pc + 3) ls (.int v :: rest))) : W p l e R s m args below meth c H locs cells slots Q (F0 m pc ls st0) := by
  refine va_calli hr hS (fun _ _ h => h) (fun _ h => h) (fun r u t H1 locs1 ht hvm hp hB hz hk hS1 => ?_)
  obtain ⟨rfl, rfl⟩ := hp
  have hB1 : MR G w u t.heap := hB
  rw [ht] at hB1
  exact kk H1 locs1 hB1 hS1
/-- behind a call whose answer and memory are told by 'post' -/
theorem x_if {post : Int32 → Mem → Prop} (hr : va_Run p l e R s m args below meth c H locs cells slots 0 0 (F0 m pc ls st0) rest (va_Qi post (XB G w) w.2.2.2.1 aa) w.2.2.2.1) (hS : va_S w.2.2.2.1 s.heap H locs)
    (kk : ∀ (r : Int32) (u : Mem) (H1 : Heap) (locs1 : List Loc), post r u → MR G w u H1 → va_S w.2.2.2.1 s.heap H1 locs1 → W p l e R s m args below meth c H1 locs1 cells slots Q (F0 m (pc + 3) ls (.int r :: rest))) : W p l e R s m args below meth c H locs cells slots Q (F0 m pc ls st0) := by
  refine va_calli hr hS (fun _ _ h => h) (fun _ h => h) (fun r u t H1 locs1 ht hvm hp hB hz hk hS1 => ?_)
  have hB1 : MR G w u t.heap := hB
  rw [ht] at hB1
  exact kk r u H1 locs1 hp hB1 hS1
theorem x_vf {post : Mem → Prop} (hr : va_Run p l e R s m args below meth c H locs cells slots 0 0 (F0 m pc ls st0) rest (va_Qv post (XB G w) w.2.2.2.1 aa) w.2.2.2.1) (hS : va_S w.2.2.2.1 s.heap H locs)
    (kk : ∀ (u : Mem) (H1 : Heap) (locs1 : List Loc), post u → MR G w u H1 → va_S w.2.2.2.1 s.heap H1 locs1 → W p l e R s m args below meth c H1 locs1 cells slots Q (F0 m (pc + 3) ls rest)) : W p l e R s m args below meth c H locs cells slots Q (F0 m pc ls st0) := by
  refine va_callv hr hS (fun _ _ h => h) (fun _ h => h) (fun u t H1 locs1 ht hvm hp hB hz hk hS1 => ?_)
  have hB1 : MR G w u t.heap := hB
  rw [ht] at hB1
  exact kk u H1 locs1 hp hB1 hS1
theorem x_vp {x1 : Mem} (hr : va_Run p l e R s m args below meth c H locs cells slots 0 0 (F0 m pc ls st0) rest (va_Qv (fun u => u = x1) (XB G w) w.2.2.2.1 aa) w.2.2.2.1) (hS : va_S w.2.2.2.1 s.heap H locs)
    (kk : ∀ (H1 : Heap) (locs1 : List Loc), MR G w x1 H1 → va_S w.2.2.2.1 s.heap H1 locs1 → W p l e R s m args below meth c H1 locs1 cells slots Q (F0 m (pc + 3) ls rest)) : W p l e R s m args below meth c H locs cells slots Q (F0 m pc ls st0) :=
  x_vf hr hS (fun u H1 locs1 hp hX hS => by subst hp; exact kk H1 locs1 hX hS)
/-- an address for an answer: 'va_Qr' with the address told -/
def XR (G : GG) (w : WD) (q : Nat) : Mem → Nat → State → Prop := fun u ra U => ra = q ∧ MR G w u U.heap
theorem x_rf {post : Mem → Prop} {q : Nat} (hr : va_Run p l e R s m args below meth c H locs cells slots 0 0 (F0 m pc ls st0) rest (va_Qr post (XR G w q) w.2.2.2.1 aa) w.2.2.2.1) (hS : va_S w.2.2.2.1 s.heap H locs)
    (kk : ∀ (u : Mem) (H1 : Heap) (locs1 : List Loc), post u → MR G w u H1 → va_S w.2.2.2.1 s.heap H1 locs1 → W p l e R s m args below meth c H1 locs1 cells slots Q (F0 m (pc + 3) ls (.ref q :: rest))) : W p l e R s m args below meth c H locs cells slots Q (F0 m pc ls st0) := by
  refine va_callr hr hS (fun _ _ h => h) (fun _ h => h) (fun u ra t H1 locs1 ht hvm hp hB hz hk hS1 => ?_)
  obtain ⟨rfl, hB1⟩ := hB
  rw [ht] at hB1
  exact kk u H1 locs1 hp hB1 hS1
/-- the ends -/
theorem x_iret {post : Int32 → Mem → Prop} {v : Int32} (hexec : p.tables.exec = Jvm.exec) (hb : c.code = cc) (hr : meth.sig.returnType = some .int) (hX : MR G w x H) (hS : va_S w.2.2.2.1 s.heap H locs) (hlocks : meth.locks = false) (hdg : decode cc pc = .ok (.ireturn, 1)) (hp : post v x) : W p l e R s m args below meth c H locs cells slots (MQ below (va_Qi post (XB G w) w.2.2.2.1) args s cells slots w.2.2.2.1) (F0 m pc ls [.int v]) :=
  W.iret (v := v) hexec hb hr (fun t ht _ => ⟨⟨v, x, rfl, hp, (by show MR G w x t.heap; rw [ht]; exact hX)⟩, hS.F ht⟩) hS.2.2 hdg hlocks
theorem x_zret {post : Int32 → Mem → Prop} {v : Int32} {ty : FieldType} (hexec : p.tables.exec = Jvm.exec) (hb : c.code = cc) (hr : meth.sig.returnType = some ty) (hn : narrow ty (.int v) = .int v) (hX : MR G w x H) (hS : va_S w.2.2.2.1 s.heap H locs) (hlocks : meth.locks = false) (hdg : decode cc pc = .ok (.ireturn, 1)) (hp : post v x) : W p l e R s m args below meth c H locs cells slots (MQ below (va_Qi post (XB G w) w.2.2.2.1) args s cells slots w.2.2.2.1) (F0 m pc ls [.int v]) :=
  W.zret (v := v) hexec hb hr hn (fun t ht _ => ⟨⟨v, x, rfl, hp, (by show MR G w x t.heap; rw [ht]; exact hX)⟩, hS.F ht⟩) hS.2.2 hdg hlocks
theorem x_vret {post : Mem → Prop} (hexec : p.tables.exec = Jvm.exec) (hb : c.code = cc) (hr : meth.sig.returnType = none) (hX : MR G w x H) (hS : va_S w.2.2.2.1 s.heap H locs) (hlocks : meth.locks = false) (hdg : decode cc pc = .ok (.return_, 1)) (hp : post x) : W p l e R s m args below meth c H locs cells slots (MQ below (va_Qv post (XB G w) w.2.2.2.1) args s cells slots w.2.2.2.1) (F0 m pc ls []) :=
  W.vret hexec hb hr (fun t ht _ => ⟨⟨x, rfl, hp, (by show MR G w x t.heap; rw [ht]; exact hX)⟩, hS.F ht⟩) hS.2.2 hdg hlocks
theorem x_aret {post : Mem → Prop} {q : Nat} {n : String} (hexec : p.tables.exec = Jvm.exec) (hb : c.code = cc) (hr : meth.sig.returnType = some (.object n)) (hX : MR G w x H) (hS : va_S w.2.2.2.1 s.heap H locs) (hlocks : meth.locks = false) (hdg : decode cc pc = .ok (.areturn, 1)) (hp : post x) : W p l e R s m args below meth c H locs cells slots (MQ below (va_Qr post (XR G w q) w.2.2.2.1) args s cells slots w.2.2.2.1) (F0 m pc ls [.ref q]) :=
  W.aret (v := .ref q) hexec hb hr (Or.inl ⟨n, rfl⟩) (Or.inr ⟨q, rfl⟩) (fun t ht _ => ⟨⟨x, q, rfl, hp, rfl, (by show MR G w x t.heap; rw [ht]; exact hX)⟩, hS.F ht⟩) hS.2.2 hdg hlocks
/-- a branch upon a bit -/
theorem x_ifeq (hexec : p.tables.exec = Jvm.exec) (hb : c.code = cc) {b : Bool} {off : Int} {tgt : Nat} (hdg : decode cc pc = .ok (.ifCond .eq off, 3)) (ht : (pc : Int) + off = (tgt : Int))
    (kt : b = false → W p l e R s m args below meth c H locs cells slots Q (F0 m tgt ls rest)) (kf : b = true → W p l e R s m args below meth c H locs cells slots Q (F0 m (pc + 3) ls rest)) : W p l e R s m args below meth c H locs cells slots Q (F0 m pc ls (.int (bI b) :: rest)) := by
  refine lv_if_eq hexec hb hdg ht (fun h => ?_) (fun h => ?_)
  · cases b with
    | false => exact kt rfl
    | true => exact absurd h (by decide)
  · cases b with
    | true => exact kf rfl
    | false => exact absurd rfl h
theorem x_ifne (hexec : p.tables.exec = Jvm.exec) (hb : c.code = cc) {b : Bool} {off : Int} {tgt : Nat} (hdg : decode cc pc = .ok (.ifCond .ne off, 3)) (ht : (pc : Int) + off = (tgt : Int))
    (kt : b = true → W p l e R s m args below meth c H locs cells slots Q (F0 m tgt ls rest)) (kf : b = false → W p l e R s m args below meth c H locs cells slots Q (F0 m (pc + 3) ls rest)) : W p l e R s m args below meth c H locs cells slots Q (F0 m pc ls (.int (bI b) :: rest)) := by
  refine lv_if_ne hexec hb hdg ht (fun h => ?_) (fun h => ?_)
  · cases b with
    | true => exact kt rfl
    | false => exact absurd rfl h
  · cases b with
    | false => exact kf rfl
    | true => exact absurd h (by decide)
end XW
