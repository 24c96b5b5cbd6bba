/-! MAKING: a world of n cells at B, B + 1 .., each what z tells; new cells come at its end -/
def zs (z : Nat → va_E) (a : Nat) (e : va_E) : Nat → va_E := fun b => if b = a then e else z b
theorem zs_eq (z : Nat → va_E) (a : Nat) (e : va_E) : zs z a e a = e := if_pos rfl
theorem zs_ne {z : Nat → va_E} {a b : Nat} {e : va_E} (h : b ≠ a) : zs z a e b = z b := if_neg h
def blkF (B : Nat) : Nat → Prop := fun q => B ≤ q
def MZ (G : GG) (B n : Nat) (z : Nat → va_E) (H : Heap) : Prop := H.size = B + n ∧ ∀ a, a < n → va_at G.1 vwCl (B + a, z a) H
def AOs (U : State) : Prop := va_AO "WindTaken$Mill" U ∧ va_AO "WindTaken$Quarter" U ∧ va_AO "WindTaken$Ridge" U ∧ va_AO "WindTaken$Row" U
theorem AOs.moved {u U : State} (h : u.vm.Alike U.vm) (k : AOs u) : AOs U := ⟨k.1.moved h, k.2.1.moved h, k.2.2.1.moved h, k.2.2.2.moved h⟩
def KA (G : GG) (U : State) : Prop := KN G U ∧ AOs U
def ZP (G : GG) (B n : Nat) (z : Nat → va_E) (av : List Value) : Array Value → State → Prop := va_Pc av (fun U => MZ G B n z U.heap ∧ KA G U)
def ZB (G : GG) (B n : Nat) : (Nat → va_E) → State → Prop := fun z U => MZ G B n z U.heap
theorem z_pre {G : GG} {B n : Nat} {z : Nat → va_E} {H : Heap} {s : State} (hX : MZ G B n z H) (hK : KA G s) (av : List Value) : FrameBlind (ZP G B n z av) ∧ ∀ U : State, U.heap = H → s.WarmedH U.vm → ZP G B n z av av.toArray U :=
  ⟨fun a U g mk q => ⟨q.1, q.2.1, KN.same (u := U) (U := U.calling g mk a) rfl q.2.2.1, q.2.2.2.moved (U := U.calling g mk a) (Vm.Alike.refl U.vm)⟩, fun U hU hV => ⟨rfl, by rw [hU]; exact hX, KN.warm hV hK.1, hK.2.moved hV.alike⟩⟩
theorem MZ.cg {G : GG} {B n : Nat} {z y : Nat → va_E} {H : Heap} (h : MZ G B n z H) (hz : ∀ a, a < n → z a = y a) : MZ G B n y H := ⟨h.1, fun a ha => by rw [← hz a ha]; exact h.2 a ha⟩
theorem MZ.rf {G : GG} {B n a N : Nat} {z : Nat → va_E} {H : Heap} {cA : ClassId} {f g : Nat → Option Nat} (h : MZ G B n z H) (ha : a < n) (hz : z a = .inl (cA, N, rfs f)) (hf : ∀ j, j < N → f j = g j) : MZ G B n (zs z a (.inl (cA, N, rfs g))) H := by
  refine ⟨h.1, fun b hb => ?_⟩
  by_cases e : b = a
  · subst e
    rw [zs_eq]
    have h1 := h.2 b hb
    rw [hz] at h1
    have h2 : H[B + b]? = some (vp_cell cA (N, rfs f)) := h1
    show H[B + b]? = some (vp_cell cA (N, rfs g))
    rw [h2, vp_cell_q, vp_cell_q]
    congr 1
    unfold arrV
    congr 1
    apply Array.ext
    · simp
    · intro i h1 h2
      simp at h1
      simp [hf i h1]
  · rw [zs_ne e]
    exact h.2 b hb
section MKS
variable {p : Program} {l : Launch} {e : Env} {R : Room} {s : State} {m : MethodId} {args : Array Value} {below : List Frame} {meth : Method} {c : Code} {H : Heap} {locs : List Loc} {cells slots mc ms : Nat} {Q : State → Prop}
variable {cc : ByteArray} {pc : Nat} {ls : Array Slot} {rest st0 : List Value} {G : GG} {B n a : Nat} {z : Nat → va_E} {aa : Array Value}
theorem MZ.grow {H1 : Heap} {x : va_E} (hX : MZ G B n z H) (hS : va_S (blkF B) s.heap H locs) (z1 : H1.size = B + n + 1) (o1 : ∀ q : Nat, q < B + n → H1[q]? = H[q]?) (hn : va_at G.1 vwCl (B + n, x) H1) : MZ G B (n + 1) (zs z n x) H1 ∧ va_S (blkF B) s.heap H1 locs := by
  have hz := hX.1
  refine ⟨⟨z1, fun b hb => ?_⟩, Nat.le_trans hS.1 (by omega), fun q h1 h2 => (o1 q (by have := hS.1; omega)).trans (hS.2.1 q h1 h2), hS.2.2⟩
  by_cases e : b = n
  · subst e; rw [zs_eq]; exact hn
  · rw [zs_ne e]
    exact (hX.2 b (by omega)).kept (o1 _ (by show B + b < B + n; omega))
theorem MZ.put {H1 : Heap} {x : va_E} {k : Nat} (hX : MZ G B n z H) (hS : va_S (blkF B) s.heap H locs) (z1 : H1.size = H.size) (oq : ∀ q : Nat, q ≠ B + a → H1[q]? = H[q]?) (hn : va_at G.1 vwCl (B + a, x) H1) : MZ G B n (zs z a x) H1 ∧ va_S (blkF B) s.heap H1 (locs ++ [⟨B + a, k⟩]) := by
  refine ⟨⟨z1.trans hX.1, fun b hb => ?_⟩, hS.put z1 oq (Nat.le_add_right B a)⟩
  by_cases e : b = a
  · subst e; rw [zs_eq]; exact hn
  · rw [zs_ne e]
    exact (hX.2 b hb).kept (oq _ (by show B + b ≠ B + a; omega))
theorem z_new (hexec : p.tables.exec = Jvm.exec) (hb : c.code = cc) {own C : String} {T : u_T} {N ci index : Nat} {Ts : List Cond} (hts : ∀ w ∈ Ts, w.before args s = true) (hin : ∀ w ∈ u_ws C T N, w ∈ Ts) (ty : Nat → FieldType) (hty : ∀ k, k < N → parseFieldDescriptor (T k).2.2.1 = some (ty k)) (hown : s.vm.findClass own = some m.cls) (hcl : (Cond.classLink own index C).before args s = true) (hinst : (Cond.instantiable C N).before args s = true) (hini : (Cond.initialized C).before args s = true)
    (hK : KN G s) (hX : MZ G B n z H) (hS : va_S (blkF B) s.heap H locs) (hc : vwCl[ci]? = some (C, T, N)) {fs : List Value} (hfs : ∀ j, j < N → defaultValue (ty j) = vp_V fs j) (hcells : cells + 1 ≤ R.cells) (hslots : slots + N ≤ R.slots) (hdg : decode cc pc = .ok (.new index, 3))
    (kk : ∀ H1 : Heap, MZ G B (n + 1) (zs z n (.inr (ci, fs))) H1 → va_S (blkF B) s.heap H1 locs → W p l e R s m args below meth c H1 locs (cells + 1) (slots + N) Q (F0 m (pc + 3) ls (.ref (B + n) :: rest))) : W p l e R s m args below meth c H locs cells slots Q (F0 m pc ls rest) := by
  have hKn := hK.1.1 ci _ hc
  refine W.newcK hexec hb hown hcl hinst hini rfl hdg hcells hslots hKn.2.1 hX.1 fun H1 kC hkC e1 z1 o1 => ?_
  obtain ⟨g1, g2⟩ := hX.grow hS z1 o1 (show va_at G.1 vwCl (B + n, .inr (ci, fs)) H1 from ⟨_, hc, (u_born ty hts hin hKn hkC e1 hty).to hfs⟩)
  exact kk H1 g1 g2
theorem z_newa (hexec : p.tables.exec = Jvm.exec) (hb : c.code = cc) {atype : ArrayType} (harr : (Cond.arrayClass (newarray.typeOf atype)).before args s = true) {t0 : Nat} {cA : ClassId} (ht : (tyl G)[t0]? = some (cA, newarray.typeOf atype)) (hK : KN G s) (hX : MZ G B n z H) (hS : va_S (blkF B) s.heap H locs)
    {k : Int32} {N : Nat} {a0 : vp_A} (ha : ∀ cA : ClassId, vp_cell cA a0 = arrV cA N (fun _ => defaultValue (newarray.typeOf atype))) (hn : ¬ k < 0) (hN : k.toNatClampNeg = N) (hbytes : N * componentBytes (newarray.typeOf atype) ≤ 536870912) (hcells : cells + 1 ≤ R.cells) (hslots : slots + N ≤ R.slots) (hdg : decode cc pc = .ok (.newarray atype, 2))
    (kk : ∀ H1 : Heap, MZ G B (n + 1) (zs z n (.inl (cA, a0))) H1 → va_S (blkF B) s.heap H1 locs → W p l e R s m args below meth c H1 locs (cells + 1) (slots + N) Q (F0 m (pc + 2) ls (.ref (B + n) :: rest))) : W p l e R s m args below meth c H locs cells slots Q (F0 m pc ls (.int k :: rest)) := by
  refine va_newaK hexec hb harr rfl hdg rfl hn hN hbytes hcells hslots hX.1 fun H1 cA1 e1 z1 o1 hAr hNm => ?_
  have hc : cA1 = cA := by
    have h2 := (hK.1.2 t0 _ ht).2
    have h3 : s.vm.findClass ("[" ++ (newarray.typeOf atype).toString) = some cA := by cases atype <;> exact h2
    exact Option.some.inj (hNm.symm.trans h3)
  subst hc
  obtain ⟨g1, g2⟩ := hX.grow (x := .inl (cA1, a0)) hS z1 o1 (by show H1[B + n]? = some (vp_cell _ _); rw [ha]; exact e1)
  exact kk H1 g1 g2
theorem z_newq (hexec : p.tables.exec = Jvm.exec) (hb : c.code = cc) {own C : String} {index : Nat} (hown : s.vm.findClass own = some m.cls) (hclink : (Cond.classLink own index C).before args s = true) (hover : va_AO C s) {t0 : Nat} {cA : ClassId} (ht : (tyl G)[t0]? = some (cA, .object C)) (hK : KN G s) (hX : MZ G B n z H) (hS : va_S (blkF B) s.heap H locs)
    {k : Int32} {N : Nat} (hn : ¬ k < 0) (hN : k.toNatClampNeg = N) (hbytes : N * 4 ≤ 536870912) (hcells : cells + 1 ≤ R.cells) (hslots : slots + N ≤ R.slots) (hdg : decode cc pc = .ok (.anewarray index, 3))
    (kk : ∀ H1 : Heap, MZ G B (n + 1) (zs z n (.inl (cA, N, rfs (fun _ => none)))) H1 → va_S (blkF B) s.heap H1 locs → W p l e R s m args below meth c H1 locs (cells + 1) (slots + N) Q (F0 m (pc + 3) ls (.ref (B + n) :: rest))) : W p l e R s m args below meth c H locs cells slots Q (F0 m pc ls (.int k :: rest)) := by
  subst hN
  refine W.anew hexec hb hown hclink (va_AO.use hover) rfl hdg rfl hn hbytes hcells hslots fun cA1 kA comp f1 f2 f3 f4 => ?_
  have hc : cA1 = cA := by
    obtain ⟨kA2, comp2, -, -, -, h4⟩ := (hK.1.2 t0 _ ht).2
    exact Option.some.inj (f1.symm.trans h4)
  subst hc
  have hz := hX.1
  rw [hz]
  generalize hH1 : H.push ({ cls := cA1, slots := Array.replicate k.toNatClampNeg .null, vm := .none } : Cell) = H1
  have z1 : H1.size = B + n + 1 := by rw [← hH1, Array.size_push, hz]
  have e1 : H1[B + n]? = some (arrV cA1 k.toNatClampNeg (fun _ => .null)) := by rw [← hH1, ← hz, Array.getElem?_push_size, ← arrV_new]
  have o1 : ∀ q : Nat, q < B + n → H1[q]? = H[q]? := fun q hq => by rw [← hH1, Array.getElem?_push, if_neg (by omega)]
  obtain ⟨g1, g2⟩ := hX.grow (x := .inl (cA1, k.toNatClampNeg, rfs (fun _ => none))) hS z1 o1 (by show H1[B + n]? = some (vp_cell _ _); rw [vp_cell_q]; exact e1)
  exact kk H1 g1 g2
theorem z_putF (hexec : p.tables.exec = Jvm.exec) (hb : c.code = cc) {own ref C : String} {T : u_T} {N ci index : Nat} {Ts : List Cond} (hts : ∀ w ∈ Ts, w.before args s = true) (hin : ∀ w ∈ u_ws C T N, w ∈ Ts) (ty0 : Nat → FieldType) (hty : ∀ k, k < N → parseFieldDescriptor (T k).2.2.1 = some (ty0 k)) (hnm : ∀ a, a < N → ∀ b, b < N → a ≠ b → (T a).2.1 ≠ (T b).2.1) (hown : s.vm.findClass own = some m.cls) (hK : KN G s) (hX : MZ G B n z H) (hS0 : va_S (blkF B) s.heap H locs) (ha : a < n) {fs : List Value} (he : z a = .inr (ci, fs)) (hc : vwCl[ci]? = some (C, T, N)) (k : Nat) (hk : k < N) (hlink : (Cond.fieldLink own index ref (T k).2.1 (T k).2.2.1).before args s = true) (hsame : ∀ x, s.fieldFound? (T k).1 (T k).2.1 (T k).2.2.1 = some x → s.fieldFound? ref (T k).2.1 (T k).2.2.1 = some x) (hfin : (T k).2.2.2 = true) (hin2 : meth.name = "<init>") (hdecl : (T k).1 = own) {ty : FieldType} {v : Value} (hd : parseFieldDescriptor (T k).2.2.1 = some ty) (hn : narrow ty v = v) (hfit : fits ty v = true) (hl : k < fs.length)
    (hdg : decode cc pc = .ok (.putfield index, 3)) (kk : ∀ (H1 : Heap) (locs1 : List Loc), MZ G B n (zs z a (.inr (ci, fs.set k v))) H1 → va_S (blkF B) s.heap H1 locs1 → W p l e R s m args below meth c H1 locs1 cells slots Q (F0 m (pc + 3) ls rest)) : W p l e R s m args below meth c H locs cells slots Q (F0 m pc ls (v :: .ref (B + a) :: rest)) := by
  have hap := va_apart (own := own) hts hin ty0 hty hnm hK.1 hc
  have h0 := hX.2 a ha
  rw [he] at h0
  obtain ⟨r, h1, cell, q1, q2, q3, q4⟩ := h0
  have hr : r = (C, T, N) := Option.some.inj (h1.symm.trans hc)
  subst hr
  obtain ⟨hS, hfc, kC, hkC, hkind⟩ := hK.1.1 ci _ hc
  obtain ⟨cf, kf, fi, f, hi, hsl⟩ := hS k hk
  have hlay := hts _ (hin _ (u_in_lay hk))
  unfold u_lay at hlay
  rw [if_pos hfin] at hlay
  have hst := (u_facts hfc hkC (u_lays hts hin hk) hi).1
  have hcf : m.cls = cf := by
    obtain ⟨_, _, c', _, _, _, -, -, hf', -, -, -, hown2, -⟩ := Cond.laysFinal_spec hlay
    have e1 : c' = cf := by have := hi.symm.trans hf'; simp at this; exact this.1.symm
    rw [hdecl] at hown2
    rw [← e1]; exact Option.some.inj (hown.symm.trans hown2)
  have h6 := u_fits hfc hkC hkind (Or.inr hlay) hi hd hn hfit
  refine W.putFinK hexec hb hown hlink (hsame _ hi) hst hcf hin2 (by rw [q2]; exact h6) q1 q3 (by rw [hsl]; exact k2_hasslot (q4 k hk)) rfl rfl hdg fun H' e1 e2 e3 => ?_
  rw [hsl] at e1 ⊢
  obtain ⟨g1, g2⟩ := hX.put (x := .inr (ci, fs.set k v)) (k := G.1.2 ci k) hS0 e2 e3 ⟨_, hc, t_OB.to (V := updV (vp_V fs) k v) ⟨_, e1, q2, q3, t_set q4 hap hk v⟩ (fun j _ => vp_updV_set hl v j)⟩
  exact kk H' _ g1 g2
theorem z_put (hexec : p.tables.exec = Jvm.exec) (hb : c.code = cc) {own ref C : String} {T : u_T} {N ci index : Nat} {Ts : List Cond} (hts : ∀ w ∈ Ts, w.before args s = true) (hin : ∀ w ∈ u_ws C T N, w ∈ Ts) (ty0 : Nat → FieldType) (hty : ∀ k, k < N → parseFieldDescriptor (T k).2.2.1 = some (ty0 k)) (hnm : ∀ a, a < N → ∀ b, b < N → a ≠ b → (T a).2.1 ≠ (T b).2.1) (hown : s.vm.findClass own = some m.cls) (hK : KN G s) (hX : MZ G B n z H) (hS0 : va_S (blkF B) s.heap H locs) (ha : a < n) {fs : List Value} (he : z a = .inr (ci, fs)) (hc : vwCl[ci]? = some (C, T, N)) (k : Nat) (hk : k < N) (hlink : (Cond.fieldLink own index ref (T k).2.1 (T k).2.2.1).before args s = true) (hsame : ∀ x, s.fieldFound? (T k).1 (T k).2.1 (T k).2.2.1 = some x → s.fieldFound? ref (T k).2.1 (T k).2.2.1 = some x) (hfin : (T k).2.2.2 = false) {ty : FieldType} {v : Value} (hd : parseFieldDescriptor (T k).2.2.1 = some ty) (hn : narrow ty v = v) (hfit : fits ty v = true) (hl : k < fs.length)
    (hdg : decode cc pc = .ok (.putfield index, 3)) (kk : ∀ (H1 : Heap) (locs1 : List Loc), MZ G B n (zs z a (.inr (ci, fs.set k v))) H1 → va_S (blkF B) s.heap H1 locs1 → W p l e R s m args below meth c H1 locs1 cells slots Q (F0 m (pc + 3) ls rest)) : W p l e R s m args below meth c H locs cells slots Q (F0 m pc ls (v :: .ref (B + a) :: rest)) := by
  have hap := va_apart (own := own) hts hin ty0 hty hnm hK.1 hc
  have h0 := hX.2 a ha
  rw [he] at h0
  obtain ⟨r, h1, cell, q1, q2, q3, q4⟩ := h0
  have hr : r = (C, T, N) := Option.some.inj (h1.symm.trans hc)
  subst hr
  obtain ⟨hS, hfc, kC, hkC, hkind⟩ := hK.1.1 ci _ hc
  obtain ⟨cf, kf, fi, f, hi, hsl⟩ := hS k hk
  have hlay := hts _ (hin _ (u_in_lay hk))
  unfold u_lay at hlay
  rw [if_neg (by rw [hfin]; decide)] at hlay
  have hst := (u_facts hfc hkC (u_lays hts hin hk) hi).1
  have h6 := u_store hfc hkC hkind hlay hi hd hn hfit
  refine W.putK hexec hb (f := f) ⟨hown, hlink, ⟨_, _, _, hsame _ hi⟩, hst⟩ (by rw [q2]; exact h6) q1 q3 (by rw [hsl]; exact k2_hasslot (q4 k hk)) rfl rfl hdg fun H' e1 e2 e3 => ?_
  rw [hsl] at e1 ⊢
  obtain ⟨g1, g2⟩ := hX.put (x := .inr (ci, fs.set k v)) (k := G.1.2 ci k) hS0 e2 e3 ⟨_, hc, t_OB.to (V := updV (vp_V fs) k v) ⟨_, e1, q2, q3, t_set q4 hap hk v⟩ (fun j _ => vp_updV_set hl v j)⟩
  exact kk H' _ g1 g2
theorem z_get (hexec : p.tables.exec = Jvm.exec) (hb : c.code = cc) {own ref C : String} {T : u_T} {N ci index : Nat} {Ts : List Cond} (hts : ∀ w ∈ Ts, w.before args s = true) (hin : ∀ w ∈ u_ws C T N, w ∈ Ts) (hown : s.vm.findClass own = some m.cls) (hK : KN G s) (hX : MZ G B n z H) (ha : a < n) {fs : List Value} (he : z a = .inr (ci, fs)) (hc : vwCl[ci]? = some (C, T, N)) (k : Nat) (hk : k < N) (hlink : (Cond.fieldLink own index ref (T k).2.1 (T k).2.2.1).before args s = true) (hsame : ∀ x, s.fieldFound? (T k).1 (T k).2.1 (T k).2.2.1 = some x → s.fieldFound? ref (T k).2.1 (T k).2.2.1 = some x) {v : Value} (hv : fs[k]? = some v) (hdg : decode cc pc = .ok (.getfield index, 3))
    (kk : W p l e R s m args below meth c H locs cells slots Q (F0 m (pc + 3) ls (v :: rest))) : W p l e R s m args below meth c H locs cells slots Q (F0 m pc ls (.ref (B + a) :: rest)) := by
  have hP : va_P G.1 vwCl [(B + a, .inr (ci, fs))] H := by
    intro k q hk
    match k, hk with
    | 0, hk => cases hk; rw [← he]; exact hX.2 a ha
    | k + 1, hk => simp at hk
  exact va_get hexec hb hts hin hown hK.1 hP 0 rfl hc k hk hlink hsame hv hdg kk
theorem z_astq (hexec : p.tables.exec = Jvm.exec) (hb : c.code = cc) (hK : KN G s) (hX : MZ G B n z H) (hS : va_S (blkF B) s.heap H locs) {d : Nat} (ha : a < n) (hd : d < n) {t0 ci : Nat} {cA : ClassId} {r : vw_C} {N : Nat} {vs : List Value} {f : Nat → Option Nat} (hz : z a = .inl (cA, N, rfs f)) (ht : (tyl G)[t0]? = some (cA, .object r.1)) (hv : z d = .inr (ci, vs)) (hc : vwCl[ci]? = some r) {i : Int32} {j : Nat} (hi : i = nI j) (hj : j < N) (hN : N < 2 ^ 31) (hdg : decode cc pc = .ok (.aastore, 1))
    (kk : ∀ (H1 : Heap) (locs1 : List Loc), MZ G B n (zs z a (.inl (cA, N, rfs (fun k => if k = j then some (B + d) else f k)))) H1 → va_S (blkF B) s.heap H1 locs1 → W p l e R s m args below meth c H1 locs1 cells slots Q (F0 m (pc + 1) ls rest)) : W p l e R s m args below meth c H locs cells slots Q (F0 m pc ls (.ref (B + d) :: .int i :: .ref (B + a) :: rest)) := by
  subst hi
  have hcl : (nI j).toNatClampNeg = j := nI_clamp (by omega)
  have h0 := hX.2 a ha
  rw [hz] at h0
  have hv0 := hX.2 d hd
  rw [hv] at hv0
  obtain ⟨r', hr', cellV, g1, g2, g3, -⟩ := hv0
  have hcls := (hK.1.1 ci r hc).2
  obtain ⟨kA, comp, k1, k2, k3, -⟩ := (hK.1.2 t0 _ ht).2
  have hcomp : comp = G.1.1 ci := Option.some.inj (k3.symm.trans hcls.1)
  subst hcomp
  obtain ⟨kC, hkC, -⟩ := hcls.2
  refine W.aast hexec hb h0 (fun q h => by cases h) (fun h => by cases h) k1 k2 rfl hkC ⟨nI_pos (by omega), by show _ < (arrV _ _ _).slots.size; rw [arrV_size, hcl]; exact hj⟩ g1 (fun q h => by rw [g3] at h; cases h) (by rw [g2]; exact hkC) (by rw [g2]; exact va_assign hcls) rfl rfl hdg fun H1 e z1 oq => ?_
  obtain ⟨q1, q2⟩ := hX.put (x := .inl (cA, N, rfs (fun k => if k = j then some (B + d) else f k))) (k := (nI j).toNatClampNeg) hS z1 oq (by
    show H1[B + a]? = some (vp_cell _ _)
    rw [e, hcl]
    rw [vp_cell_q, vp_cell_q, arrV_store]
    congr 2
    funext q
    by_cases hq : q = j
    · subst hq
      simp [updV, va_rf]
    · simp [updV, hq])
  exact kk H1 _ q1 q2
theorem z_iast (hexec : p.tables.exec = Jvm.exec) (hb : c.code = cc) (hK : KN G s) (hX : MZ G B n z H) (hS : va_S (blkF B) s.heap H locs) (ha : a < n) {N : Nat} {f : Nat → Int32} (hz : z a = .inl (G.2 0, N, .inl f)) {i v : Int32} {j : Nat} (hi : i = nI j) (hj : j < N) (hN : N < 2 ^ 31) (hdg : decode cc pc = .ok (.iastore, 1))
    (kk : ∀ (H1 : Heap) (locs1 : List Loc), MZ G B n (zs z a (.inl (G.2 0, N, .inl (upd f j v)))) H1 → va_S (blkF B) s.heap H1 locs1 → W p l e R s m args below meth c H1 locs1 cells slots Q (F0 m (pc + 1) ls rest)) : W p l e R s m args below meth c H locs cells slots Q (F0 m pc ls (.int v :: .int i :: .ref (B + a) :: rest)) := by
  subst hi
  have hcl : (nI j).toNatClampNeg = j := nI_clamp (by omega)
  have h0 := hX.2 a ha
  rw [hz] at h0
  refine W.iast hexec hb h0 ((hK.1.2 0 _ rfl).1 N (fun j => .int (f j))) (fun q => by cases q) (by show ¬ (nI j < 0 ∨ (arrV _ _ _).slots.size ≤ _); rw [arrV_size]; exact vp_in_nI hj hN) rfl rfl hdg fun H1 e z1 oq => ?_
  obtain ⟨q1, q2⟩ := hX.put (x := .inl (G.2 0, N, .inl (upd f j v))) (k := (nI j).toNatClampNeg) hS z1 oq (by
    show H1[B + a]? = some (vp_cell _ _)
    rw [e, hcl]
    rw [vp_cell_i, vp_cell_i, arrV_store]
    congr 2
    funext q
    by_cases hq : q = j
    · subst hq
      simp [updV, upd]
    · simp [updV, upd, hq])
  exact kk H1 _ q1 q2
/-- behind a constructor's call -/
theorem z_vf {n' : Nat} {post : (Nat → va_E) → Prop} (hr : va_Run p l e R s m args below meth c H locs cells slots mc ms (F0 m pc ls st0) rest (va_Qv post (ZB G B n') (blkF B) aa) (blkF B)) (hS : va_S (blkF B) s.heap H locs)
    (kk : ∀ (y : Nat → va_E) (H1 : Heap) (locs1 : List Loc), post y → MZ G B n' y H1 → va_S (blkF B) s.heap H1 locs1 → W p l e R s m args below meth c H1 locs1 (cells + mc) (slots + ms) Q (F0 m (pc + 3) ls rest)) : W p l e R s m args below meth c H locs cells slots Q (F0 m pc ls st0) := by
  refine va_callv hr hS (fun _ _ h => h) (fun _ h => h) (fun u t H1 locs1 ht hvm hp hB hz hk hS1 => ?_)
  have hB1 : MZ G B n' u t.heap := hB
  rw [ht] at hB1
  exact kk u H1 locs1 hp hB1 hS1
theorem z_vret {n' : Nat} {post : (Nat → va_E) → Prop} (hexec : p.tables.exec = Jvm.exec) (hb : c.code = cc) (hr : meth.sig.returnType = none) (hX : MZ G B n' z H) (hS : va_S (blkF B) s.heap H locs) (hlocks : meth.locks = false) (hdg : decode cc pc = .ok (.return_, 1)) (hp : post z) : W p l e R s m args below meth c H locs cells slots (MQ below (va_Qv post (ZB G B n') (blkF B)) args s cells slots (blkF B)) (F0 m pc ls []) :=
  W.vret hexec hb hr (fun t ht _ => ⟨⟨z, rfl, hp, (by show MZ G B n' z t.heap; rw [ht]; exact hX)⟩, hS.F ht⟩) hS.2.2 hdg hlocks
end MKS
