/-! THE CLAIM OUT OF ONE WALK OF THE LAW'S BODY. Your part is whole_start (and what it stands on); all else here is the same for every law, but numbers. -/
def R_law : String := "WindTakenLaw"
def lw_P (b : Addr) (xs : List Int32) (args : Array Value) (s : State) : Prop := args = #[.ref b] ∧ s.IntsAt b xs ∧ xs.length ≤ 384 ∧ (Jvm.Cond.and given_1 narrow_1).before args s = true
def lw_Q (_ : Array Value) (s : State) (o : Outcome) (t : State) : Prop := o = .returned (some (.int 1)) ∧ Framed s o t [] 600000 7302250
def lw_Z (below : List Frame) (a : Array Value) (s : State) : State → Prop := fun t => ∃ o, t.status = .running ∧ Ended t below o ∧ lw_Q a s o t
/-- the law's own end, with 1 on the stack, nothing written that was there before, its room as the claim has it -/
theorem lw_ret {p : Program} {l : Launch} {e : Env} {s : State} {m : MethodId} {below : List Frame} {meth : Method} {c : Code} {b : Nat} (hx : p.tables.exec = Jvm.exec) (hb : c.code = code) (hr : meth.sig.returnType = ret) (hlocks : meth.locks = false) {pc : Nat} {H : Heap} {ls : Array Slot} (hdg : decode code pc = .ok (.ireturn, 1)) : W p l e room_1 s m #[Value.ref b] below meth c H [] 600000 7302250 (lw_Z below #[Value.ref b] s) (F0 m pc ls [.int 1]) := by
  intro T hT X
  obtain ⟨fs, hret, hrun, hended, hW, hframe⟩ := X.leave (v := some (.int 1)) (hlocks := hlocks) (fun h => by rw [hr] at h; cases h)
  have hmeth' : T.vm.method? m = some meth := X.method'
  refine ⟨T.setFrames fs, ?_, .returned (some (.int 1)), hrun, hended, rfl, ⟨_, rfl⟩, hW, hframe⟩
  jvm_step X.here [X.here.top, hx, hb, hdg, hmeth', hr, ret, narrow_b1]
  (try refine ⟨rfl, ?_⟩); (try refine ⟨rfl, ?_⟩)
  first | (intro acts; rw [hret _ acts rfl rfl rfl]) | rw [hret _ _ rfl rfl rfl]
  exact Steps.refl _
/-- what holds at the law's entry: the machine, the code, the tables' words (any of lw_tbl by 'hts w (by decide +kernel)'), the script of L ints xs at the cell b, what the Statement gives of the start (any of its parts by flat_of_before) -/
def lw_At (p : Program) (s : State) (m : MethodId) (meth : Method) (c : Code) (b L : Nat) (xs : Nat → Int32) : Prop :=
  p.tables.exec = Jvm.exec ∧ c.code = code ∧ meth.sig.returnType = ret ∧ c.maxLocals = 4 ∧ s.vm.findClass R_law = some m.cls ∧ (∀ w ∈ lw_tbl, w.before #[Value.ref b] s = true) ∧ va_X b L xs s s.heap ∧ b < s.heap.size ∧ meth.locks = false ∧ (Jvm.Cond.and given_1 narrow_1).before #[Value.ref b] s = true
/-! THE LAW: what its walk stands on -/
def LX (p : Program) (s : State) (m : MethodId) (c : Code) (b L : Nat) (xs : Nat → Int32) (G : GG) (B : Nat) (tt : Nat → Nat) : Prop := p.tables.exec = Jvm.exec ∧ c.code = code ∧ c.maxLocals = 4 ∧ s.vm.findClass RL = some m.cls ∧ (∀ w ∈ wsL_law, w.before #[Value.ref b] s = true) ∧ va_X b L xs s s.heap ∧ b < s.heap.size ∧ s.heap.size = B ∧ KN G s ∧ EX B tt s s.heap ∧ L ≤ 384
def LI (G : GG) (B : Nat) (tt : Nat → Nat) (s : State) (x y : Mem) (H : Heap) (locs : List Loc) : Prop := B + 130 ≤ H.size ∧ MR G (wX G B tt) x H ∧ MR G (wM G (B + 117)) y H ∧ va_S (blkF B) s.heap H locs ∧ Rel x y
theorem l_pre {G : GG} {w : WD} {x : Mem} {H : Heap} {s : State} (hW : WOK w) (hX : MR G w x H) (hK : KN G s) (hE : w.2.2.2.2 s s.heap) (hq : ∀ q : Nat, q < s.heap.size → H[q]? = s.heap[q]?) (av : List Value) : FrameBlind (XP G w av x) ∧ ∀ U : State, U.heap = H → s.WarmedH U.vm → XP G w av x av.toArray U := by
  refine ⟨fun a U g mk q => ⟨q.1, q.2.1, KN.same (u := U) (U := U.calling g mk a) rfl q.2.2.1, hW.2.1 U (U.calling g mk a) _ rfl q.2.2.2⟩, fun U hU hV => ⟨rfl, by rw [hU]; exact hX, KN.warm hV hK, ?_⟩⟩
  rw [hU]
  exact hW.2.2.1 s U _ hV (hW.2.2.2 s s.heap H hE (fun q h1 _ => hq q h1))
theorem l_pv {G : GG} {w : WD} {x : Mem} {H : Heap} {s : State} (hW : WOK w) (hX : MR G w x H) (hK : KN G s) (hE : w.2.2.2.2 s s.heap) (hq : ∀ q : Nat, q < s.heap.size → H[q]? = s.heap[q]?) (As : List Value) {a : Nat} (ha : a < w.1) {ci : Nat} {fs : List Value} (he : w.2.2.1 a (x a) = .inr (ci, fs)) {q : vw_C} (hc : vwCl[ci]? = some q) : PreV s H q.1 (w.2.1 + a) (XP G w (.ref (w.2.1 + a) :: As) x) As :=
  ⟨(l_pre hW hX hK hE hq (.ref (w.2.1 + a) :: As)).1, x_rcv hX hK ha he hc, (l_pre hW hX hK hE hq (.ref (w.2.1 + a) :: As)).2⟩
theorem l_q {B : Nat} {s : State} {H : Heap} {locs : List Loc} (hS : va_S (blkF B) s.heap H locs) (hB : s.heap.size = B) : ∀ q : Nat, q < s.heap.size → H[q]? = s.heap[q]? := fun q h => hS.2.1 q h (by show ¬ B ≤ q; omega)
theorem MR.far {G : GG} {w : WD} {x : Mem} {H H1 : Heap} (h : MR G w x H) (hq : ∀ a, a < w.1 → H1[w.2.1 + a]? = H[w.2.1 + a]?) : MR G w x H1 := fun a ha => (h a ha).kept (hq a ha)
section LAWR
variable {p : Program} {l : Launch} {e : Env} {R : Room} {s : State} {m : MethodId} {args : Array Value} {below : List Frame} {meth : Method} {c : Code} {H : Heap} {locs : List Loc} {cells slots : Nat} {Q : State → Prop}
variable {cc : ByteArray} {pc : Nat} {ls : Array Slot} {rest st0 : List Value} {G : GG} {w : WD} {x : Mem} {aa : Array Value}
theorem l_if {B : Nat} {post : Int32 → Mem → Prop} (hr : va_Run p l e R s m args below meth c H locs cells slots 0 0 (F0 m pc ls st0) rest (va_Qi post (XB G w) w.2.2.2.1 aa) w.2.2.2.1) (hS : va_S (blkF B) s.heap H locs) (hA : ∀ q, w.2.2.2.1 q → blkF B q)
    (kk : ∀ (r : Int32) (u : Mem) (H1 : Heap) (locs1 : List Loc), post r u → MR G w u H1 → H.size ≤ H1.size → (∀ q : Nat, q < H.size → ¬ w.2.2.2.1 q → H1[q]? = H[q]?) → va_S (blkF B) s.heap H1 locs1 → W p l e R s m args below meth c H1 locs1 cells slots Q (F0 m (pc + 3) ls (.int r :: rest))) : W p l e R s m args below meth c H locs cells slots Q (F0 m pc ls st0) := by
  refine va_calli hr hS (fun q _ h => hA q h) hA (fun r u t H1 locs1 ht hvm hp hB hz hk hS1 => ?_)
  have hB1 : MR G w u t.heap := hB
  rw [ht] at hB1
  exact kk r u H1 locs1 hp hB1 hz hk hS1
theorem l_sld {B b L : Nat} {xs : Nat → Int32} (hexec : p.tables.exec = Jvm.exec) (hb : c.code = cc) (hX : va_X b L xs s s.heap) (hbl : b < s.heap.size) (hB : s.heap.size = B) (hS : va_S (blkF B) s.heap H locs) {i : Int32} {j : Nat} (hi : i = nI j) (hj : j < L) (hL : L ≤ 384) (hdg : decode cc pc = .ok (.iaload, 1))
    (kk : W p l e R s m args below meth c H locs cells slots Q (F0 m (pc + 1) ls (.int (xs j) :: rest))) : W p l e R s m args below meth c H locs cells slots Q (F0 m pc ls (.int i :: .ref b :: rest)) := by
  subst hi
  have hc : (nI j).toNatClampNeg = j := nI_clamp (by omega)
  refine va_sld hexec hb hX hbl (by show ¬ B ≤ b; omega) hS (vp_in_nI hj (by omega)) hdg ?_
  rw [hc]
  exact kk
end LAWR
theorem and31 (v : Int32) : ∃ k, k < 32 ∧ v &&& 31 = nI k := ⟨v.toBitVec.toNat % 2 ^ 5, Nat.mod_lt _ (by decide), and_mask v 5 (by decide)⟩
theorem law_i {i L : Nat} (hL : L ≤ 384) (hi : i ≤ L + 6) (h : ¬ nI L - 6 < nI i) : i + 6 ≤ L := by
  have h1 := Int32.le_iff_toInt_le.mp (Int32.not_lt.mp h)
  have e : (nI L - 6).toInt = (L : Int) - 6 := by
    rw [Int32.toInt_sub, nI_toInt (by omega), show (6 : Int32).toInt = 6 from rfl]
    exact bm32 (by omega) (by omega)
  rw [e, nI_toInt (by omega)] at h1
  omega
