/-! THE SHAPES. The class: 117 cells: 0 WindTaken, 1 its rows, 2 Reader, 3 Tape, 4 its bytes, 5 Ridge (6 its mills, 7 .. 14), 15 the draft, 25 images, 26 quarters, 27 Trace, 28 its numbers, 29 + 2 r Row (30 + 2 r its items), 45 and 55 the images' Ridges, 65 + 13 q Quarter (+ 1 behind, + 2 after, + 3 its Ridge, + 4 that one's mills, + 5 .. + 12). The reference: 13 cells: 0 itself, its arrays. -/
abbrev rfs (f : Nat → Option Nat) : (Nat → Int32) ⊕ (Nat → Int64) ⊕ (Nat → UInt32) ⊕ (Nat → UInt64) ⊕ (Nat → Option Nat) := .inr (.inr (.inr (.inr f)))
abbrev mnE (B : Nat) (f : Nat → Int32) : va_E := .inr (7, [.ref (B + 1), .ref (B + 2), .ref (B + 5), .ref (B + 15), .ref (B + 25), .ref (B + 26), .ref (B + 27), .int (f 7), .int (f 8)])
abbrev tpE (B : Nat) (f : Nat → Int32) : va_E := .inr (5, [.ref (B + 4), .int (f 1)])
abbrev rdE (B : Nat) (f : Nat → Int32) : va_E := .inr (2, [.ref (B + 3), .int (f 1), .int (f 2), .int (f 3), .int (f 4), .int (f 5), .int (f 6)])
abbrev trE (B : Nat) (f : Nat → Int32) : va_E := .inr (6, [.ref (B + 28), .int (f 1)])
abbrev rwE (B a : Nat) (f : Nat → Int32) : va_E := .inr (4, [.ref (B + (a + 1)), .int (f 1), .int (f 2)])
abbrev quE (B a : Nat) (f : Nat → Int32) : va_E := .inr (1, [.ref (B + (a + 1)), .ref (B + (a + 2)), .ref (B + (a + 3)), .int (f 3), .int (f 4), .int (f 5)])
abbrev riE (B a : Nat) (f : Nat → Int32) : va_E := .inr (3, [.ref (B + (a + 1)), .int (f 1), .int (f 2), .int (f 3), .int (f 4), .int (f 5)])
abbrev miE (f : Nat → Int32) : va_E := .inr (0, [.int (f 0), .int (f 1), .int (f 2), .int (f 3), .int (f 4), .int (f 5), .int (f 6), .int (f 7), .int (f 8), .int (f 9), .int (f 10), .int (bI (decide (f 11 ≠ 0)))])
def isRg (ρ : Nat) : Prop := (ρ = 5 ∨ ρ = 15 ∨ ρ = 45 ∨ ρ = 55) ∨ (ρ = 68 ∨ ρ = 81 ∨ ρ = 94 ∨ ρ = 107)
/-- the class's own ridges: without the quarters' -/
def isRc (ρ : Nat) : Prop := ρ = 5 ∨ ρ = 15 ∨ ρ = 45 ∨ ρ = 55
def shX (G : GG) (B : Nat) (a : Nat) (f : Nat → Int32) : va_E :=
  if a = 0 then mnE B f
  else if a = 1 then .inl (G.2 5, 8, rfs (fun r => some (B + (29 + 2 * r))))
  else if a = 2 then rdE B f
  else if a = 3 then tpE B f
  else if a = 4 then .inl (G.2 1, 400, .inl f)
  else if a = 25 then .inl (G.2 4, 2, rfs (fun k => some (B + (45 + 10 * k))))
  else if a = 26 then .inl (G.2 3, 4, rfs (fun q => some (B + (65 + 13 * q))))
  else if a = 27 then trE B f
  else if a = 28 then .inl (G.2 0, 16, .inl f)
  else if 29 ≤ a ∧ a < 45 then (if a % 2 = 1 then rwE B a f else .inl (G.2 0, 40, .inl f))
  else if 65 ≤ a ∧ (a - 65) % 13 < 3 then (if (a - 65) % 13 = 0 then quE B a f else .inl (G.2 0, if (a - 65) % 13 = 1 then 8 else 9, .inl f))
  else if (a = 5 ∨ a = 15 ∨ a = 45 ∨ a = 55) ∨ (a = 68 ∨ a = 81 ∨ a = 94 ∨ a = 107) then riE B a f
  else if (a = 6 ∨ a = 16 ∨ a = 46 ∨ a = 56) ∨ (a = 69 ∨ a = 82 ∨ a = 95 ∨ a = 108) then .inl (G.2 2, 8, rfs (fun j => some (B + (a + 1 + j))))
  else miE f
theorem rc5 : isRc 5 := Or.inl rfl
theorem rc15 : isRc 15 := Or.inr (Or.inl rfl)
theorem rcI {k : Nat} (h : k < 2) : isRc (45 + 10 * k) := by unfold isRc; omega
theorem isRc.rg {ρ : Nat} (h : isRc ρ) : isRg ρ := Or.inl h
theorem rg5 : isRg 5 := Or.inl (Or.inl rfl)
theorem rg15 : isRg 15 := Or.inl (Or.inr (Or.inl rfl))
theorem rgI {k : Nat} (h : k < 2) : isRg (45 + 10 * k) := by unfold isRg; omega
theorem rgQ {q : Nat} (h : q < 4) : isRg (65 + 13 * q + 3) := by unfold isRg; omega
section SHX
variable {G : GG} {B : Nat} {f : Nat → Int32}
theorem shX_mn : shX G B 0 f = mnE B f := rfl
theorem shX_ra : shX G B 1 f = .inl (G.2 5, 8, rfs (fun r => some (B + (29 + 2 * r)))) := rfl
theorem shX_tp : shX G B 3 f = tpE B f := rfl
theorem shX_tb : shX G B 4 f = .inl (G.2 1, 400, .inl f) := rfl
theorem shX_rd : shX G B 2 f = rdE B f := rfl
theorem shX_ia : shX G B 25 f = .inl (G.2 4, 2, rfs (fun k => some (B + (45 + 10 * k)))) := rfl
theorem shX_qa : shX G B 26 f = .inl (G.2 3, 4, rfs (fun q => some (B + (65 + 13 * q)))) := rfl
theorem shX_tr : shX G B 27 f = trE B f := rfl
theorem shX_tn : shX G B 28 f = .inl (G.2 0, 16, .inl f) := rfl
theorem shX_rw {r : Nat} (h : r < 8) : shX G B (29 + 2 * r) f = rwE B (29 + 2 * r) f := by
  unfold shX
  rw [if_neg (by omega), if_neg (by omega), if_neg (by omega), if_neg (by omega), if_neg (by omega), if_neg (by omega), if_neg (by omega), if_neg (by omega), if_neg (by omega), if_pos (by omega), if_pos (by omega)]
theorem shX_it {r : Nat} (h : r < 8) : shX G B (29 + 2 * r + 1) f = .inl (G.2 0, 40, .inl f) := by
  unfold shX
  rw [if_neg (by omega), if_neg (by omega), if_neg (by omega), if_neg (by omega), if_neg (by omega), if_neg (by omega), if_neg (by omega), if_neg (by omega), if_neg (by omega), if_pos (by omega), if_neg (by omega)]
theorem shX_qu {q : Nat} (h : q < 4) : shX G B (65 + 13 * q) f = quE B (65 + 13 * q) f := by
  unfold shX
  rw [if_neg (by omega), if_neg (by omega), if_neg (by omega), if_neg (by omega), if_neg (by omega), if_neg (by omega), if_neg (by omega), if_neg (by omega), if_neg (by omega), if_neg (by omega), if_pos (by omega), if_pos (by omega)]
theorem shX_bh {q : Nat} (h : q < 4) : shX G B (65 + 13 * q + 1) f = .inl (G.2 0, 8, .inl f) := by
  unfold shX
  rw [if_neg (by omega), if_neg (by omega), if_neg (by omega), if_neg (by omega), if_neg (by omega), if_neg (by omega), if_neg (by omega), if_neg (by omega), if_neg (by omega), if_neg (by omega), if_pos (by omega), if_neg (by omega), if_pos (by omega)]
theorem shX_af {q : Nat} (h : q < 4) : shX G B (65 + 13 * q + 2) f = .inl (G.2 0, 9, .inl f) := by
  unfold shX
  rw [if_neg (by omega), if_neg (by omega), if_neg (by omega), if_neg (by omega), if_neg (by omega), if_neg (by omega), if_neg (by omega), if_neg (by omega), if_neg (by omega), if_neg (by omega), if_pos (by omega), if_neg (by omega), if_neg (by omega)]
theorem shX_ri {ρ : Nat} (h : isRg ρ) : shX G B ρ f = riE B ρ f := by
  rcases h with (rfl | rfl | rfl | rfl) | (rfl | rfl | rfl | rfl) <;> rfl
theorem shX_ma {ρ : Nat} (h : isRg ρ) : shX G B (ρ + 1) f = .inl (G.2 2, 8, rfs (fun j => some (B + (ρ + 1 + 1 + j)))) := by
  rcases h with (rfl | rfl | rfl | rfl) | (rfl | rfl | rfl | rfl) <;> rfl
theorem shX_mi {ρ j : Nat} (h : isRg ρ) (hj : j < 8) : shX G B (ρ + 1 + 1 + j) f = miE f := by
  unfold isRg at h
  unfold shX
  rw [if_neg (by omega), if_neg (by omega), if_neg (by omega), if_neg (by omega), if_neg (by omega), if_neg (by omega), if_neg (by omega), if_neg (by omega), if_neg (by omega), if_neg (by omega), if_neg (by omega), if_neg (by omega), if_neg (by omega)]
end SHX
theorem rg_lt {ρ : Nat} (h : isRg ρ) : ρ < 117 := by unfold isRg at h; omega
theorem rg_lt1 {ρ : Nat} (h : isRg ρ) : ρ + 1 < 117 := by unfold isRg at h; omega
theorem rg_ltm {ρ j : Nat} (h : isRg ρ) (hj : j < 8) : ρ + 1 + 1 + j < 117 := by unfold isRg at h; omega
/-- a long in two ints -/
def mkL (h k : Int32) : Int64 := Int64.ofInt (h.toInt * 4294967296 + k.toInt % 4294967296)
def hiL (v : Int64) : Int32 := Int32.ofInt (v.toInt / 4294967296)
def loL (v : Int64) : Int32 := Int32.ofInt v.toInt
theorem mkL_eq (v : Int64) : mkL (hiL v) (loL v) = v := by
  have h1 := Int64.le_toInt v
  have h2 := Int64.toInt_lt v
  have e1 : (hiL v).toInt = v.toInt / 4294967296 := by
    unfold hiL
    rw [Int32.toInt_ofInt, Int.bmod_def, show Int32.size = 4294967296 from rfl]
    split <;> omega
  have e2 : (loL v).toInt % 4294967296 = v.toInt % 4294967296 := by
    unfold loL
    rw [Int32.toInt_ofInt, Int.bmod_def, show Int32.size = 4294967296 from rfl]
    split <;> omega
  unfold mkL
  rw [e1, e2, show v.toInt / 4294967296 * 4294967296 + v.toInt % 4294967296 = v.toInt by omega]
  exact Int64.ofInt_toInt v
abbrev mdE (B : Nat) (f : Nat → Int32) : va_E := .inr (8, [.ref (B + 1), .ref (B + 2), .ref (B + 3), .int (f 3), .int (f 4), .ref (B + 4), .int (f 6), .ref (B + 5), .ref (B + 6), .ref (B + 7), .ref (B + 8), .ref (B + 9), .int (f 12), .ref (B + 10), .int (f 14), .int (f 15), .int (f 16), .long (mkL (f 17) (f 21)), .int (f 18), .ref (B + 11), .ref (B + 12)])
/-- how long the reference's arrays are: lanes, sizes, items, tape, now, image0, image1, read, trace, lent, ground, worn -/
def mdN (a : Nat) : Nat := if a = 1 ∨ a = 2 ∨ a = 11 ∨ a = 12 then 8 else if a = 3 then 320 else if a = 4 then 400 else if a = 9 then 16 else if a = 10 then 40 else 93
def shM (G : GG) (B : Nat) (a : Nat) (f : Nat → Int32) : va_E := if a = 0 then mdE B f else .inl (G.2 0, mdN a, .inl f)
theorem shM_0 {G : GG} {B : Nat} {f : Nat → Int32} : shM G B 0 f = mdE B f := rfl
theorem shM_a {G : GG} {B a : Nat} {f : Nat → Int32} (h : a ≠ 0) : shM G B a f = .inl (G.2 0, mdN a, .inl f) := if_neg h
/-- the cells of the class, of the reference -/
def blkA (lo hi : Nat) : Nat → Prop := fun q => lo ≤ q ∧ q < hi
/-- what the class stands on besides: its static tables, the texts -/
def tblF (q : Nat) : String := if q = 0 then "NEXT_KIND" else if q = 1 then "SIZE_BODY" else "MARK_BODY"
def nextK : Nat → Int32 := fun j => ([-1, 0, 1, 2, 0, 1] : List Int32).getD j 0
def sizeK : Nat → Int32 := fun j => ([10, 11, 11, 12, 13, 14] : List Int32).getD j 0
def markK : Nat → Int32 := fun j => ([20, 21, 22, 24, 23, 21] : List Int32).getD j 0
def tblV (q : Nat) : Nat → Int32 := if q = 0 then nextK else if q = 1 then sizeK else markK
def strL : List (Nat × String) := [(46, "law"), (68, "mill"), (158, "fixed"), (160, "hooded"), (162, "half"), (164, "water"), (166, "ruin")]
def strLen : List Nat := [3, 4, 5, 6, 4, 5, 4]
def strByt : List (List Int32) := [[108, 97, 119], [109, 105, 108, 108], [102, 105, 120, 101, 100], [104, 111, 111, 100, 101, 100], [104, 97, 108, 102], [119, 97, 116, 101, 114], [114, 117, 105, 110]]
def EX (B : Nat) (tt : Nat → Nat) (U : State) (H : Heap) : Prop :=
  (∀ q, q < 3 → va_Z "WindTaken" (tblF q) "[I" (.ref (tt q)) (blkA B (B + 117)) U H) ∧ (∀ q, q < 3 → va_T .int (tt q) 6 (fun j => .int (tblV q j)) (blkA B (B + 117)) U H) ∧
  (∀ (i k : Nat) (tx : String), strL[i]? = some (k, tx) → vk_R RX2 k tx (tt (100 + i)) U) ∧ vk_S 7 strLen strByt (fun i => tt (100 + i)) (fun i => tt (200 + i)) (blkA B (B + 117)) U H ∧
  va_Z "java/lang/String" "COMPACT_STRINGS" "Z" (.int 1) (blkA B (B + 117)) U H ∧ va_Zq "jdk/internal/util/Preconditions" "SIOOBE_FORMATTER" "Ljava/util/function/BiFunction;" (blkA B (B + 117)) U H
abbrev wX (G : GG) (B : Nat) (tt : Nat → Nat) : WD := (117, B, shX G B, blkA B (B + 117), EX B tt)
abbrev wM (G : GG) (B : Nat) : WD := (13, B, shM G B, blkA B (B + 13), fun _ _ => True)
theorem wM_ok (G : GG) (B : Nat) : WOK (wM G B) := ⟨fun a h => ⟨Nat.le_add_right _ _, Nat.add_lt_add_left h _⟩, fun _ _ _ _ _ => trivial, fun _ _ _ _ _ => trivial, fun _ _ _ _ _ => trivial⟩
theorem EX_vm {B : Nat} {tt : Nat → Nat} {u U : State} {H : Heap} (hvm : u.vm.Alike U.vm) (hR : ∀ (k : Nat) (tx : String) (a : Nat), vk_R RX2 k tx a u → vk_R RX2 k tx a U) (h : EX B tt u H) : EX B tt U H :=
  ⟨fun q hq => va_Z.moved hvm (h.1 q hq), fun q hq => va_T.moved hvm (h.2.1 q hq), fun i k tx hi => hR _ _ _ (h.2.2.1 i k tx hi), vk_S.moved hvm h.2.2.2.1, va_Z.moved hvm h.2.2.2.2.1, va_Zq.moved hvm h.2.2.2.2.2⟩
theorem wX_ok (G : GG) (B : Nat) (tt : Nat → Nat) : WOK (wX G B tt) :=
  ⟨fun a h => ⟨Nat.le_add_right _ _, Nat.add_lt_add_left h _⟩, fun u U H hv h => EX_vm (by rw [hv]; exact Vm.Alike.refl _) (fun k tx a q => vk_R.same hv q) h, fun u U H hv h => EX_vm hv.alike (fun k tx a q => vk_R.warm hv q) h,
    fun U H H1 h hq => ⟨fun q h3 => (h.1 q h3).kept hq, fun q h3 => (h.2.1 q h3).kept hq, h.2.2.1, h.2.2.2.1.kept hq, h.2.2.2.2.1.kept hq, h.2.2.2.2.2.kept hq⟩⟩
