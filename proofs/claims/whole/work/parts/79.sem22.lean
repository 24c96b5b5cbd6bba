/-! THE REFERENCE: all read -/
/-- rows that agree upon the law and the first c mills -/
def AG (c : Nat) (d g : Nat → Int32) : Prop := (∀ k, 1 ≤ k → k < 5 → d k = g k) ∧ ∀ j, j < c → (∀ k, k < 10 → sF d j k = sF g j k) ∧ sK d j = sK g j
section AGS
variable {f : Nat → Int32} {t c : Nat} {s : Nat × Int32} {d g : Nat → Int32} {a : Int32}
theorem takR_ag (h : AG c d g) (a b : Int32) : takR d c a b = takR g c a b := by
  unfold takR
  rw [allN_congr c (fun j hj => by rw [(h.2 j hj).1 8 (by decide), (h.2 j hj).1 9 (by decide)])]
theorem my_ag (h : AG c d g) : my f t s c d a = my f t s c g a := by
  unfold my
  rw [takR_ag h]
theorem ml4_ag (h : AG c d g) : ml4 f t s c d = ml4 f t s c g := my_ag h
theorem ml5_ag (h : AG c d g) : ml5 f t s c d = ml5 f t s c g := by unfold ml5; rw [ml4_ag h]
theorem ml6_ag (h : AG c d g) : ml6 f t s c d = ml6 f t s c g := by unfold ml6; rw [ml5_ag h]
theorem ml7_ag (h : AG c d g) : ml7 f t s c d = ml7 f t s c g := by unfold ml7; rw [ml6_ag h]
theorem ml8_ag (h : AG c d g) : ml8 f t s c d = ml8 f t s c g := by unfold ml8; rw [ml7_ag h]
theorem ml9_ag (h : AG c d g) : ml9 f t s c d = ml9 f t s c g := by unfold ml9; rw [ml8_ag h]
theorem mlS_ag (h : AG c d g) : mlS f t s c d = mlS f t s c g := by unfold mlS; rw [ml9_ag h]
theorem mlV_ag (h : AG c d g) : mlV f t s c d = mlV f t s c g := by unfold mlV; rw [ml5_ag h, ml6_ag h, ml7_ag h, ml8_ag h]
theorem mlW_ag (hc : c < 8) (h : AG c d g) : AG (c + 1) (mlW f t s c d) (mlW f t s c g) := by
  unfold mlW
  rw [mlV_ag h]
  refine ⟨fun k k1 k5 => ?_, fun j hj => ?_⟩
  · rw [mlRow_lo (by omega) k5 hc, mlRow_lo (by omega) k5 hc]
    exact h.1 k k1 k5
  · by_cases e : j = c
    · subst e
      exact ⟨fun k hk => by rw [mlRow_Fc hk hc, mlRow_Fc hk hc], by rw [mlRow_Kc, mlRow_Kc]⟩
    · have hj2 : j < c := by omega
      refine ⟨fun k hk => ?_, ?_⟩
      · rw [mlRow_F hj2 hk hc, mlRow_F hj2 hk hc]
        exact (h.2 j hj2).1 k hk
      · rw [mlRow_K hj2 hc, mlRow_K hj2 hc]
        exact (h.2 j hj2).2
theorem AG.c93 {e : Nat → Int32} (h : AG c d g) (hc : c ≤ 8) (he : ∀ k, k < 93 → e k = d k) : AG c e g :=
  ⟨fun k k1 k5 => (he k (by omega)).trans (h.1 k k1 k5), fun j hj => ⟨fun k hk => (he (5 + 10 * j + k) (by omega)).trans ((h.2 j hj).1 k hk), (he (85 + j) (by omega)).trans (h.2 j hj).2⟩⟩
theorem law_ag (h1 : d 1 = 0) (h2 : d 2 = tvI f t (lw1 f t (0, 0)).1 ∧ d 3 = tvI f t (lw2 f t (0, 0)).1 ∧ d 4 = tvI f t (lw3 f t (0, 0)).1) : AG 0 d (lawR f t (0, 0)) := by
  refine ⟨fun k k1 k5 => ?_, fun j hj => absurd hj (Nat.not_lt_zero j)⟩
  have hk : k = 1 ∨ k = 2 ∨ k = 3 ∨ k = 4 := by omega
  rcases hk with rfl | rfl | rfl | rfl
  · rw [h1]; rfl
  · rw [h2.1]; rfl
  · rw [h2.2.1]; rfl
  · rw [h2.2.2]; rfl
theorem mlS_fz (h : s.2 ≠ 0) : mlS f t s c d = s := by
  have e0 : mz f t s c = s := by
    unfold mz
    split
    · rw [rfW_fz h]
    · rfl
  have e1 : ml1 f t s c = s := by unfold ml1; rw [e0]; exact stM_fz h
  rw [mlS_fz1 (by rw [e1]; exact h), e1]
theorem rdF_law (h : (lw5 f t (0, 0)).2 ≠ 0) : (rdF f t).1 = lw5 f t (0, 0) := by
  have e : (mlNx f t (rd0 f t)).1 = lw5 f t (0, 0) := mlS_fz (s := lw5 f t (0, 0)) h
  unfold rdF
  rw [mlRun_w (by rw [e]; exact h)]
  exact e
/-- what is still to be read behind g brings all -/
def RDF (f : Nat → Int32) (t : Nat) (g : RS) : Prop := (g.2.1 = 0 → rdF f t = mlRun f t 8 (mlNx f t g)) ∧ (g.2.1 ≠ 0 → rdF f t = mlRun f t (9 - g.2.1) g)
theorem rd_go {r : RS} (h : RDF f t r) (hg : r.2.1 = 0 ∨ tkI f t r.1.1 ≠ 0) (hz : r.1.2 = 0) (hc : r.2.1 ≤ 8) : rdF f t = mlRun f t (8 - r.2.1) (mlNx f t r) := by
  by_cases e : r.2.1 = 0
  · rw [h.1 e, e]
  · rw [h.2 e, show 9 - r.2.1 = (8 - r.2.1) + 1 by omega]
    exact mlRun_go hz (hg.resolve_left e)
theorem rd_nx {r : RS} (h : RDF f t r) (hg : r.2.1 = 0 ∨ tkI f t r.1.1 ≠ 0) (hz : r.1.2 = 0) (hc : r.2.1 ≤ 8) : RDF f t (mlNx f t r) := by
  have e : (mlNx f t r).2.1 = r.2.1 + 1 := rfl
  refine ⟨fun z => absurd z (by omega), fun _ => ?_⟩
  rw [e, show 9 - (r.2.1 + 1) = 8 - r.2.1 by omega]
  exact rd_go h hg hz hc
end AGS
