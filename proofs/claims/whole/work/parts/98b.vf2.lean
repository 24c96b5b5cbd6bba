section VF2
variable {p : Program} {l : Launch} {e : Env} {R : Room} {s : State} {m : MethodId} {args : Array Value} {below : List Frame} {meth : Method} {c : Code} {H : Heap} {locs : List Loc} {cells slots mc ms : Nat} {Q : State → Prop}
variable {pc : Nat} {ls : Array Slot} {rest st0 : List Value} {G : GG} {B B1 n' : Nat} {aa : Array Value}
theorem z_vf2 {post : (Nat → va_E) → Prop} (hr : va_Run p l e R s m args below meth c H locs cells slots mc ms (F0 m pc ls st0) rest (va_Qv post (ZB G B1 n') (blkF B1) aa) (blkF B1)) (hS : va_S (blkF B) s.heap H locs) (hB : B ≤ B1)
    (kk : ∀ (y : Nat → va_E) (H1 : Heap) (locs1 : List Loc), post y → MZ G B1 n' y H1 → (∀ q : Nat, q < H.size → ¬ blkF B1 q → H1[q]? = H[q]?) → va_S (blkF B) s.heap H1 locs1 → W p l e R s m args below meth c H1 locs1 (cells + mc) (slots + ms) Q (F0 m (pc + 3) ls rest)) : W p l e R s m args below meth c H locs cells slots Q (F0 m pc ls st0) := by
  refine va_callv hr hS (fun _ _ h => Nat.le_trans hB h) (fun _ h => Nat.le_trans hB h) (fun u t H1 locs1 ht hvm hp hB hz hk hS1 => ?_)
  have hB1 : MZ G B1 n' u t.heap := hB
  rw [ht] at hB1
  exact kk u H1 locs1 hp hB1 hk hS1
end VF2
