theorem c_sortName_any (l : Launch) (G : GG) (B : Nat) (tt : Nat → Nat) (hW : WOK (wX G B tt)) (x : Mem) {k : Nat} (hk1 : 1 ≤ k) (hk5 : k ≤ 5) : Met l yX2_sortName wsX2_sortName rmX2_sortName_1 (XP G (wX G B tt) [.int (nI k)] x) (va_Qr (fun u => u = x) (XR G (wX G B tt) (tt (100 + (k + 1)))) (blkA B (B + 117))) 0 0 (blkA B (B + 117)) := by
  have hc : k = 1 ∨ k = 2 ∨ k = 3 ∨ k = 4 ∨ k = 5 := by omega
  rcases hc with rfl | rfl | rfl | rfl | rfl
  · exact c_X2_sortName_1 l G B tt hW x
  · exact c_X2_sortName_2 l G B tt hW x
  · exact c_X2_sortName_3 l G B tt hW x
  · exact c_X2_sortName_4 l G B tt hW x
  · exact c_X2_sortName_5 l G B tt hW x
