theorem sim_goes {mc bk : Nat} {g : zGS} {s : Nat → Int32} {q : Nat} (h : Rl mc bk g s) (hq : q < bk) : Rl mc (bk - 1) (gRem g.1 (nI q) 9, upd g.2 1 (nI (bk - 1))) (dGo s q (bk - 1)) := by
  obtain ⟨a, b, c, d, e1, e2, e3, e4⟩ := h
  refine ⟨fun i hi => ?_, fun m hm i hi => ?_, fun j hj i hi => ?_, fun p hp => ?_, ?_, e2, dGo_1, by omega⟩
  · by_cases e : i = 1
    · rw [e, dGo_1]
      show nI (bk - 1) = upd g.2 1 (nI (bk - 1)) 1
      exact upd_eq.symm
    · rw [dGo_lo (by omega) e]
      exact (a i hi).trans (upd_ne e).symm
  · rw [dGo_lo (by omega) (by omega)]
    exact (b m hm i hi).trans (upd_ne (by omega)).symm
  · rw [dGo_at (by omega) hj hi]
    show _ = upd g.2 1 (nI (bk - 1)) (55 + 6 * gRem g.1 (nI q) 9 j + i)
    rw [gRem_at (by omega) 9 (by decide), upd_ne (by omega)]
    by_cases z : q ≤ j
    · rw [if_pos z, if_pos (by omega)]
      exact c (j + 1) (by omega) i hi
    · rw [if_neg z, if_neg (by omega), if_neg (by omega)]
      exact c j (by omega) i hi
  · have z : dGo s q (bk - 1) (115 + p) = s (115 + p) := by
      unfold dGo
      rw [dGoL_at _ _ (by omega), if_neg (by omega)]
    rw [z]
    exact (d p hp).trans (upd_ne (by omega)).symm
  · rw [dGo_lo (by decide) (by decide)]
    exact e1

