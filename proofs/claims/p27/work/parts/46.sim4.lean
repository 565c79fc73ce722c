theorem dWhy_or {s : Nat → Int32} {k : Nat} {n : Int32} : dWhy s k n = 0 ∨ dWhy s k n = 1 ∨ dWhy s k n = 2 ∨ dWhy s k n = 3 := by
  unfold dWhy
  split
  · split
    · split
      · exact .inl rfl
      · exact .inr (.inr (.inr rfl))
    · exact .inr (.inr (.inl rfl))
  · exact .inr (.inl rfl)
theorem sim_send {mc bk : Nat} {g : zGS} {s : Nat → Int32} {x n : Int32} (h : Rl mc bk g s) : Sim mc bk (qSend g x n) (dSend s x n) := by
  have hw := sim_why (x := x) (n := n) h
  unfold qSend dSend hSend
  unfold dWhyQ at hw
  by_cases c1 : dIs s x = 0
  · rw [if_pos c1] at hw
    rw [if_pos c1, if_pos hw]
    exact Sim_fail (x := -1000001) (g := g) (mc := mc) (bk := bk) (by decide)
  · rw [if_neg c1] at hw
    rw [if_neg c1]
    by_cases c2 : zwin n 1 30 = 0
    · rw [if_pos c2] at hw
      rw [if_pos c2, if_pos hw]
      exact Sim_fail (x := -1000001) (g := g) (mc := mc) (bk := bk) (by decide)
    · rw [if_neg c2] at hw
      rw [if_neg c2, hw]
      obtain ⟨hx, hk⟩ := dIs_x c1 h.s0.1 h.s0.2
      rcases dWhy_or (s := s) (k := x.toNatClampNeg) (n := n) with q | q | q | q
      · rw [q, if_neg (show ¬ (0 : Int32) = -1000001 by decide), if_pos rfl, if_pos (show (0 : Int32) ≤ 0 by decide)]
        obtain ⟨a, b⟩ := sim_leave (n := n) h hk
        exact ⟨b.symm, fun _ => a, (fun q => Bool.noConfusion q)⟩
      · rw [q, if_neg (show ¬ (1 : Int32) = -1000001 by decide), if_neg (show ¬ (1 : Int32) = 0 by decide), if_neg (show ¬ (1 : Int32) ≤ 0 by decide)]
        exact Sim_fail (x := -1000002) (g := g) (mc := mc) (bk := bk) (by decide)
      · rw [q, if_neg (show ¬ (2 : Int32) = -1000001 by decide), if_neg (show ¬ (2 : Int32) = 0 by decide), if_neg (show ¬ (2 : Int32) ≤ 0 by decide)]
        exact Sim_fail (x := -1000002) (g := g) (mc := mc) (bk := bk) (by decide)
      · rw [q, if_neg (show ¬ (3 : Int32) = -1000001 by decide), if_neg (show ¬ (3 : Int32) = 0 by decide), if_neg (show ¬ (3 : Int32) ≤ 0 by decide)]
        exact Sim_fail (x := -1000002) (g := g) (mc := mc) (bk := bk) (by decide)

