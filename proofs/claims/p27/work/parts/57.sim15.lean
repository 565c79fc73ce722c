theorem sim_off {mc bk : Nat} {g : zGS} {s : Nat → Int32} {x : Int32} (h : Rl mc bk g s) : Sim mc (bk - 1) (qOff g x) (dOff s bk x) := by
  have g1 : g.2 1 = nI bk := (h.at (by decide)).symm.trans h.s1.1
  have hb := h.s1.2
  have ec : (g.2 1).toNatClampNeg = bk := by rw [g1, nI_clamp (by omega)]
  unfold qOff dOff hOff
  rw [ec]
  rcases pl_sim (x := x) h bk 0 (by omega) with ⟨q1, q2⟩ | ⟨j, -, hj, q1, q2⟩
  · rw [q1, q2, if_neg (show ¬ (0 : Int32) ≤ -1 by decide), if_neg (show ¬ (0 : Int32) ≤ -1000004 by decide)]
    exact Sim_fail (x := -1000001) (g := g) (mc := mc) (bk := bk - 1) (by decide)
  · have p : (0 : Int32) ≤ nI j := nI_pos' (by omega)
    rw [q1, q2, if_pos p, if_pos p, nI_clamp (by omega), g1]
    have e : nI bk - 1 = nI (bk - 1) := nI_pred' (by omega)
    rw [e]
    exact ⟨dGo_1.symm, fun _ => sim_goes h (by omega), (fun q => Bool.noConfusion q)⟩

