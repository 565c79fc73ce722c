theorem setR_self {σ : Nat → Int32} {c n : Nat} : setR σ c n (fun i => σ (c + i)) = σ := by
  funext j
  by_cases q : c ≤ j ∧ j < c + n
  · obtain ⟨i, rfl⟩ : ∃ i, j = c + i := ⟨j - c, by omega⟩
    exact setR_in (by omega)
  · exact setR_out (by omega)
theorem setR_upd {σ v : Nat → Int32} {c n i : Nat} {x : Int32} (hi : i < n) : setR σ c n (upd v i x) = upd (setR σ c n v) (c + i) x := by
  funext j
  by_cases q : c ≤ j ∧ j < c + n
  · obtain ⟨k, rfl⟩ : ∃ k, j = c + k := ⟨j - c, by omega⟩
    rw [setR_in (by omega)]
    by_cases e : k = i
    · subst e
      rw [upd_eq, upd_eq]
    · rw [upd_ne e, upd_ne (by omega), setR_in (by omega)]
  · rw [setR_out (by omega), upd_ne (by omega), setR_out (by omega)]
/-- the same number of the same mule in both -/
theorem Rl_upm {mc bk : Nat} {g : zGS} {s : Nat → Int32} {k i9 : Nat} {x : Int32} (h : Rl mc bk g s) (hk : k < mc) (hi9 : i9 < 9) : Rl mc bk (g.1, upd g.2 (19 + 9 * k + i9) x) (upd s (19 + 9 * k + i9) x) := by
  obtain ⟨a, b, c, d, e1, e2, e3, e4⟩ := h
  refine ⟨fun i hi => ?_, fun m hm i hi => ?_, fun j hj i hi => ?_, fun q hq => ?_, ?_, e2, ?_, e4⟩
  · rw [upd_ne (by omega)]
    exact (a i hi).trans (upd_ne (by omega)).symm
  · by_cases e : 19 + 9 * m + i = 19 + 9 * k + i9
    · rw [e, upd_eq]
      exact upd_eq.symm
    · rw [upd_ne e]
      exact (b m hm i hi).trans (upd_ne e).symm
  · rw [upd_ne (by omega)]
    exact (c j hj i hi).trans (upd_ne (by omega)).symm
  · rw [upd_ne (by omega)]
    exact (d q hq).trans (upd_ne (by omega)).symm
  · rw [upd_ne (by omega)]
    exact e1
  · rw [upd_ne (by omega)]
    exact e3
theorem hSend1_eq {σ : Nat → Int32} {k : Nat} {n : Int32} : hSend1 σ k n = upd (upd (upd (upd (upd σ (19 + 9 * k + 2) 1) (19 + 9 * k + 3) 2) (19 + 9 * k + 4) n) (19 + 9 * k + 5) (σ 3)) (19 + 9 * k + 6) (σ (19 + 9 * k + 6) + 1) := by
  unfold hSend1 mLeave
  rw [setR_upd (by decide), setR_upd (by decide), setR_upd (by decide), setR_upd (by decide), setR_upd (by decide), setR_self]
/-- the hut and the row behind a mule's leaving -/
theorem sim_leave {mc bk : Nat} {g : zGS} {s : Nat → Int32} {k : Nat} {n : Int32} (h : Rl mc bk g s) (hk : k < mc) : Rl mc bk (g.1, (hSend2 (hSend1 g.2 k n) n).2) (dSe s k n) ∧ (dSe s k n) 6 = (hSend2 (hSend1 g.2 k n) n).1 := by
  have hm4 := h.s0.2
  rw [hSend1_eq]
  have k1 := Rl_upm (i9 := 2) (x := 1) h hk (by decide)
  have k2 := Rl_upm (i9 := 3) (x := 2) k1 hk (by decide)
  have k3 := Rl_upm (i9 := 4) (x := n) k2 hk (by decide)
  have k4 := Rl_upm (i9 := 5) (x := g.2 3) k3 hk (by decide)
  have k5 := Rl_upm (i9 := 6) (x := g.2 (19 + 9 * k + 6) + 1) k4 hk (by decide)
  have e3 : (upd (upd (upd s (19 + 9 * k + 2) 1) (19 + 9 * k + 3) 2) (19 + 9 * k + 4) n) 3 = g.2 3 := by
    rw [upd_ne (by omega), upd_ne (by omega), upd_ne (by omega)]
    exact h.at (by decide)
  have e6 : (upd (upd (upd (upd s (19 + 9 * k + 2) 1) (19 + 9 * k + 3) 2) (19 + 9 * k + 4) n) (19 + 9 * k + 5) (g.2 3)) (19 + 9 * k + 6) = g.2 (19 + 9 * k + 6) := by
    rw [upd_ne (by omega), upd_ne (by omega), upd_ne (by omega), upd_ne (by omega)]
    exact h.mu hk (by decide)
  have es : dSe s k n = upd (upd (upd (upd (upd (upd (upd s (19 + 9 * k + 2) 1) (19 + 9 * k + 3) 2) (19 + 9 * k + 4) n) (19 + 9 * k + 5) (g.2 3)) (19 + 9 * k + 6) (g.2 (19 + 9 * k + 6) + 1)) 7 ((upd (upd (upd (upd (upd s (19 + 9 * k + 2) 1) (19 + 9 * k + 3) 2) (19 + 9 * k + 4) n) (19 + 9 * k + 5) (g.2 3)) (19 + 9 * k + 6) (g.2 (19 + 9 * k + 6) + 1)) 7 + n)) 6 ((upd (upd (upd (upd (upd (upd s (19 + 9 * k + 2) 1) (19 + 9 * k + 3) 2) (19 + 9 * k + 4) n) (19 + 9 * k + 5) (g.2 3)) (19 + 9 * k + 6) (g.2 (19 + 9 * k + 6) + 1)) 7 ((upd (upd (upd (upd (upd s (19 + 9 * k + 2) 1) (19 + 9 * k + 3) 2) (19 + 9 * k + 4) n) (19 + 9 * k + 5) (g.2 3)) (19 + 9 * k + 6) (g.2 (19 + 9 * k + 6) + 1)) 7 + n)) 6 + n * (upd (upd (upd (upd (upd (upd s (19 + 9 * k + 2) 1) (19 + 9 * k + 3) 2) (19 + 9 * k + 4) n) (19 + 9 * k + 5) (g.2 3)) (19 + 9 * k + 6) (g.2 (19 + 9 * k + 6) + 1)) 7 ((upd (upd (upd (upd (upd s (19 + 9 * k + 2) 1) (19 + 9 * k + 3) 2) (19 + 9 * k + 4) n) (19 + 9 * k + 5) (g.2 3)) (19 + 9 * k + 6) (g.2 (19 + 9 * k + 6) + 1)) 7 + n)) 15) := by
    unfold dSe
    dsimp only
    rw [e3, e6]
  rw [es]
  generalize upd (upd (upd (upd (upd s (19 + 9 * k + 2) 1) (19 + 9 * k + 3) 2) (19 + 9 * k + 4) n) (19 + 9 * k + 5) (g.2 3)) (19 + 9 * k + 6) (g.2 (19 + 9 * k + 6) + 1) = s5 at k5 ⊢
  generalize upd (upd (upd (upd (upd g.2 (19 + 9 * k + 2) 1) (19 + 9 * k + 3) 2) (19 + 9 * k + 4) n) (19 + 9 * k + 5) (g.2 3)) (19 + 9 * k + 6) (g.2 (19 + 9 * k + 6) + 1) = t5 at k5 ⊢
  have f7 : s5 7 = t5 7 := k5.at (by decide)
  have f6 : s5 6 = t5 6 := k5.at (by decide)
  have f15 : s5 15 = t5 15 := k5.at (by decide)
  rw [upd_ne (i := 6) (k := 7) (by decide), upd_ne (i := 15) (k := 7) (by decide), f7, f6, f15]
  have k6 := Rl_upd (k := 7) (x := t5 7 + n) k5 (by decide) (by decide) (by decide)
  have k7 := Rl_upd (k := 6) (x := t5 6 + n * t5 15) k6 (by decide) (by decide) (by decide)
  exact ⟨k7, upd_eq⟩

