/-! the simulation: the model's row s against a hut g -/
def Rl (mc bk : Nat) (g : zGS) (s : Nat → Int32) : Prop := (∀ i, i < 19 → s i = g.2 i) ∧ (∀ m, m < mc → ∀ i, i < 9 → s (19 + 9 * m + i) = g.2 (19 + 9 * m + i)) ∧ (∀ j, j < bk → ∀ i, i < 6 → s (55 + 6 * j + i) = g.2 (55 + 6 * g.1 j + i)) ∧ (∀ a, a < 21 → s (115 + a) = g.2 (115 + a)) ∧ s 0 = nI mc ∧ mc ≤ 4 ∧ s 1 = nI bk ∧ bk ≤ 10
/-- the same number at the same place of the first 19 in both -/
theorem Rl_upd {mc bk : Nat} {g : zGS} {s : Nat → Int32} {k : Nat} {x : Int32} (h : Rl mc bk g s) (hk : k < 19) (h0 : k ≠ 0) (h1 : k ≠ 1) : Rl mc bk (g.1, upd g.2 k x) (upd s k x) := by
  obtain ⟨a, b, c, d, e1, e2, e3, e4⟩ := h
  refine ⟨fun i hi => ?_, fun m hm i hi => ?_, fun j hj i hi => ?_, fun q hq => ?_, ?_, e2, ?_, e4⟩
  · by_cases e : i = k
    · subst e
      rw [upd_eq]
      exact upd_eq.symm
    · rw [upd_ne e]
      exact (a i hi).trans (upd_ne e).symm
  · rw [upd_ne (by omega)]
    exact (b m hm i hi).trans (upd_ne (by omega)).symm
  · rw [upd_ne (by omega)]
    exact (c j hj i hi).trans (upd_ne (by omega)).symm
  · rw [upd_ne (by omega)]
    exact (d q hq).trans (upd_ne (by omega)).symm
  · rw [upd_ne (by omega)]
    exact e1
  · rw [upd_ne (by omega)]
    exact e3
/-- a call that changes: the same answer, and alike behind it; a call that fails answers below 0 -/
def Sim (mc' bk' : Nat) (q : Int32 × zGS) (d : Int32 × Bool × (Nat → Int32)) : Prop := q.1 = d.1 ∧ (d.2.1 = true → Rl mc' bk' q.2 d.2.2) ∧ (d.2.1 = false → q.1 < 0)
theorem Sim_fail {mc bk : Nat} {g : zGS} {s : Nat → Int32} {x : Int32} (h : x < 0) : Sim mc bk (x, g) (x, false, s) := ⟨rfl, (fun q => Bool.noConfusion q), fun _ => h⟩
theorem sim_pay {mc bk : Nat} {g : zGS} {s : Nat → Int32} {m : Int32} (h : Rl mc bk g s) : Sim mc bk (qPay g m) (dPay s m) := by
  have h5 : s 5 = g.2 5 := h.1 5 (by decide)
  have h6 : s 6 = g.2 6 := h.1 6 (by decide)
  have h14 : s 14 = g.2 14 := h.1 14 (by decide)
  unfold qPay dPay hPay
  by_cases c1 : (zwin m 1 500) = 0
  · rw [if_pos c1, if_pos c1]
    exact Sim_fail (x := -1000001) (g := g) (mc := mc) (bk := bk) (by decide)
  · rw [if_neg c1, if_neg c1, h5]
    by_cases c2 : (g.2 5) < m
    · rw [if_pos c2, if_pos c2]
      exact Sim_fail (x := -1000002) (g := g) (mc := mc) (bk := bk) (by decide)
    · rw [if_neg c2, if_neg c2, h6]
      by_cases c3 : m ≤ (g.2 6)
      · rw [if_pos c3, if_pos c3]
        refine ⟨?_, fun _ => ?_, (fun q => Bool.noConfusion q)⟩
        · show g.2 6 - m = dPy s m 6
          unfold dPy
          exact (((upd_ne (by decide)).trans upd_eq).trans (by rw [show (upd s 5 (s 5 - m)) 6 = s 6 from upd_ne (by decide), h6])).symm
        · have k1 := Rl_upd (k := 5) (x := g.2 5 - m) h (by decide) (by decide) (by decide)
          have k2 := Rl_upd (k := 6) (x := g.2 6 - m) k1 (by decide) (by decide) (by decide)
          have k3 := Rl_upd (k := 14) (x := g.2 14 + m) k2 (by decide) (by decide) (by decide)
          show Rl mc bk (g.1, upd (upd (upd g.2 5 (g.2 5 - m)) 6 (g.2 6 - m)) 14 (g.2 14 + m)) (dPy s m)
          have e : dPy s m = upd (upd (upd s 5 (g.2 5 - m)) 6 (g.2 6 - m)) 14 (g.2 14 + m) := by
            show upd (upd (upd s 5 (s 5 - m)) 6 ((upd s 5 (s 5 - m)) 6 - m)) 14 ((upd (upd s 5 (s 5 - m)) 6 ((upd s 5 (s 5 - m)) 6 - m)) 14 + m) = _
            rw [show (upd s 5 (s 5 - m)) 6 = s 6 from upd_ne (by decide), show (upd (upd s 5 (s 5 - m)) 6 (s 6 - m)) 14 = s 14 from (upd_ne (by decide)).trans (upd_ne (by decide)), h5, h6, h14]
          rw [e]
          exact k3
      · rw [if_neg c3, if_neg c3]
        exact Sim_fail (x := -1000002) (g := g) (mc := mc) (bk := bk) (by decide)

