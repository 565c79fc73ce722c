theorem Rl.at {mc bk : Nat} {g : zGS} {s : Nat → Int32} (h : Rl mc bk g s) {i : Nat} (hi : i < 19) : s i = g.2 i := h.1 i hi
theorem Rl.mu {mc bk : Nat} {g : zGS} {s : Nat → Int32} (h : Rl mc bk g s) {m i : Nat} (hm : m < mc) (hi : i < 9) : s (19 + 9 * m + i) = g.2 (19 + 9 * m + i) := h.2.1 m hm i hi
theorem Rl.gr {mc bk : Nat} {g : zGS} {s : Nat → Int32} (h : Rl mc bk g s) {j i : Nat} (hj : j < bk) (hi : i < 6) : s (55 + 6 * j + i) = g.2 (55 + 6 * g.1 j + i) := h.2.2.1 j hj i hi
theorem Rl.ag {mc bk : Nat} {g : zGS} {s : Nat → Int32} (h : Rl mc bk g s) {a : Nat} (ha : a < 21) : s (115 + a) = g.2 (115 + a) := h.2.2.2.1 a ha
theorem Rl.s0 {mc bk : Nat} {g : zGS} {s : Nat → Int32} (h : Rl mc bk g s) : s 0 = nI mc ∧ mc ≤ 4 := ⟨h.2.2.2.2.1, h.2.2.2.2.2.1⟩
theorem Rl.s1 {mc bk : Nat} {g : zGS} {s : Nat → Int32} (h : Rl mc bk g s) : s 1 = nI bk ∧ bk ≤ 10 := h.2.2.2.2.2.2
/-- a mule that there is -/
theorem Rl.k {mc bk : Nat} {g : zGS} {s : Nat → Int32} (h : Rl mc bk g s) {x : Int32} (h1 : ¬ x < 0) (h2 : ¬ s 0 ≤ x) : x.toNatClampNeg < mc := by
  obtain ⟨a, b⟩ := h.s0
  exact zix2 h1 (by omega) (by rw [← a]; exact h2)
theorem dIs_0 {s : Nat → Int32} {x : Int32} (h : x < 0 ∨ s 0 ≤ x) : dIs s x = 0 := by
  unfold dIs
  by_cases q : x < 0
  · rw [if_pos q]
  · rw [if_neg q, if_pos (h.resolve_left q)]
theorem dIs_1 {s : Nat → Int32} {x : Int32} (h : ¬ x < 0) (h2 : ¬ s 0 ≤ x) : dIs s x = 1 := by
  unfold dIs
  rw [if_neg h, if_neg h2]
theorem sim_why {mc bk : Nat} {g : zGS} {s : Nat → Int32} {x n : Int32} (h : Rl mc bk g s) : hWhy g.2 x n = dWhyQ s x n := by
  have h0 : s 0 = g.2 0 := h.at (by decide)
  unfold hWhy dWhyQ
  by_cases c1 : x < 0
  · rw [if_pos c1, dIs_0 (.inl c1), if_pos rfl]
  · rw [if_neg c1]
    by_cases c2 : g.2 0 ≤ x
    · rw [if_pos c2, dIs_0 (.inr (by rw [h0]; exact c2)), if_pos rfl]
    · have c2' : ¬ s 0 ≤ x := by rw [h0]; exact c2
      rw [if_neg c2, dIs_1 c1 c2', if_neg (show ¬ (1 : Int32) = 0 by decide)]
      have hk := h.k c1 c2'
      unfold dWhy
      rw [h.mu hk (by decide), h.mu hk (by decide), h.at (i := 6) (by decide), h.at (i := 15) (by decide), h.at (i := 16) (by decide)]
theorem sim_rest {mc bk : Nat} {g : zGS} {s : Nat → Int32} {x : Int32} (h : Rl mc bk g s) : Sim mc bk (qRest g x) (dRest s x) := by
  have h0 : s 0 = g.2 0 := h.at (by decide)
  unfold qRest dRest hRest
  by_cases c1 : x < 0
  · rw [if_pos c1, dIs_0 (.inl c1), if_pos rfl]
    exact Sim_fail (x := -1000001) (g := g) (mc := mc) (bk := bk) (by decide)
  · rw [if_neg c1]
    by_cases c2 : g.2 0 ≤ x
    · rw [if_pos c2, dIs_0 (.inr (by rw [h0]; exact c2)), if_pos rfl]
      exact Sim_fail (x := -1000001) (g := g) (mc := mc) (bk := bk) (by decide)
    · have c2' : ¬ s 0 ≤ x := by rw [h0]; exact c2
      rw [if_neg c2, dIs_1 c1 c2', if_neg (show ¬ (1 : Int32) = 0 by decide)]
      have hk := h.k c1 c2'
      have hm4 := h.s0.2
      rw [h.mu (i := 2) hk (by decide)]
      by_cases c3 : g.2 (19 + 9 * x.toNatClampNeg + 2) = 0
      · rw [if_pos c3, if_pos c3]
        refine ⟨(h.mu (i := 6) hk (by decide)).symm, fun _ => ?_, (fun q => Bool.noConfusion q)⟩
        generalize x.toNatClampNeg = k at *
        show Rl mc bk (g.1, upd g.2 (19 + 9 * k + 6) 0) (upd s (19 + 9 * k + 6) 0)
        obtain ⟨a, b, c, d, e1, e2, e3, e4⟩ := h
        refine ⟨fun i hi => ?_, fun m hm i hi => ?_, fun j hj i hi => ?_, fun q hq => ?_, ?_, e2, ?_, e4⟩
        · rw [upd_ne (by omega)]
          exact (a i hi).trans (upd_ne (by omega)).symm
        · by_cases e : 19 + 9 * m + i = 19 + 9 * k + 6
          · rw [e, upd_eq]
            exact upd_eq.symm
          · rw [upd_ne e]
            exact (b m hm i hi).trans (upd_ne e).symm
        · rw [upd_ne (by omega)]
          exact (c j hj i hi).trans (upd_ne (by omega)).symm
        · rw [upd_ne (by omega)]
          exact (d q hq).trans (upd_ne (by omega)).symm
        · rw [upd_ne (by omega)]
          exact e1
        · rw [upd_ne (by omega)]
          exact e3
      · rw [if_neg c3, if_neg c3]
        exact Sim_fail (x := -1000002) (g := g) (mc := mc) (bk := bk) (by decide)

