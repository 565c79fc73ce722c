/-- the last group goes ahead in the row: the model's numbers behind a group's going -/
theorem dGoL_at {s : Nat → Int32} {k b : Nat} : ∀ n, ∀ i, 55 ≤ i → dGoL s k b n i = if 55 + 6 * k ≤ i ∧ i < 55 + 6 * k + n then s (i + 6) else s i
  | 0, i, hi => by
    rw [if_neg (by omega)]
    show upd s 1 (nI b) i = s i
    exact upd_ne (by omega)
  | n + 1, i, hi => by
    show upd (dGoL s k b n) (55 + 6 * k + n) (dGoL s k b n (55 + 6 * k + n + 6)) i = _
    by_cases e : i = 55 + 6 * k + n
    · rw [e, upd_eq, dGoL_at n _ (by omega), if_neg (by omega), if_pos (by omega)]
    · rw [upd_ne e, dGoL_at n i hi]
      by_cases q : 55 + 6 * k ≤ i ∧ i < 55 + 6 * k + n
      · rw [if_pos q, if_pos (by omega)]
      · rw [if_neg q, if_neg (by omega)]
theorem dGo_at {s : Nat → Int32} {k b j i : Nat} (hb : b ≤ 10) (hj : j < b) (hi : i < 6) : dGo s k b (55 + 6 * j + i) = if k ≤ j then s (55 + 6 * (j + 1) + i) else s (55 + 6 * j + i) := by
  unfold dGo
  rw [dGoL_at _ _ (by omega)]
  by_cases q : k ≤ j
  · rw [if_pos (by omega), if_pos q, show 55 + 6 * j + i + 6 = 55 + 6 * (j + 1) + i by omega]
  · rw [if_neg (by omega), if_neg q]

