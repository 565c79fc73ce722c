theorem zmin_swap {a b : Int32} : zmin a b = if a < b then a else b := by
  apply tinj
  rw [tmin]
  by_cases q : a < b
  · have := tlt.mp q
    rw [if_pos q]
    omega
  · have : ¬ a.toInt < b.toInt := fun z => q (tlt.mpr z)
    rw [if_neg q]
    omega
theorem best_sim {mc bk : Nat} {g : zGS} {s : Nat → Int32} (h : Rl mc bk g s) : ∀ n, n ≤ mc → (hBest g.2 n = none ∧ dNe s n = -1000004) ∨ ∃ k, k < n ∧ hBest g.2 n = some k ∧ dNe s n = nI k
  | 0, _ => .inl ⟨rfl, rfl⟩
  | n + 1, hn => by
    have h4 := h.s0.2
    have e1 : hBest g.2 (n + 1) = hBestS g.2 n (hBest g.2 n) := rfl
    have e2 : dNe s (n + 1) = dNeS s n (dNe s n) := rfl
    rw [e1, e2]
    unfold hBestS dNeS
    rw [h.mu (i := 2) (show n < mc by omega) (by decide)]
    by_cases q : g.2 (19 + 9 * n + 2) = 0
    · rw [if_pos q, if_pos q]
      rcases best_sim h n (by omega) with ⟨a, b⟩ | ⟨k, hk, a, b⟩
      · rw [a, b, if_pos (show (-1000004 : Int32) < 0 by decide)]
        exact .inr ⟨n, by omega, rfl, rfl⟩
      · have nn : ¬ nI k < 0 := neg_nn (by rw [tnI (by omega)]; omega)
        rw [a, b, if_neg nn, nI_clamp (by omega)]
        rw [h.mu (i := 0) (show k < mc by omega) (by decide), h.mu (i := 0) (show n < mc by omega) (by decide), h.mu (i := 6) (show n < mc by omega) (by decide), h.mu (i := 6) (show k < mc by omega) (by decide)]
        have ea : mAhead (fun i9 => g.2 (19 + 9 * n + i9)) (fun i9 => g.2 (19 + 9 * k + i9)) = if g.2 (19 + 9 * n + 0) = g.2 (19 + 9 * k + 0) then (if g.2 (19 + 9 * k + 6) ≤ g.2 (19 + 9 * n + 6) then 0 else 1) else if g.2 (19 + 9 * n + 0) ≤ g.2 (19 + 9 * k + 0) then 0 else 1 := rfl
        dsimp only
        rw [ea]
        by_cases z1 : g.2 (19 + 9 * n + 0) = g.2 (19 + 9 * k + 0)
        · rw [if_pos z1, if_neg (show ¬ g.2 (19 + 9 * k + 0) < g.2 (19 + 9 * n + 0) by rw [z1]; exact fun z => by have := tlt.mp z; omega), if_pos z1]
          by_cases z2 : g.2 (19 + 9 * k + 6) ≤ g.2 (19 + 9 * n + 6)
          · rw [if_pos z2, if_pos z2, if_pos rfl]
            exact .inr ⟨k, by omega, rfl, rfl⟩
          · rw [if_neg z2, if_neg z2, if_neg (show ¬ (1 : Int32) = 0 by decide)]
            exact .inr ⟨n, by omega, rfl, rfl⟩
        · rw [if_neg z1]
          have z1' : (g.2 (19 + 9 * n + 0)).toInt ≠ (g.2 (19 + 9 * k + 0)).toInt := fun z => z1 (tinj z)
          by_cases z2 : g.2 (19 + 9 * n + 0) ≤ g.2 (19 + 9 * k + 0)
          · have w := tle.mp z2
            rw [if_pos z2, if_pos rfl, if_neg (show ¬ g.2 (19 + 9 * k + 0) < g.2 (19 + 9 * n + 0) from fun z => by have := tlt.mp z; omega), if_neg z1]
            exact .inr ⟨k, by omega, rfl, rfl⟩
          · have w : ¬ (g.2 (19 + 9 * n + 0)).toInt ≤ (g.2 (19 + 9 * k + 0)).toInt := fun z => z2 (tle.mpr z)
            rw [if_neg z2, if_neg (show ¬ (1 : Int32) = 0 by decide), if_pos (show g.2 (19 + 9 * k + 0) < g.2 (19 + 9 * n + 0) from tlt.mpr (by omega))]
            exact .inr ⟨n, by omega, rfl, rfl⟩
    · rw [if_neg q, if_neg q]
      rcases best_sim h n (by omega) with ⟨a, b⟩ | ⟨k, hk, a, b⟩
      · exact .inl ⟨a, b⟩
      · exact .inr ⟨k, by omega, a, b⟩
theorem dCp_at {b a : Nat → Int32} {k : Nat} : ∀ n, dCp b a n k = if k < n then a k else b k
  | 0 => rfl
  | n + 1 => by
    show upd (dCp b a n) n (a n) k = _
    by_cases e : k = n
    · rw [e, upd_eq, if_pos (by omega)]
    · rw [upd_ne e, dCp_at n]
      by_cases q : k < n
      · rw [if_pos q, if_pos (by omega)]
      · rw [if_neg q, if_neg (by omega)]
