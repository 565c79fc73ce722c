theorem shGrow_at {a : Nat → Int32} : ∀ n k, (shGrow a n).1 k = (if k < n then (if k = 0 then 0 else a (k - 1)) else a k) ∧ (shGrow a n).2 = (if n = 0 then 0 else a (n - 1))
  | 0, k => by
    rw [if_neg (by omega)]
    exact ⟨rfl, rfl⟩
  | n + 1, k => by
    have h := fun j => (shGrow_at (a := a) n j).1
    have h2 := (shGrow_at (a := a) n 0).2
    refine ⟨?_, ?_⟩
    · show upd (shGrow a n).1 n (shGrow a n).2 k = _
      by_cases e : k = n
      · subst e
        rw [upd_eq, h2, if_pos (show k < k + 1 by omega)]
      · rw [upd_ne e, h k]
        by_cases q : k < n
        · rw [if_pos q, if_pos (show k < n + 1 by omega)]
        · rw [if_neg q, if_neg (by omega)]
    · show (shGrow a n).1 n = _
      rw [h n, if_neg (by omega), if_neg (by omega), Nat.add_sub_cancel]
theorem dSh_at {t : Nat → Int32} : ∀ n, n ≤ 20 → ∀ k, k < 21 → dSh t n (115 + k) = if 20 - n < k then t (115 + (k - 1)) else t (115 + k)
  | 0, _, k, hk => by
    rw [if_neg (by omega)]
    rfl
  | n + 1, hn, k, hk => by
    show upd (dSh t n) (115 + (20 - n)) (dSh t n (115 + (20 - n - 1))) (115 + k) = _
    by_cases e : k = 20 - n
    · subst e
      rw [upd_eq, dSh_at n (by omega) _ (by omega), if_neg (by omega), if_pos (by omega)]
    · rw [upd_ne (by omega), dSh_at n (by omega) k hk]
      by_cases q : 20 - n < k
      · rw [if_pos q, if_pos (by omega)]
      · rw [if_neg q, if_neg (by omega)]

