theorem tk_step {y o : Int32} {k : Nat} {st : (Nat → Int32) × Int32} : shTakeS y o k st = if nI k < y then st else if o < nI k then st else (upd st.1 k (st.1 k - zmin st.2 (st.1 k)), st.2 - zmin st.2 (st.1 k)) := by
  unfold shTakeS zmin
  by_cases c1 : nI k < y
  · rw [if_pos c1, if_pos c1]
  · rw [if_neg c1, if_neg c1]
    by_cases c2 : o < nI k
    · rw [if_pos c2, if_pos c2]
    · rw [if_neg c2, if_neg c2]
      by_cases c3 : st.1 k ≤ st.2
      · rw [if_pos c3, if_pos c3]
      · rw [if_neg c3, if_neg c3]
/-- the class takes as the model takes -/
theorem tk_sim {s a : Nat → Int32} {g e : Nat} {x : Int32} (hg : g ≤ 20) (he : e ≤ g + 1) (h : ∀ k, k < 21 → s (115 + k) = a k) : ∀ n, n ≤ 21 → ∃ m, m = min (n - (20 - g)) (g + 1 - e) ∧ (∀ k, k < 21 → (dTk s g x m).1 (115 + k) = (shTake a (nI e) (nI g) x n).1 k) ∧ (dTk s g x m).2 = (shTake a (nI e) (nI g) x n).2
  | 0, _ => ⟨0, by omega, h, rfl⟩
  | n + 1, hn => by
    obtain ⟨m, hm, h1, h2⟩ := tk_sim (x := x) hg he h n (by omega)
    have st : shTake a (nI e) (nI g) x (n + 1) = shTakeS (nI e) (nI g) (20 - n) (shTake a (nI e) (nI g) x n) := rfl
    rw [st, tk_step]
    by_cases c1 : 20 - n < e
    · rw [if_pos (nI_lt c1 (by omega))]
      exact ⟨m, by omega, h1, h2⟩
    · rw [if_neg (nI_nlt (by omega) (by omega))]
      by_cases c2 : g < 20 - n
      · rw [if_pos (nI_lt c2 (by omega))]
        exact ⟨m, by omega, h1, h2⟩
      · rw [if_neg (nI_nlt (by omega) (by omega))]
        refine ⟨m + 1, by omega, ?_, ?_⟩
        · intro k hk
          rw [dTk_s]
          show upd (dTk s g x m).1 (115 + (g - m)) ((dTk s g x m).1 (115 + (g - m)) - zmin (dTk s g x m).2 ((dTk s g x m).1 (115 + (g - m)))) (115 + k) = upd (shTake a (nI e) (nI g) x n).1 (20 - n) _ k
          rw [show g - m = 20 - n by omega]
          by_cases e1 : k = 20 - n
          · rw [e1, upd_eq, upd_eq, h1 _ (by omega), h2]
          · rw [upd_ne (by omega), upd_ne e1]
            exact h1 k hk
        · rw [dTk_s]
          show (dTk s g x m).2 - zmin (dTk s g x m).2 ((dTk s g x m).1 (115 + (g - m))) = _
          rw [show g - m = 20 - n by omega, h1 _ (by omega), h2]

