theorem pl_sim {mc bk : Nat} {g : zGS} {s : Nat → Int32} {x : Int32} (h : Rl mc bk g s) : ∀ m k, k + m ≤ bk → (hPlace g.1 g.2 x m k = -1 ∧ dPl s x m k = -1000004) ∨ ∃ j, k ≤ j ∧ j < k + m ∧ hPlace g.1 g.2 x m k = nI j ∧ dPl s x m k = nI j
  | 0, _, _ => .inl ⟨rfl, rfl⟩
  | m + 1, k, hk => by
    unfold hPlace dPl
    rw [h.gr (j := k) (i := 0) (by omega) (by decide)]
    by_cases c : g.2 (55 + 6 * g.1 k + 0) = x
    · rw [if_pos c, if_pos c]
      exact .inr ⟨k, Nat.le_refl _, by omega, rfl, rfl⟩
    · rw [if_neg c, if_neg c]
      rcases pl_sim h m (k + 1) (by omega) with q | ⟨j, h1, h2, h3⟩
      · exact .inl q
      · exact .inr ⟨j, by omega, by omega, h3⟩

