theorem gRem_at {γ : Nat → Nat} {q : Nat} (hq : q < 10) : ∀ n, n ≤ 9 → ∀ k, gRem γ (nI q) n k = if q ≤ k ∧ k < n then γ (k + 1) else if k = n ∧ q ≤ n then γ q else γ k
  | 0, _, k => by
    rw [if_neg (by omega)]
    by_cases e : k = 0 ∧ q ≤ 0
    · rw [if_pos e, show q = 0 by omega, e.1]
      rfl
    · rw [if_neg e]
      rfl
  | n + 1, hn, k => by
    have h := gRem_at (γ := γ) hq n (by omega)
    show gRemS (nI q) n (gRem γ (nI q) n) k = _
    unfold gRemS
    by_cases c : n + 1 ≤ q
    · rw [if_pos ((nI_leI (by omega) (by omega)).mpr c), h k, if_neg (by omega), if_neg (by omega)]
      by_cases e : k = n + 1 ∧ q ≤ n + 1
      · rw [if_neg (by omega), if_pos e, e.1, show q = n + 1 by omega]
      · rw [if_neg (by omega), if_neg e]
    · rw [if_neg (fun z => c ((nI_leI (by omega) (by omega)).mp z))]
      by_cases e1 : k = n
      · subst e1
        rw [va_up_self, h, if_neg (by omega), if_neg (by omega), if_pos (by omega)]
      · rw [va_up_ne _ _ e1]
        by_cases e2 : k = n + 1
        · subst e2
          rw [va_up_self, h, if_neg (by omega), if_pos (by omega), if_neg (by omega), if_pos (by omega)]
        · rw [va_up_ne _ _ e2, h k]
          by_cases e3 : q ≤ k ∧ k < n
          · rw [if_pos e3, if_pos (by omega)]
          · rw [if_neg e3, if_neg (by omega), if_neg (by omega), if_neg (by omega)]

