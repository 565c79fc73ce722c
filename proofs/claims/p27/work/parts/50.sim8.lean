theorem shMany_from {s a : Nat → Int32} {x b : Nat} (hx : x ≤ 21) (hb : b ≤ 20) (h : ∀ k, k < 21 → s (115 + k) = a k) : ∀ n, n ≤ 21 → n ≤ b + 1 → shMany a (nI x) (nI b) n = dLF s x (n - x)
  | 0, _, _ => by
    rw [Nat.zero_sub]
    rfl
  | n + 1, hn, hb1 => by
    show (if nI n < nI x then shMany a (nI x) (nI b) n else if nI b < nI n then shMany a (nI x) (nI b) n else shMany a (nI x) (nI b) n + a n) = _
    rw [shMany_from hx hb h n (by omega) (by omega)]
    rcases Nat.lt_or_ge n x with q | q
    · rw [if_pos (nI_lt q (by omega)), show n + 1 - x = 0 by omega, show n - x = 0 by omega]
    · rw [if_neg (nI_nlt q (by omega)), if_neg (nI_nlt (by omega) (by omega)), show n + 1 - x = (n - x) + 1 by omega]
      show _ = dLF s x (n - x) + s (115 + (x + (n - x)))
      rw [show x + (n - x) = n by omega, h n (by omega)]
/-- all loaves -/
theorem sim_all {mc bk : Nat} {g : zGS} {s : Nat → Int32} (h : Rl mc bk g s) : shMany (fun k9 => g.2 (115 + k9)) 0 20 21 = dLF s 0 21 :=
  shMany_from (x := 0) (b := 20) (by decide) (by decide) (fun k hk => h.ag hk) 21 (by decide) (by decide)
theorem shMany_stop {a : Nat → Int32} {x b : Nat} (hb : b ≤ 20) (n : Nat) (hn : b + 1 ≤ n) (h21 : n ≤ 21) : shMany a (nI x) (nI b) n = shMany a (nI x) (nI b) (b + 1) := by
  obtain ⟨d, rfl⟩ : ∃ d, n = b + 1 + d := ⟨n - (b + 1), by omega⟩
  induction d with
  | zero => rfl
  | succ d ih =>
    show (if nI (b + 1 + d) < nI x then shMany a (nI x) (nI b) (b + 1 + d) else if nI b < nI (b + 1 + d) then shMany a (nI x) (nI b) (b + 1 + d) else shMany a (nI x) (nI b) (b + 1 + d) + a (b + 1 + d)) = _
    rw [ih (by omega) (by omega)]
    by_cases q : nI (b + 1 + d) < nI x
    · rw [if_pos q]
    · rw [if_neg q, if_pos (nI_lt (by omega) (by omega))]
/-- the loaves of the ages x to b -/
theorem sim_sum {mc bk : Nat} {g : zGS} {s : Nat → Int32} {x b : Nat} (h : Rl mc bk g s) (hx : x ≤ 21) (hb : b ≤ 20) : shMany (fun k9 => g.2 (115 + k9)) (nI x) (nI b) 21 = dLF s x (b + 1 - x) :=
  (shMany_stop hb 21 (by omega) (by decide)).trans (shMany_from hx hb (fun k hk => h.ag hk) (b + 1) (by omega) (Nat.le_refl _))

