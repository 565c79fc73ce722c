theorem shMany_from {s a : Nat → Int32} {x b : Nat} (hx : x ≤ 21) (hb : b ≤ 20) (h : ∀ k, k < 21 → s (115 + k) = a k) : ∀ n, n ≤ 21 → n ≤ b + 1 → shMany a (nI x) (nI b) n = dLF s x (n - x)
  | 0, _, _ => by
    rw [Nat.zero_sub]
    rfl
  | n + 1, hn, hb1 => by
    show (if nI n < nI x then shMany a (nI x) (nI b) n else if nI b < nI n then shMany a (nI x) (nI b) n else shMany a (nI x) (nI b) n + a n) = _
    rw [shMany_from hx hb h n (by omega) (by omega)]
    rcases Nat.lt_or_ge n x with q | q
    · rw [if_pos (nI_lt q (by omega)), show n + 1 - x = 0 by omega, show n - x = 0 by omega]
    · rw [if_neg (nI_nlt q (by omega)), if_neg (nI_nlt (by omega) (by omega)), show n + 1 - x = (n - x) + 1 by omega]
      show _ = dLF s x (n - x) + s (115 + (x + (n - x)))
      rw [show x + (n - x) = n by omega, h n (by omega)]
/-- all loaves -/
theorem sim_all {mc bk : Nat} {g : zGS} {s : Nat → Int32} (h : Rl mc bk g s) : shMany (fun k9 => g.2 (115 + k9)) 0 20 21 = dLF s 0 21 :=
  shMany_from (x := 0) (b := 20) (by decide) (by decide) (fun k hk => h.ag hk) 21 (by decide) (by decide)
