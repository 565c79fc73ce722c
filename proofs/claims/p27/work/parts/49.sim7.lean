theorem shMany_one {a : Nat → Int32} {k : Nat} (hk : k < 21) : ∀ n, n ≤ 21 → shMany a (nI k) (nI k) n = if k < n then a k else 0
  | 0, _ => by
    rw [if_neg (by omega)]
    rfl
  | n + 1, hn => by
    show (if nI n < nI k then shMany a (nI k) (nI k) n else if nI k < nI n then shMany a (nI k) (nI k) n else shMany a (nI k) (nI k) n + a n) = _
    rw [shMany_one hk n (by omega)]
    rcases Nat.lt_trichotomy n k with q | q | q
    · rw [if_pos (nI_lt q (by omega)), if_neg (by omega), if_neg (by omega)]
    · subst q
      rw [if_neg (nI_nlt (Nat.le_refl _) (by omega)), if_neg (nI_nlt (Nat.le_refl _) (by omega)), if_neg (by omega), if_pos (by omega), Int32.zero_add]
    · rw [if_neg (nI_nlt (by omega) (by omega)), if_pos (nI_lt q (by omega)), if_pos (by omega), if_pos (by omega)]
theorem sim_loaves2 {mc bk : Nat} {g : zGS} {s : Nat → Int32} {x : Int32} (h : Rl mc bk g s) : cLoaves g x = dLoaves s x :=
  sim_loaves h (fun k hk => (shMany_one hk 21 (by decide)).trans (if_pos hk))

