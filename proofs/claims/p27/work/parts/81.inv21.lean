/-- the ages of all loaves together -/
def aW (s : Nat → Int32) : Nat → Int
  | 0 => 0
  | n + 1 => aW s n + (n : Int) * (s (115 + n)).toInt
theorem aW_b {s : Nat → Int32} (h : aNN s) (h0 : s 115 = 0) : ∀ n, n ≤ 21 → aT s 0 n ≤ aW s n ∧ aW s n ≤ 20 * aT s 0 n
  | 0, _ => ⟨Int.le_refl 0, Int.le_refl 0⟩
  | n + 1, hn => by
    obtain ⟨a, b⟩ := aW_b h h0 n (by omega)
    have p := h n (by omega)
    have e1 : aT s 0 (n + 1) = aT s 0 n + (s (115 + (0 + n))).toInt := rfl
    have e2 : aW s (n + 1) = aW s n + (n : Int) * (s (115 + n)).toInt := rfl
    rw [Nat.zero_add] at e1
    rw [e1, e2]
    by_cases q : n = 0
    · subst q
      have z : s (115 + 0) = 0 := h0
      rw [z, tk0, Int.mul_zero]
      omega
    · have l1 : (1 : Int) * (s (115 + n)).toInt ≤ (n : Int) * (s (115 + n)).toInt := Int.mul_le_mul_of_nonneg_right (by omega) p
      have l2 : (n : Int) * (s (115 + n)).toInt ≤ 20 * (s (115 + n)).toInt := Int.mul_le_mul_of_nonneg_right (by omega) p
      omega
theorem iteE {x c a a' b b' : Int32} (h1 : a = a') (h2 : b = b') : (if x = c then a else b) = if x = c then a' else b' := by rw [h1, h2]
theorem sim_way {mc bk : Nat} {g : zGS} {s : Nat → Int32} (h : Rl mc bk g s) : ∀ n, n ≤ mc → hWay g.2 n = dOt s n
  | 0, _ => rfl
  | n + 1, hn => by
    show hWay g.2 n + g.2 (19 + 9 * n + 4) = dOt s n + s (19 + 9 * n + 4)
    rw [sim_way h n (by omega), h.mu (i := 4) (show n < mc by omega) (by decide)]
theorem sim_count {B : Int} {g : zGS} {s v : Nat → Int32} {k : Nat} {l x : Int32} (H : St B g s) (hk : v 0 = nI k) (hl : v 2 = l) : ∀ mc fr, s 0 = nI mc → mc ≤ 4 → s 17 = nI fr → fr ≤ 15 → cCount g k l x = dCount v s mc fr x := by
  obtain ⟨mc', bk, r, o, i⟩ := H
  intro mc fr h1 h10 h17 hfr
  have em : mc' = mc := nI_inj4 (r.s0.1.symm.trans h1) (by have := r.s0.2; omega) (by omega)
  subst em
  have g0 : g.2 0 = nI mc' := (r.at (by decide)).symm.trans r.s0.1
  have ec : (g.2 0).toNatClampNeg = mc' := by rw [g0, nI_clamp (by omega)]
  have e17 : g.2 17 + 1 = nI (fr + 1) := by
    rw [← r.at (i := 17) (by decide), h17]
    exact nI_add fr 1
  unfold cCount dCount
  rw [ec]
  by_cases x18 : x = 18
  · subst x18
    rw [if_pos rfl, if_neg (show ¬ (18 : Int32) = 0 by decide), if_neg (show ¬ (18 : Int32) = 1 by decide), if_neg (show ¬ (18 : Int32) = 2 by decide), if_neg (show ¬ (18 : Int32) = 3 by decide), if_neg (show ¬ (18 : Int32) = 4 by decide), if_neg (show ¬ (18 : Int32) = 5 by decide), if_neg (show ¬ (18 : Int32) = 6 by decide), if_neg (show ¬ (18 : Int32) = 7 by decide), if_neg (show ¬ (18 : Int32) = 8 by decide), if_neg (show ¬ (18 : Int32) = 9 by decide), if_neg (show ¬ (18 : Int32) = 10 by decide), if_neg (show ¬ (18 : Int32) = 11 by decide), if_neg (show ¬ (18 : Int32) = 12 by decide), if_neg (show ¬ (18 : Int32) = 13 by decide), if_neg (show ¬ (18 : Int32) = 14 by decide), if_neg (show ¬ (18 : Int32) = 15 by decide), if_neg (show ¬ (18 : Int32) = 16 by decide), if_neg (show ¬ (18 : Int32) = 17 by decide), if_pos rfl, hk]
  by_cases x19 : x = 19
  · subst x19
    rw [if_neg (show ¬ (19 : Int32) = 18 by decide), if_pos rfl, if_neg (show ¬ (19 : Int32) = 0 by decide), if_neg (show ¬ (19 : Int32) = 1 by decide), if_neg (show ¬ (19 : Int32) = 2 by decide), if_neg (show ¬ (19 : Int32) = 3 by decide), if_neg (show ¬ (19 : Int32) = 4 by decide), if_neg (show ¬ (19 : Int32) = 5 by decide), if_neg (show ¬ (19 : Int32) = 6 by decide), if_neg (show ¬ (19 : Int32) = 7 by decide), if_neg (show ¬ (19 : Int32) = 8 by decide), if_neg (show ¬ (19 : Int32) = 9 by decide), if_neg (show ¬ (19 : Int32) = 10 by decide), if_neg (show ¬ (19 : Int32) = 11 by decide), if_neg (show ¬ (19 : Int32) = 12 by decide), if_neg (show ¬ (19 : Int32) = 13 by decide), if_neg (show ¬ (19 : Int32) = 14 by decide), if_neg (show ¬ (19 : Int32) = 15 by decide), if_neg (show ¬ (19 : Int32) = 16 by decide), if_neg (show ¬ (19 : Int32) = 17 by decide), if_neg (show ¬ (19 : Int32) = 18 by decide), if_pos rfl, hl]
  rw [if_neg x18, if_neg x19]
  unfold hTell
  refine iteE (r.at (i := 0) (by decide)).symm ?_
  refine iteE (r.at (i := 1) (by decide)).symm ?_
  refine iteE (r.at (i := 2) (by decide)).symm ?_
  refine iteE (r.at (i := 3) (by decide)).symm ?_
  refine iteE (r.at (i := 4) (by decide)).symm ?_
  refine iteE (r.at (i := 5) (by decide)).symm ?_
  refine iteE (r.at (i := 6) (by decide)).symm ?_
  refine iteE (sim_all r) ?_
  refine iteE (by rw [e17]; exact sim_sum r (x := fr + 1) (b := 20) (by omega) (by decide)) ?_
  refine iteE (sim_way r mc' (Nat.le_refl _)) ?_
  refine iteE (r.at (i := 7) (by decide)).symm ?_
  refine iteE (r.at (i := 8) (by decide)).symm ?_
  refine iteE (r.at (i := 9) (by decide)).symm ?_
  refine iteE (r.at (i := 10) (by decide)).symm ?_
  refine iteE (r.at (i := 11) (by decide)).symm ?_
  refine iteE (r.at (i := 12) (by decide)).symm ?_
  refine iteE (r.at (i := 13) (by decide)).symm ?_
  refine iteE (r.at (i := 14) (by decide)).symm ?_
  rw [if_neg x18, if_neg x19]
  by_cases c : zwin x 20 23 = 0
  · rw [if_pos c, if_pos c]
  · rw [if_neg c, if_neg c]
    have hx := zix1 (zwin_nn c (by decide))
    have hx3 := zwin_hi c (by decide) (show (23 : Int32) = nI 23 from rfl) (by decide)
    have w := zw_t c
    have t20 := tk20
    revert hx hx3
    generalize x.toNatClampNeg = j
    intro hx hx3
    have tj := tnI (n := j) (by omega)
    rw [hx] at w
    rcases (show j = 20 ∨ j = 21 ∨ j = 22 ∨ j = 23 by omega) with e | e | e | e
    · rw [hx, e]
      exact (r.at (i := 15) (by decide)).symm
    · rw [hx, e]
      exact (r.at (i := 16) (by decide)).symm
    · rw [hx, e]
      exact (r.at (i := 17) (by decide)).symm
    · rw [hx, e]
      exact (r.at (i := 18) (by decide)).symm

