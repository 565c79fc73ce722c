/-- the ages of all loaves together -/
def aW (s : Nat → Int32) : Nat → Int
  | 0 => 0
  | n + 1 => aW s n + (n : Int) * (s (115 + n)).toInt
theorem aW_b {s : Nat → Int32} (h : aNN s) (h0 : s 115 = 0) : ∀ n, n ≤ 21 → aT s 0 n ≤ aW s n ∧ aW s n ≤ 20 * aT s 0 n
  | 0, _ => ⟨Int.le_refl 0, Int.le_refl 0⟩
  | n + 1, hn => by
    obtain ⟨a, b⟩ := aW_b h h0 n (by omega)
    have p := h n (by omega)
    have e1 : aT s 0 (n + 1) = aT s 0 n + (s (115 + (0 + n))).toInt := rfl
    have e2 : aW s (n + 1) = aW s n + (n : Int) * (s (115 + n)).toInt := rfl
    rw [Nat.zero_add] at e1
    rw [e1, e2]
    by_cases q : n = 0
    · subst q
      have z : s (115 + 0) = 0 := h0
      rw [z, tk0, Int.mul_zero]
      omega
    · have l1 : (1 : Int) * (s (115 + n)).toInt ≤ (n : Int) * (s (115 + n)).toInt := Int.mul_le_mul_of_nonneg_right (by omega) p
      have l2 : (n : Int) * (s (115 + n)).toInt ≤ 20 * (s (115 + n)).toInt := Int.mul_le_mul_of_nonneg_right (by omega) p
      omega
theorem dAg_t {s : Nat → Int32} (h : iAg s) (h0 : s 115 = 0) : ∀ n, n ≤ 21 → (dAg s n).toInt = aW s n
  | 0, _ => tk0
  | n + 1, hn => by
    have ih := dAg_t h h0 n (by omega)
    have p := h.1 n (by omega)
    have hT := h.2
    have tn := tnI (n := n) (by omega)
    obtain ⟨b1, b2⟩ := aW_b h.1 h0 n (by omega)
    obtain ⟨b3, b4⟩ := aW_b h.1 h0 (n + 1) hn
    have z0 := aT_nn h.1 0 n (by omega)
    have z1 := aT_le (a := 0) (n := n) h.1 (by omega)
    have z2 := aT_le (a := 0) (n := n + 1) h.1 (by omega)
    have e2 : aW s (n + 1) = aW s n + (n : Int) * (s (115 + n)).toInt := rfl
    have pm : 0 ≤ (n : Int) * (s (115 + n)).toInt := Int.mul_nonneg (by omega) p
    have tm : (nI n * s (115 + n)).toInt = (n : Int) * (s (115 + n)).toInt := by
      rw [tmul (by rw [tn]; omega) (by rw [tn]; omega), tn]
    show (dAg s n + nI n * s (115 + n)).toInt = _
    rw [tadd (by omega) (by omega), ih, tm, e2]
theorem mean_num {s : Nat → Int32} (h : iAg s) (h0 : s 115 = 0) : (dLF s 0 21 = 0 → dAg s 21 = 0) ∧ (¬ dLF s 0 21 = 0 → 0 < dLF s 0 21 ∧ ∃ j T, j ≤ 13 ∧ T < 8388608 ∧ FP.fdiv (FP.i2f (dAg s 21)) (FP.i2f (dLF s 0 21)) = zfl (127 + j) T) := by
  have t0 := tk0
  have e1 := dLF_t h.1 h.2 0 21 (by decide)
  have e2 := dAg_t h h0 21 (by decide)
  obtain ⟨b1, b2⟩ := aW_b h.1 h0 21 (by decide)
  have z0 := aT_nn h.1 0 21 (by decide)
  have hT := h.2
  refine ⟨fun q => tinj ?_, fun q => ?_⟩
  · rw [q, t0] at e1
    rw [e2, t0]
    omega
  · have q' : (dLF s 0 21).toInt ≠ 0 := fun z => q (tinj (z.trans t0.symm))
    obtain ⟨b, hb, eb⟩ := nI_of (x := dLF s 0 21) (neg_nn (by omega))
    obtain ⟨a, ha, ea⟩ := nI_of (x := dAg s 21) (neg_nn (by omega))
    have tb := tnI hb
    have ta := tnI ha
    rw [← eb] at tb
    rw [← ea] at ta
    obtain ⟨E, T, c1, c2, c3, c4⟩ := zfl_div (a := a) (b := b) (by omega) (by omega) (by omega) (by omega)
    refine ⟨tlt.mpr (by omega), E - 127, T, by omega, c3, ?_⟩
    rw [eb, ea, show 127 + (E - 127) = E by omega]
    exact c4
theorem sim_ages {mc bk : Nat} {g : zGS} {s : Nat → Int32} (h : Rl mc bk g s) : cAges g = dAg s 21 := by
  have key : ∀ n, n ≤ 21 → shAges (fun k9 => g.2 (115 + k9)) n = dAg s n := by
    intro n
    induction n with
    | zero => exact fun _ => rfl
    | succ n ih =>
      intro hn
      show shAges (fun k9 => g.2 (115 + k9)) n + nI n * g.2 (115 + n) = dAg s n + nI n * s (115 + n)
      rw [ih (by omega), h.ag (show n < 21 by omega)]
  exact key 21 (Nat.le_refl _)
theorem sim_mean {B : Int} {g : zGS} {s : Nat → Int32} (H : St B g s) : cMean g = dMean s ∧ (dLF s 0 21 = 0 → dAg s 21 = 0) ∧ (¬ dLF s 0 21 = 0 → ∃ j T, j ≤ 13 ∧ T < 8388608 ∧ FP.fdiv (FP.i2f (dAg s 21)) (FP.i2f (dLF s 0 21)) = zfl (127 + j) T) ∧ (0 < cMany g → ∃ j T, j ≤ 13 ∧ T < 8388608 ∧ FP.fdiv (FP.i2f (cAges g)) (FP.i2f (cMany g)) = zfl (127 + j) T) := by
  obtain ⟨mc, bk, r, o, v⟩ := H
  have em : cMany g = dLF s 0 21 := sim_all r
  have ea := sim_ages r
  obtain ⟨m1, m2⟩ := mean_num v.2.2.1.1 v.2.2.1.2
  refine ⟨?_, m1, fun q => (m2 q).2, fun q => ?_⟩
  · unfold cMean dMean
    rw [em, ea]
    by_cases q : dLF s 0 21 = 0
    · rw [if_pos q, if_neg (by rw [q]; decide)]
    · rw [if_neg q, if_pos (m2 q).1]
  · rw [em] at q
    rw [em, ea]
    exact (m2 (fun z => by rw [z] at q; exact absurd q (by decide))).2
theorem iteE {x c a a' b b' : Int32} (h1 : a = a') (h2 : b = b') : (if x = c then a else b) = if x = c then a' else b' := by rw [h1, h2]
theorem sim_way {mc bk : Nat} {g : zGS} {s : Nat → Int32} (h : Rl mc bk g s) : ∀ n, n ≤ mc → hWay g.2 n = dOt s n
  | 0, _ => rfl
  | n + 1, hn => by
    show hWay g.2 n + g.2 (19 + 9 * n + 4) = dOt s n + s (19 + 9 * n + 4)
    rw [sim_way h n (by omega), h.mu (i := 4) (show n < mc by omega) (by decide)]
theorem sim_count {B : Int} {g : zGS} {s v : Nat → Int32} {k : Nat} {l x : Int32} (H : St B g s) (hk : v 0 = nI k) (hl : v 2 = l) : ∀ mc fr, s 0 = nI mc → mc ≤ 4 → s 17 = nI fr → fr ≤ 15 → cCount g k l x = dCount v s mc fr x := by
  obtain ⟨mc', bk, r, o, i⟩ := H
  intro mc fr h1 h10 h17 hfr
  have em : mc' = mc := nI_inj4 (r.s0.1.symm.trans h1) (by have := r.s0.2; omega) (by omega)
  subst em
  have g0 : g.2 0 = nI mc' := (r.at (by decide)).symm.trans r.s0.1
  have ec : (g.2 0).toNatClampNeg = mc' := by rw [g0, nI_clamp (by omega)]
  have e17 : g.2 17 + 1 = nI (fr + 1) := by
    rw [← r.at (i := 17) (by decide), h17]
    exact nI_add fr 1
  unfold cCount dCount
  rw [ec]
  by_cases x18 : x = 18
  · subst x18
    rw [if_pos rfl, if_neg (show ¬ (18 : Int32) = 0 by decide), if_neg (show ¬ (18 : Int32) = 1 by decide), if_neg (show ¬ (18 : Int32) = 2 by decide), if_neg (show ¬ (18 : Int32) = 3 by decide), if_neg (show ¬ (18 : Int32) = 4 by decide), if_neg (show ¬ (18 : Int32) = 5 by decide), if_neg (show ¬ (18 : Int32) = 6 by decide), if_neg (show ¬ (18 : Int32) = 7 by decide), if_neg (show ¬ (18 : Int32) = 8 by decide), if_neg (show ¬ (18 : Int32) = 9 by decide), if_neg (show ¬ (18 : Int32) = 10 by decide), if_neg (show ¬ (18 : Int32) = 11 by decide), if_neg (show ¬ (18 : Int32) = 12 by decide), if_neg (show ¬ (18 : Int32) = 13 by decide), if_neg (show ¬ (18 : Int32) = 14 by decide), if_neg (show ¬ (18 : Int32) = 15 by decide), if_neg (show ¬ (18 : Int32) = 16 by decide), if_neg (show ¬ (18 : Int32) = 17 by decide), if_pos rfl, hk]
  by_cases x19 : x = 19
  · subst x19
    rw [if_neg (show ¬ (19 : Int32) = 18 by decide), if_pos rfl, if_neg (show ¬ (19 : Int32) = 0 by decide), if_neg (show ¬ (19 : Int32) = 1 by decide), if_neg (show ¬ (19 : Int32) = 2 by decide), if_neg (show ¬ (19 : Int32) = 3 by decide), if_neg (show ¬ (19 : Int32) = 4 by decide), if_neg (show ¬ (19 : Int32) = 5 by decide), if_neg (show ¬ (19 : Int32) = 6 by decide), if_neg (show ¬ (19 : Int32) = 7 by decide), if_neg (show ¬ (19 : Int32) = 8 by decide), if_neg (show ¬ (19 : Int32) = 9 by decide), if_neg (show ¬ (19 : Int32) = 10 by decide), if_neg (show ¬ (19 : Int32) = 11 by decide), if_neg (show ¬ (19 : Int32) = 12 by decide), if_neg (show ¬ (19 : Int32) = 13 by decide), if_neg (show ¬ (19 : Int32) = 14 by decide), if_neg (show ¬ (19 : Int32) = 15 by decide), if_neg (show ¬ (19 : Int32) = 16 by decide), if_neg (show ¬ (19 : Int32) = 17 by decide), if_neg (show ¬ (19 : Int32) = 18 by decide), if_pos rfl, hl]
  rw [if_neg x18, if_neg x19]
  unfold hTell
  refine iteE (r.at (i := 0) (by decide)).symm ?_
  refine iteE (r.at (i := 1) (by decide)).symm ?_
  refine iteE (r.at (i := 2) (by decide)).symm ?_
  refine iteE (r.at (i := 3) (by decide)).symm ?_
  refine iteE (r.at (i := 4) (by decide)).symm ?_
  refine iteE (r.at (i := 5) (by decide)).symm ?_
  refine iteE (r.at (i := 6) (by decide)).symm ?_
  refine iteE (sim_all r) ?_
  refine iteE (by rw [e17]; exact sim_sum r (x := fr + 1) (b := 20) (by omega) (by decide)) ?_
  refine iteE (sim_way r mc' (Nat.le_refl _)) ?_
  refine iteE (r.at (i := 7) (by decide)).symm ?_
  refine iteE (r.at (i := 8) (by decide)).symm ?_
  refine iteE (r.at (i := 9) (by decide)).symm ?_
  refine iteE (r.at (i := 10) (by decide)).symm ?_
  refine iteE (r.at (i := 11) (by decide)).symm ?_
  refine iteE (r.at (i := 12) (by decide)).symm ?_
  refine iteE (r.at (i := 13) (by decide)).symm ?_
  refine iteE (r.at (i := 14) (by decide)).symm ?_
  rw [if_neg x18, if_neg x19]
  by_cases c : zwin x 20 23 = 0
  · rw [if_pos c, if_pos c]
  · rw [if_neg c, if_neg c]
    have hx := zix1 (zwin_nn c (by decide))
    have hx3 := zwin_hi c (by decide) (show (23 : Int32) = nI 23 from rfl) (by decide)
    have w := zw_t c
    have t20 := tk20
    revert hx hx3
    generalize x.toNatClampNeg = j
    intro hx hx3
    have tj := tnI (n := j) (by omega)
    rw [hx] at w
    rcases (show j = 20 ∨ j = 21 ∨ j = 22 ∨ j = 23 by omega) with e | e | e | e
    · rw [hx, e]
      exact (r.at (i := 15) (by decide)).symm
    · rw [hx, e]
      exact (r.at (i := 16) (by decide)).symm
    · rw [hx, e]
      exact (r.at (i := 17) (by decide)).symm
    · rw [hx, e]
      exact (r.at (i := 18) (by decide)).symm
