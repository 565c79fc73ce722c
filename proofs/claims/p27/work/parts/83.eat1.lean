/-! one loaf at a time is as many at once -/
/-- u is s when t loaves are taken, the oldest first, of the m ages from g down -/
def lTK (s : Nat → Int32) (g m t : Nat) (u : Nat → Int32) : Prop := (∀ k, k < m → (u (115 + (g - k))).toInt = tkV s g (t : Int) k) ∧ u 8 = s 8 + nI t ∧ ∀ i, i ≠ 8 → (i < 115 + (g + 1 - m) ∨ 115 + g < i) → u i = s i
theorem lTK_0 {s : Nat → Int32} {g m : Nat} (hg : g ≤ 20) (hm : m ≤ g + 1) (h : aNN s) : lTK s g m 0 s := by
  refine ⟨fun k hk => ?_, (Int32.add_zero _).symm, fun i _ _ => rfl⟩
  have h1 := aT_nn h (g + 1 - k) k (by omega)
  have h2 := h (g - k) (by omega)
  unfold tkV
  omega
theorem lTK_eq {s u : Nat → Int32} {g m t : Nat} (hg : g ≤ 20) (hm : m ≤ g + 1) (h : aNN s) (ht : t ≤ 80) (q : lTK s g m t u) : u = upd (dTk s g (nI t) m).1 8 (s 8 + nI t) := by
  obtain ⟨q1, q2, q3⟩ := q
  have tn := tnI (n := t) (by omega)
  obtain ⟨a1, a2, a3⟩ := dTk_v (x := nI t) hg h (by omega) m hm
  funext i
  by_cases e : i = 8
  · rw [e, upd_eq, q2]
  · rw [upd_ne e]
    by_cases z : i < 115 + (g + 1 - m) ∨ 115 + g < i
    · rw [q3 i e z, a3 i z]
    · obtain ⟨k, hk, rfl⟩ : ∃ k, k < m ∧ i = 115 + (g - k) := ⟨g - (i - 115), by omega, by omega⟩
      apply tinj
      rw [q1 k hk, a2 k hk, tn]
/-- the loaf that is taken: the oldest one -/
theorem lTk_spec {u : Nat → Int32} {g e : Nat} : ∀ m, e + m ≤ g + 1 → (∃ k, k < m ∧ 0 < (u (115 + (e + (m - 1 - k)))).toInt ∧ (∀ j, j < k → (u (115 + (e + (m - 1 - j)))).toInt ≤ 0) ∧ lTk u e m = (lT1 u (e + (m - 1 - k)), 1)) ∨ ((∀ k, k < m → (u (115 + (e + (m - 1 - k)))).toInt ≤ 0) ∧ lTk u e m = (u, 0))
  | 0, _ => .inr ⟨fun k hk => absurd hk (Nat.not_lt_zero k), rfl⟩
  | m + 1, hm => by
    have eq : lTk u e (m + 1) = if u (115 + (e + m)) ≤ 0 then lTk u e m else (lT1 u (e + m), 1) := rfl
    by_cases c : u (115 + (e + m)) ≤ 0
    · have c' := tle.mp c
      have c0 := tk0
      rw [eq, if_pos c]
      rcases lTk_spec (u := u) (g := g) (e := e) m (by omega) with ⟨k, h1, h2, h3, h4⟩ | ⟨h1, h2⟩
      · refine .inl ⟨k + 1, by omega, ?_, fun j hj => ?_, ?_⟩
        · rw [show m + 1 - 1 - (k + 1) = m - 1 - k by omega]
          exact h2
        · by_cases z : j = 0
          · rw [z, show m + 1 - 1 - 0 = m by omega]
            omega
          · have := h3 (j - 1) (by omega)
            rw [show m - 1 - (j - 1) = m + 1 - 1 - j by omega] at this
            exact this
        · rw [show m + 1 - 1 - (k + 1) = m - 1 - k by omega]
          exact h4
      · refine .inr ⟨fun k hk => ?_, h2⟩
        by_cases z : k = 0
        · rw [z, show m + 1 - 1 - 0 = m by omega]
          omega
        · have := h1 (k - 1) (by omega)
          rw [show m - 1 - (k - 1) = m + 1 - 1 - k by omega] at this
          exact this
    · have c' : ¬ (u (115 + (e + m))).toInt ≤ (0 : Int32).toInt := fun z => c (tle.mpr z)
      have c0 := tk0
      rw [eq, if_neg c]
      refine .inl ⟨0, by omega, ?_, fun j hj => absurd hj (Nat.not_lt_zero j), ?_⟩
      · rw [show m + 1 - 1 - 0 = m by omega]
        omega
      · rw [show m + 1 - 1 - 0 = m by omega]
/-- sums from the top -/
theorem aT_up {s : Nat → Int32} {g k : Nat} (hk : k < g + 1) : aT s (g + 1 - (k + 1)) (k + 1) = (s (115 + (g - k))).toInt + aT s (g + 1 - k) k := by
  rw [show g + 1 - (k + 1) = g - k by omega, aT_front, show g - k + 1 = g + 1 - k by omega]
theorem aT_more {s : Nat → Int32} {g k : Nat} (h : aNN s) (hg : g ≤ 20) : ∀ j, k + j ≤ g + 1 → aT s (g + 1 - k) k ≤ aT s (g + 1 - (k + j)) (k + j)
  | 0, _ => Int.le_refl _
  | j + 1, hj => by
    have h1 := aT_more (k := k) h hg j (by omega)
    have h2 := aT_up (s := s) (g := g) (k := k + j) (by omega)
    have h3 := h (g - (k + j)) (by omega)
    rw [show k + (j + 1) = k + j + 1 by omega]
    omega
/-- what is above has gone first -/
theorem tk_gone {s : Nat → Int32} {g t : Nat} (h : aNN s) (hg : g ≤ 20) : ∀ k, k ≤ g + 1 → (∀ j, j < k → tkV s g (t : Int) j ≤ 0) → aT s (g + 1 - k) k ≤ t
  | 0, _, _ => by
    show (0 : Int) ≤ t
    omega
  | k + 1, hk, hz => by
    have h1 := tk_gone (t := t) h hg k (by omega) (fun j hj => hz j (by omega))
    have h2 := aT_up (s := s) (g := g) (k := k) (by omega)
    have h3 := hz k (by omega)
    have h4 := h (g - k) (by omega)
    unfold tkV at h3
    omega
/-- one loaf more -/
theorem lTK_s {s u : Nat → Int32} {g m e t : Nat} (hg : g ≤ 20) (he : e + m = g + 1) (h : aNN s) (q : lTK s g m t u) : ((t : Int) < aT s e m → (lTk u e m).2 = 1 ∧ lTK s g m (t + 1) (lTk u e m).1) ∧ (aT s e m ≤ t → (lTk u e m).2 = 0 ∧ (lTk u e m).1 = u) := by
  obtain ⟨q1, q2, q3⟩ := q
  have pl : ∀ k, k < m → e + (m - 1 - k) = g - k := fun k hk => by omega
  have em : g + 1 - m = e := by omega
  rcases lTk_spec (u := u) (g := g) (e := e) m (by omega) with ⟨k, h1, h2, h3, h4⟩ | ⟨h1, h2⟩
  · rw [pl k h1, q1 k h1] at h2
    rw [pl k h1] at h4
    have h3' : ∀ j, j < k → tkV s g (t : Int) j ≤ 0 := fun j hj => by
      have z := h3 j hj
      rw [pl j (by omega), q1 j (by omega)] at z
      exact z
    have A := tk_gone (t := t) h hg k (by omega) h3'
    have A1 := aT_up (s := s) (g := g) (k := k) (by omega)
    have A2 := aT_more (s := s) (g := g) (k := k + 1) h hg (m - (k + 1)) (by omega)
    rw [show k + 1 + (m - (k + 1)) = m by omega, em] at A2
    have sk := h (g - k) (by omega)
    have vk : (s (115 + (g - k))).toInt - min (max 0 ((t : Int) - aT s (g + 1 - k) k)) (s (115 + (g - k))).toInt > 0 := h2
    refine ⟨fun _ => ?_, fun z => by omega⟩
    rw [h4]
    refine ⟨rfl, fun j hj => ?_, ?_, fun i hi z => ?_⟩
    · show (lT1 u (g - k) (115 + (g - j))).toInt = _
      by_cases e1 : j = k
      · have ev : (u (115 + (g - k))).toInt = tkV s g (t : Int) k := q1 k h1
        have bd := tbd (u (115 + (g - k)))
        have c1 := tk1
        unfold lT1
        rw [e1, upd_ne (by omega), upd_eq, tsub (by omega) (by omega), ev]
        unfold tkV
        omega
      · have e2 : lT1 u (g - k) (115 + (g - j)) = u (115 + (g - j)) := (upd_ne (by omega)).trans (upd_ne (by omega))
        rw [e2, q1 j hj]
        have sj := h (g - j) (by omega)
        by_cases c : j < k
        · have z := h3' j c
          unfold tkV at z ⊢
          omega
        · have B := aT_more (s := s) (g := g) (k := k + 1) h hg (j - (k + 1)) (by omega)
          rw [show k + 1 + (j - (k + 1)) = j by omega] at B
          unfold tkV
          omega
    · show lT1 u (g - k) 8 = _
      unfold lT1
      rw [upd_eq, upd_ne (by omega), q2, Int32.add_assoc, show nI t + (1 : Int32) = nI (t + 1) from nI_1 t]
    · show lT1 u (g - k) i = _
      unfold lT1
      rw [upd_ne hi, upd_ne (by omega)]
      exact q3 i hi z
  · have hz : ∀ j, j < m → tkV s g (t : Int) j ≤ 0 := fun j hj => by
      have z := h1 j hj
      rw [pl j hj, q1 j hj] at z
      exact z
    have A := tk_gone (t := t) h hg m (by omega) hz
    rw [em] at A
    refine ⟨fun z => by omega, fun _ => ?_⟩
    rw [h2]
    exact ⟨rfl, rfl⟩
/-- what is left of the ages -/
theorem lTK_sum {s u : Nat → Int32} {g m t : Nat} (hg : g ≤ 20) (hm : m ≤ g + 1) (h : aNN s) (q : lTK s g m t u) : ∀ n, n ≤ m → aT u (g + 1 - n) n = aT s (g + 1 - n) n - min (t : Int) (aT s (g + 1 - n) n)
  | 0, _ => by
    show (0 : Int) = 0 - min (t : Int) 0
    omega
  | n + 1, hn => by
    have h1 := lTK_sum hg hm h q n (by omega)
    have h2 := aT_up (s := s) (g := g) (k := n) (by omega)
    have h3 := aT_up (s := u) (g := g) (k := n) (by omega)
    have h4 := q.1 n (by omega)
    have h5 := h (g - n) (by omega)
    have h6 := aT_nn h (g + 1 - n) n (by omega)
    unfold tkV at h4
    omega
theorem lTK_nn {s u : Nat → Int32} {g m t : Nat} (hg : g ≤ 20) (hm : m ≤ g + 1) (h : aNN s) (q : lTK s g m t u) : aNN u ∧ ∀ k, k < 21 → (u (115 + k)).toInt ≤ (s (115 + k)).toInt := by
  have z : ∀ k, k < 21 → 0 ≤ (u (115 + k)).toInt ∧ (u (115 + k)).toInt ≤ (s (115 + k)).toInt := fun k hk => by
    have hs := h k hk
    by_cases c : 115 + k < 115 + (g + 1 - m) ∨ 115 + g < 115 + k
    · rw [q.2.2 _ (by omega) c]
      omega
    · have e := q.1 (g - k) (by omega)
      rw [show g - (g - k) = k by omega] at e
      rw [e]
      unfold tkV
      rw [show g - (g - k) = k by omega]
      omega
  exact ⟨fun k hk => (z k hk).1, fun k hk => (z k hk).2⟩
/-- the fresh loaves -/
theorem lEa_v {s : Nat → Int32} {fr T : Nat} (hfr : fr ≤ 20) (h : aNN s) (hT : aT s 0 (fr + 1) = T) : ∀ n t u, t ≤ T → lTK s fr (fr + 1) t u → lTK s fr (fr + 1) (t + min n (T - t)) (lEa fr n u).1 ∧ (lEa fr n u).2 = n - min n (T - t)
  | 0, t, u, ht, q => by
    rw [show t + min 0 (T - t) = t by omega, show 0 - min 0 (T - t) = 0 by omega]
    exact ⟨q, rfl⟩
  | n + 1, t, u, ht, q => by
    obtain ⟨a1, a2⟩ := lTK_s (e := 0) hfr (by omega) h q
    rw [hT] at a1 a2
    have eq : lEa fr (n + 1) u = if (lTk u 0 (fr + 1 - 0)).2 = 0 then ((lTk u 0 (fr + 1 - 0)).1, n + 1) else lEa fr n (lTk u 0 (fr + 1 - 0)).1 := rfl
    rw [eq, Nat.sub_zero]
    by_cases c : t < T
    · obtain ⟨b1, b2⟩ := a1 (by omega)
      rw [if_neg (by rw [b1]; decide)]
      obtain ⟨d1, d2⟩ := lEa_v hfr h hT n (t + 1) _ (by omega) b2
      rw [d2]
      refine ⟨?_, by omega⟩
      rw [show t + min (n + 1) (T - t) = t + 1 + min n (T - (t + 1)) by omega]
      exact d1
    · obtain ⟨b1, b2⟩ := a2 (by omega)
      rw [if_pos b1, b2]
      refine ⟨?_, ?_⟩
      · rw [show t + min (n + 1) (T - t) = t by omega]
        exact q
      · show n + 1 = _
        omega
/-- the stale ones, two for one -/
theorem lEb_v {s : Nat → Int32} {fr T : Nat} (hfr : fr ≤ 15) (h : aNN s) (h80 : aT s 0 21 ≤ 80) (hT : aT s (fr + 1) (20 + 1 - (fr + 1)) = T) : ∀ n t u b, t ≤ T → lTK s 20 (20 + 1 - (fr + 1)) t u → lTK s 20 (20 + 1 - (fr + 1)) (t + 2 * min n ((T - t) / 2)) (lEb fr n u b).1 ∧ (lEb fr n u b).2.1 = (if min n ((T - t) / 2) = 0 then b else 1) ∧ (lEb fr n u b).2.2 = n - min n ((T - t) / 2)
  | 0, t, u, b, ht, q => by
    rw [show t + 2 * min 0 ((T - t) / 2) = t by omega, show 0 - min 0 ((T - t) / 2) = 0 by omega, if_pos (by omega)]
    exact ⟨q, rfl, rfl⟩
  | n + 1, t, u, b, ht, q => by
    obtain ⟨u1, u2⟩ := lTK_nn (by decide) (by omega) h q
    have sm := lTK_sum (g := 20) (by decide) (by omega) h q (20 + 1 - (fr + 1)) (Nat.le_refl _)
    rw [show 20 + 1 - (20 + 1 - (fr + 1)) = fr + 1 by omega, hT] at sm
    have ul : aT u 0 21 ≤ 80 := Int.le_trans (aT_mono u2 0 21 (by decide)) h80
    have sl := dLF_t u1 ul (fr + 1) (20 + 1 - (fr + 1)) (by omega)
    have c1 := tk1
    obtain ⟨a1, a2⟩ := lTK_s (g := 20) (e := fr + 1) (m := 20 + 1 - (fr + 1)) (by decide) (by omega) h q
    rw [hT] at a1 a2
    have eq : lEb fr (n + 1) u b = if dLF u (fr + 1) (20 + 1 - (fr + 1)) ≤ 1 then (u, b, n + 1) else if (lT2 u fr).2 = 0 then lEb fr n (lT2 u fr).1 0 else if (lT2 (lT2 u fr).1 fr).2 = 0 then lEb fr n (lT2 (lT2 u fr).1 fr).1 0 else lEb fr n (lT2 (lT2 u fr).1 fr).1 1 := rfl
    rw [eq]
    by_cases c : t + 2 ≤ T
    · rw [if_neg (fun z => by have := tle.mp z; omega)]
      obtain ⟨b1, b2⟩ := a1 (by omega)
      obtain ⟨d1, -⟩ := lTK_s (g := 20) (e := fr + 1) (m := 20 + 1 - (fr + 1)) (by decide) (by omega) h b2
      rw [hT] at d1
      obtain ⟨e1, e2⟩ := d1 (by omega)
      rw [if_neg (by rw [b1]; decide), if_neg (by rw [e1]; decide)]
      obtain ⟨g1, g2, g3⟩ := lEb_v hfr h h80 hT n (t + 1 + 1) _ 1 (by omega) e2
      rw [g2, g3]
      refine ⟨?_, ?_, by omega⟩
      · rw [show t + 2 * min (n + 1) ((T - t) / 2) = t + 1 + 1 + 2 * min n ((T - (t + 1 + 1)) / 2) by omega]
        exact g1
      · rw [if_neg (show ¬ min (n + 1) ((T - t) / 2) = 0 by omega)]
        split <;> rfl
    · rw [if_pos (tle.mpr (by omega))]
      refine ⟨?_, ?_, ?_⟩
      · rw [show t + 2 * min (n + 1) ((T - t) / 2) = t by omega]
        exact q
      · rw [if_pos (by omega)]
      · show n + 1 = _
        omega
