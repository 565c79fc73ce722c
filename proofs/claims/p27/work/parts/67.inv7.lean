/-! what holds of a hut at every call -/
def iMu (s : Nat → Int32) (m : Nat) : Prop := (1 ≤ (s (19 + 9 * m + 0)).toInt ∧ (s (19 + 9 * m + 0)).toInt ≤ 30) ∧ (1 ≤ (s (19 + 9 * m + 1)).toInt ∧ (s (19 + 9 * m + 1)).toInt ≤ 9) ∧ (s (19 + 9 * m + 2) = 0 ∨ s (19 + 9 * m + 2) = 1 ∨ s (19 + 9 * m + 2) = 2 ∨ s (19 + 9 * m + 2) = 3) ∧ (s (19 + 9 * m + 2) ≠ 0 → 1 ≤ (s (19 + 9 * m + 3)).toInt) ∧ (s (19 + 9 * m + 2) = 1 → (s (19 + 9 * m + 5)).toInt ≤ (s 3).toInt) ∧ (0 ≤ (s (19 + 9 * m + 4)).toInt ∧ (s (19 + 9 * m + 4)).toInt ≤ 30) ∧ (0 ≤ (s (19 + 9 * m + 6)).toInt ∧ (s (19 + 9 * m + 6)).toInt ≤ 9) ∧ (s (19 + 9 * m + 2) = 0 → (s (19 + 9 * m + 6)).toInt ≤ 8) ∧ 0 ≤ (s (19 + 9 * m + 5)).toInt
def iAg (s : Nat → Int32) : Prop := aNN s ∧ aT s 0 21 ≤ 80
theorem dSt_fr {s : Nat → Int32} {k i : Nat} (hk : k < 4) (hi : i < 115) (h4 : i ≠ 19 + 9 * k + 4) (h7 : i ≠ 19 + 9 * k + 7) (h9 : i ≠ 9) (h10 : i ≠ 10) : dSt s k i = s i := by
  rw [dSt_n hk]
  unfold dStA
  by_cases q : s 3 - s (19 + 9 * k + 5) ≤ 20
  · rw [if_pos q, upd_ne h10, upd_ne (by omega), upd_ne h7, upd_ne h4]
  · rw [if_neg q, upd_ne h9, upd_ne h7, upd_ne h4]
theorem dSt_4 {s : Nat → Int32} {k : Nat} (hk : k < 4) : dSt s k (19 + 9 * k + 4) = 0 := by
  rw [dSt_n hk]
  unfold dStA
  by_cases q : s 3 - s (19 + 9 * k + 5) ≤ 20
  · rw [if_pos q, upd_ne (by omega), upd_ne (by omega), upd_ne (by omega), upd_eq]
  · rw [if_neg q, upd_ne (by omega), upd_ne (by omega), upd_eq]
theorem iAg_lo {s : Nat → Int32} {i : Nat} {x : Int32} (h : iAg s) (hi : i < 115) : iAg (upd s i x) := by
  refine ⟨fun k hk => ?_, ?_⟩
  · rw [upd_ne (by omega)]
    exact h.1 k hk
  · rw [aT_lo hi]
    exact h.2
theorem dSt_ag {s : Nat → Int32} {k : Nat} (hk : k < 4) (h : iAg s) (hb : 0 ≤ (s (19 + 9 * k + 4)).toInt) : iAg (dSt s k) := by
  have hT := dLF_t h.1 h.2 0 21 (by decide)
  have hn := aT_nn h.1 0 21 (by decide)
  have h2 := h.2
  have c80 := tk80
  have e80 : (80 - dLF s 0 21).toInt = 80 - aT s 0 21 := by
    rw [tsub (by omega) (by omega), hT, c80]
  have em := tmin (a := s (19 + 9 * k + 4)) (b := 80 - dLF s 0 21)
  rw [dSt_n hk]
  unfold dStA
  by_cases q : s 3 - s (19 + 9 * k + 5) ≤ 20
  · rw [if_pos q]
    have hA := clamp20 q
    revert hA
    generalize (s 3 - s (19 + 9 * k + 5)).toNatClampNeg = A
    revert em
    generalize zmin (s (19 + 9 * k + 4)) (80 - dLF s 0 21) = n
    intro em hA
    apply iAg_lo _ (by decide)
    have hA0 := h.1 A hA
    have hAb := tbd (s (115 + A))
    have hle : (s (115 + A)).toInt ≤ aT s 0 21 := by
      have z := aT_le (a := A) (n := 1) h.1 (by omega)
      have z2 : aT s A 1 = 0 + (s (115 + (A + 0))).toInt := rfl
      rw [show A + 0 = A by omega] at z2
      omega
    have en : (s (115 + A) + n).toInt = (s (115 + A)).toInt + n.toInt := tadd (by omega) (by omega)
    refine ⟨fun j hj => ?_, ?_⟩
    · by_cases e : j = A
      · rw [e, upd_eq]
        omega
      · rw [upd_ne (by omega), upd_ne (by omega), upd_ne (by omega)]
        exact h.1 j hj
    · rw [aT_upd, aT_lo (by omega), aT_lo (by omega), if_pos (by omega)]
      rw [show ∀ x y, (upd (upd s (19 + 9 * k + 4) x) (19 + 9 * k + 7) y) (115 + A) = s (115 + A) from fun x y => (upd_ne (by omega)).trans (upd_ne (by omega))]
      omega
  · rw [if_neg q]
    exact iAg_lo (iAg_lo (iAg_lo h (by omega)) (by omega)) (by decide)
/-- the rows beside the mule's keep what they hold -/
theorem dHo_fr {s : Nat → Int32} {k i : Nat} (h2 : i ≠ 19 + 9 * k + 2) (h3 : i ≠ 19 + 9 * k + 3) (h8 : i ≠ 19 + 9 * k + 8) : dHo s k i = s i := by
  unfold dHo
  by_cases q : s (19 + 9 * k + 6) < s (19 + 9 * k + 1)
  · rw [if_pos q, upd_ne h8, upd_ne h3, upd_ne h2]
  · rw [if_neg q, upd_ne h8, upd_ne h3, upd_ne h2]
theorem dHo_ag {s : Nat → Int32} {k : Nat} (hk : k < 4) (h : iAg s) : iAg (dHo s k) := by
  unfold dHo
  by_cases q : s (19 + 9 * k + 6) < s (19 + 9 * k + 1)
  · rw [if_pos q]
    exact iAg_lo (iAg_lo (iAg_lo h (by omega)) (by omega)) (by omega)
  · rw [if_neg q]
    exact iAg_lo (iAg_lo (iAg_lo h (by omega)) (by omega)) (by omega)
theorem dCo_fr {s : Nat → Int32} {k i : Nat} (hk : k < 4) (hi : i < 115) (h : i < 19 + 9 * k ∨ 19 + 9 * k + 9 ≤ i) (h9 : i ≠ 9) (h10 : i ≠ 10) : dCo s k i = s i := by
  have e : dC1 s k i = s i := upd_ne (by omega)
  unfold dCo
  by_cases q : dC1 s k (19 + 9 * k + 3) ≤ 0
  · rw [if_pos q]
    by_cases q1 : s (19 + 9 * k + 2) = 1
    · rw [if_pos q1, upd_ne (by omega), upd_ne (by omega), dSt_fr hk hi (by omega) (by omega) h9 h10, e]
    · rw [if_neg q1]
      by_cases q2 : s (19 + 9 * k + 2) = 2
      · rw [if_pos q2, dHo_fr (by omega) (by omega) (by omega), e]
      · rw [if_neg q2, upd_ne (by omega), upd_ne (by omega), e]
  · rw [if_neg q, e]
theorem dCo_ag {s : Nat → Int32} {k : Nat} (hk : k < 4) (h : iAg s) (hb : 0 ≤ (s (19 + 9 * k + 4)).toInt) : iAg (dCo s k) := by
  have h1 : iAg (dC1 s k) := iAg_lo h (by omega)
  have e4 : dC1 s k (19 + 9 * k + 4) = s (19 + 9 * k + 4) := upd_ne (by omega)
  unfold dCo
  by_cases q : dC1 s k (19 + 9 * k + 3) ≤ 0
  · rw [if_pos q]
    by_cases q1 : s (19 + 9 * k + 2) = 1
    · rw [if_pos q1]
      exact iAg_lo (iAg_lo (dSt_ag hk h1 (by rw [e4]; exact hb)) (by omega)) (by omega)
    · rw [if_neg q1]
      by_cases q2 : s (19 + 9 * k + 2) = 2
      · rw [if_pos q2]
        exact dHo_ag hk h1
      · rw [if_neg q2]
        exact iAg_lo (iAg_lo h1 (by omega)) (by omega)
  · rw [if_neg q]
    exact h1
theorem iMu_co {s : Nat → Int32} {k : Nat} (hk : k < 4) (h : iMu s k) (h0 : s (19 + 9 * k + 2) ≠ 0) : iMu (dCo s k) k := by
  obtain ⟨a0, a1, a2, a3, a5, a4, a6, a8, a9⟩ := h
  have t3 := a3 h0
  have c1 := tk1
  have c0 := tk0
  have b3 := tbd (s (19 + 9 * k + 3))
  have e3 : (dC1 s k (19 + 9 * k + 3)).toInt = (s (19 + 9 * k + 3)).toInt - 1 := by
    unfold dC1
    rw [upd_eq, tsub (by omega) (by omega), c1]
  have e : ∀ i, i ≠ 19 + 9 * k + 3 → dC1 s k i = s i := fun i hi => upd_ne hi
  unfold dCo
  by_cases q : dC1 s k (19 + 9 * k + 3) ≤ 0
  · rw [if_pos q]
    by_cases q1 : s (19 + 9 * k + 2) = 1
    · rw [if_pos q1]
      have f : ∀ i, i < 115 → i ≠ 19 + 9 * k + 2 → i ≠ 19 + 9 * k + 3 → i ≠ 19 + 9 * k + 4 → i ≠ 19 + 9 * k + 7 → i ≠ 9 → i ≠ 10 → upd (upd (dSt (dC1 s k) k) (19 + 9 * k + 2) 2) (19 + 9 * k + 3) 2 i = s i := fun i i1 i2 i3 i4 i5 i6 i7 => (upd_ne i3).trans ((upd_ne i2).trans ((dSt_fr hk i1 i4 i5 i6 i7).trans (e i i3)))
      have f2 : upd (upd (dSt (dC1 s k) k) (19 + 9 * k + 2) 2) (19 + 9 * k + 3) 2 (19 + 9 * k + 2) = 2 := (upd_ne (by omega)).trans upd_eq
      have f3 : upd (upd (dSt (dC1 s k) k) (19 + 9 * k + 2) 2) (19 + 9 * k + 3) 2 (19 + 9 * k + 3) = 2 := upd_eq
      have f4 : upd (upd (dSt (dC1 s k) k) (19 + 9 * k + 2) 2) (19 + 9 * k + 3) 2 (19 + 9 * k + 4) = 0 := (upd_ne (by omega)).trans ((upd_ne (by omega)).trans (dSt_4 hk))
      unfold iMu
      rw [f (19 + 9 * k + 0) (by omega) (by omega) (by omega) (by omega) (by omega) (by omega) (by omega), f (19 + 9 * k + 1) (by omega) (by omega) (by omega) (by omega) (by omega) (by omega) (by omega), f2, f3, f4, f (19 + 9 * k + 5) (by omega) (by omega) (by omega) (by omega) (by omega) (by omega) (by omega), f (19 + 9 * k + 6) (by omega) (by omega) (by omega) (by omega) (by omega) (by omega) (by omega), f 3 (by omega) (by omega) (by omega) (by omega) (by omega) (by omega) (by omega)]
      exact ⟨a0, a1, .inr (.inr (.inl rfl)), fun _ => by decide, fun z => absurd z (by decide), by decide, a6, fun z => absurd z (by decide), a9⟩
    · rw [if_neg q1]
      by_cases q2 : s (19 + 9 * k + 2) = 2
      · rw [if_pos q2]
        have f : ∀ i, i ≠ 19 + 9 * k + 2 → i ≠ 19 + 9 * k + 3 → i ≠ 19 + 9 * k + 8 → dHo (dC1 s k) k i = s i := fun i i2 i3 i8 => (dHo_fr i2 i3 i8).trans (e i i3)
        unfold iMu
        rw [f (19 + 9 * k + 0) (by omega) (by omega) (by omega), f (19 + 9 * k + 1) (by omega) (by omega) (by omega), f (19 + 9 * k + 4) (by omega) (by omega) (by omega), f (19 + 9 * k + 5) (by omega) (by omega) (by omega), f (19 + 9 * k + 6) (by omega) (by omega) (by omega), f 3 (by omega) (by omega) (by omega)]
        unfold dHo
        rw [e (19 + 9 * k + 6) (by omega), e (19 + 9 * k + 1) (by omega)]
        by_cases q3 : s (19 + 9 * k + 6) < s (19 + 9 * k + 1)
        · rw [if_pos q3]
          have g2 : ∀ x, upd (upd (upd (dC1 s k) (19 + 9 * k + 2) 0) (19 + 9 * k + 3) 0) (19 + 9 * k + 8) x (19 + 9 * k + 2) = 0 := fun x => (upd_ne (by omega)).trans ((upd_ne (by omega)).trans upd_eq)
          rw [g2]
          have := tlt.mp q3
          exact ⟨a0, a1, .inl rfl, fun z => absurd rfl z, fun z => absurd z (by decide), a4, a6, fun _ => by omega, a9⟩
        · rw [if_neg q3]
          have g2 : ∀ x, upd (upd (upd (dC1 s k) (19 + 9 * k + 2) 3) (19 + 9 * k + 3) 5) (19 + 9 * k + 8) x (19 + 9 * k + 2) = 3 := fun x => (upd_ne (by omega)).trans ((upd_ne (by omega)).trans upd_eq)
          have g3 : ∀ x, upd (upd (upd (dC1 s k) (19 + 9 * k + 2) 3) (19 + 9 * k + 3) 5) (19 + 9 * k + 8) x (19 + 9 * k + 3) = 5 := fun x => (upd_ne (by omega)).trans upd_eq
          rw [g2, g3]
          exact ⟨a0, a1, .inr (.inr (.inr rfl)), fun _ => by decide, fun z => absurd z (by decide), a4, a6, fun z => absurd z (by decide), a9⟩
      · rw [if_neg q2]
        have f : ∀ i, i ≠ 19 + 9 * k + 2 → i ≠ 19 + 9 * k + 3 → i ≠ 19 + 9 * k + 6 → upd (upd (dC1 s k) (19 + 9 * k + 2) 0) (19 + 9 * k + 6) 0 i = s i := fun i i2 i3 i6 => (upd_ne i6).trans ((upd_ne i2).trans (e i i3))
        have f2 : upd (upd (dC1 s k) (19 + 9 * k + 2) 0) (19 + 9 * k + 6) 0 (19 + 9 * k + 2) = 0 := (upd_ne (by omega)).trans upd_eq
        have f6 : upd (upd (dC1 s k) (19 + 9 * k + 2) 0) (19 + 9 * k + 6) 0 (19 + 9 * k + 6) = 0 := upd_eq
        unfold iMu
        rw [f (19 + 9 * k + 0) (by omega) (by omega) (by omega), f (19 + 9 * k + 1) (by omega) (by omega) (by omega), f (19 + 9 * k + 4) (by omega) (by omega) (by omega), f (19 + 9 * k + 5) (by omega) (by omega) (by omega), f2, f6, f 3 (by omega) (by omega) (by omega)]
        exact ⟨a0, a1, .inl rfl, fun z => absurd rfl z, fun z => absurd z (by decide), a4, by decide, fun _ => by decide, a9⟩
  · rw [if_neg q]
    have q' : ¬ (dC1 s k (19 + 9 * k + 3)).toInt ≤ (0 : Int32).toInt := fun z => q (tle.mpr z)
    unfold iMu
    rw [e (19 + 9 * k + 0) (by omega), e (19 + 9 * k + 1) (by omega), e (19 + 9 * k + 2) (by omega), e (19 + 9 * k + 4) (by omega), e (19 + 9 * k + 5) (by omega), e (19 + 9 * k + 6) (by omega), e 3 (by omega)]
    exact ⟨a0, a1, a2, fun _ => by omega, a5, a4, a6, a8, a9⟩

