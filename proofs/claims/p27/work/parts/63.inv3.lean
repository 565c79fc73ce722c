theorem Rl_upa {mc bk : Nat} {g : zGS} {s : Nat → Int32} {a : Nat} {x : Int32} (h : Rl mc bk g s) (ha : a < 21) (hγ : ∀ j, j < bk → g.1 j < 10) : Rl mc bk (g.1, upd g.2 (115 + a) x) (upd s (115 + a) x) := by
  obtain ⟨h1, b, c, d, e1, e2, e3, e4⟩ := h
  refine ⟨fun i hi => ?_, fun m hm i hi => ?_, fun j hj i hi => ?_, fun q hq => ?_, ?_, e2, ?_, e4⟩
  · rw [upd_ne (by omega)]
    exact (h1 i hi).trans (upd_ne (by omega)).symm
  · rw [upd_ne (by omega)]
    exact (b m hm i hi).trans (upd_ne (by omega)).symm
  · rw [upd_ne (by omega)]
    have := hγ j hj
    exact (c j hj i hi).trans (upd_ne (by omega)).symm
  · by_cases e : q = a
    · rw [e, upd_eq]
      exact upd_eq.symm
    · rw [upd_ne (by omega)]
      exact (d q hq).trans (upd_ne (by omega)).symm
  · rw [upd_ne (by omega)]
    exact e1
  · rw [upd_ne (by omega)]
    exact e3
theorem Rl_upg {mc bk : Nat} {g : zGS} {s : Nat → Int32} {k i9 : Nat} {x : Int32} (h : Rl mc bk g s) (hk : k < bk) (hi9 : i9 < 6) (hγ : ∀ j, j < 10 → g.1 j < 10) (hinj : ∀ i j, i < 10 → j < 10 → g.1 i = g.1 j → i = j) : Rl mc bk (g.1, upd g.2 (55 + 6 * g.1 k + i9) x) (upd s (55 + 6 * k + i9) x) := by
  obtain ⟨h1, b, c, d, e1, e2, e3, e4⟩ := h
  have hk10 := hγ k (by omega)
  refine ⟨fun i hi => ?_, fun m hm i hi => ?_, fun j hj i hi => ?_, fun q hq => ?_, ?_, e2, ?_, e4⟩
  · rw [upd_ne (by omega)]
    exact (h1 i hi).trans (upd_ne (by omega)).symm
  · rw [upd_ne (by omega)]
    exact (b m hm i hi).trans (upd_ne (by omega)).symm
  · by_cases e : j = k
    · subst e
      by_cases e2 : i = i9
      · rw [e2, upd_eq]
        exact upd_eq.symm
      · rw [upd_ne (by omega)]
        exact (c j hj i hi).trans (upd_ne (by omega)).symm
    · rw [upd_ne (by omega)]
      have : g.1 j ≠ g.1 k := fun z => e (hinj j k (by omega) (by omega) z)
      exact (c j hj i hi).trans (upd_ne (by omega)).symm
  · rw [upd_ne (by omega)]
    exact (d q hq).trans (upd_ne (by omega)).symm
  · rw [upd_ne (by omega)]
    exact e1
  · rw [upd_ne (by omega)]
    exact e3
theorem dLF_congr {s t : Nat → Int32} (h : ∀ k, k < 21 → s (115 + k) = t (115 + k)) (a : Nat) : ∀ n, a + n ≤ 21 → dLF s a n = dLF t a n
  | 0, _ => rfl
  | n + 1, hn => by
    show dLF s a n + s (115 + (a + n)) = dLF t a n + t (115 + (a + n))
    rw [dLF_congr h a n (by omega), h _ (by omega)]
theorem Rl.lf {mc bk : Nat} {g : zGS} {s : Nat → Int32} (h : Rl mc bk g s) {a n : Nat} (hn : a + n ≤ 21) : dLF s a n = dLF g.2 a n := dLF_congr (fun k hk => h.ag hk) a n hn
theorem clamp20 {x : Int32} (h : x ≤ 20) : x.toNatClampNeg < 21 := by
  have a := tle.mp h
  have c : (20 : Int32).toInt = 20 := by decide
  show x.toInt.toNat < 21
  omega
theorem cg_St {mc bk : Nat} {g : zGS} {s : Nat → Int32} {k : Nat} (h : Rl mc bk g s) (hk : k < mc) (hγ : ∀ j, j < bk → g.1 j < 10) : Rl mc bk (g.1, dSt g.2 k) (dSt s k) := by
  have hm := h.s0.2
  rw [dSt_n (by omega), dSt_n (by omega)]
  rw [h.at (i := 3) (by decide), h.mu (i := 5) hk (by decide), h.mu (i := 4) hk (by decide), h.lf (a := 0) (n := 21) (by decide)]
  unfold dStA
  have r7 := h.mu (i := 7) hk (by decide)
  by_cases q : g.2 3 - g.2 (19 + 9 * k + 5) ≤ 20
  · rw [if_pos q, if_pos q]
    have hA := clamp20 q
    revert hA
    generalize (g.2 3 - g.2 (19 + 9 * k + 5)).toNatClampNeg = A
    intro hA
    rw [r7, h.ag hA, h.at (i := 10) (by decide)]
    exact Rl_upd (g := (g.1, _)) (Rl_upa (g := (g.1, _)) (Rl_upm (g := (g.1, _)) (Rl_upm h hk (by decide)) hk (by decide)) hA hγ) (by decide) (by decide) (by decide)
  · rw [if_neg q, if_neg q, r7, h.at (i := 9) (by decide)]
    exact Rl_upd (g := (g.1, _)) (Rl_upm (g := (g.1, _)) (Rl_upm h hk (by decide)) hk (by decide)) (by decide) (by decide) (by decide)
theorem cg_Ho {mc bk : Nat} {g : zGS} {s : Nat → Int32} {k : Nat} (h : Rl mc bk g s) (hk : k < mc) : Rl mc bk (g.1, dHo g.2 k) (dHo s k) := by
  unfold dHo
  rw [h.mu (i := 6) hk (by decide), h.mu (i := 1) hk (by decide)]
  have e8 : ∀ (t : Nat → Int32) x y, (upd (upd t (19 + 9 * k + 2) x) (19 + 9 * k + 3) y) (19 + 9 * k + 8) = t (19 + 9 * k + 8) := fun t x y => (upd_ne (by omega)).trans (upd_ne (by omega))
  rw [e8, e8, e8, e8, h.mu (i := 8) hk (by decide)]
  by_cases q : g.2 (19 + 9 * k + 6) < g.2 (19 + 9 * k + 1)
  · rw [if_pos q, if_pos q]
    exact Rl_upm (g := (g.1, _)) (Rl_upm (g := (g.1, _)) (Rl_upm h hk (by decide)) hk (by decide)) hk (by decide)
  · rw [if_neg q, if_neg q]
    exact Rl_upm (g := (g.1, _)) (Rl_upm (g := (g.1, _)) (Rl_upm h hk (by decide)) hk (by decide)) hk (by decide)
theorem cg_Co {mc bk : Nat} {g : zGS} {s : Nat → Int32} {k : Nat} (h : Rl mc bk g s) (hk : k < mc) (hγ : ∀ j, j < bk → g.1 j < 10) : Rl mc bk (g.1, dCo g.2 k) (dCo s k) := by
  have h1 : Rl mc bk (g.1, dC1 g.2 k) (dC1 s k) := by
    unfold dC1
    rw [h.mu (i := 3) hk (by decide)]
    exact Rl_upm h hk (by decide)
  unfold dCo
  rw [show dC1 s k (19 + 9 * k + 3) = dC1 g.2 k (19 + 9 * k + 3) from h1.mu (i := 3) hk (by decide), h.mu (i := 2) hk (by decide)]
  by_cases q : dC1 g.2 k (19 + 9 * k + 3) ≤ 0
  · rw [if_pos q, if_pos q]
    by_cases q1 : g.2 (19 + 9 * k + 2) = 1
    · rw [if_pos q1, if_pos q1]
      have h2 : Rl mc bk (g.1, dSt (dC1 g.2 k) k) (dSt (dC1 s k) k) := cg_St (g := (g.1, dC1 g.2 k)) h1 hk hγ
      have h3 : Rl mc bk (g.1, upd (dSt (dC1 g.2 k) k) (19 + 9 * k + 2) 2) (upd (dSt (dC1 s k) k) (19 + 9 * k + 2) 2) := Rl_upm (g := (g.1, dSt (dC1 g.2 k) k)) h2 hk (by decide)
      exact Rl_upm (g := (g.1, upd (dSt (dC1 g.2 k) k) (19 + 9 * k + 2) 2)) h3 hk (by decide)
    · rw [if_neg q1, if_neg q1]
      by_cases q2 : g.2 (19 + 9 * k + 2) = 2
      · rw [if_pos q2, if_pos q2]
        exact cg_Ho (g := (g.1, dC1 g.2 k)) h1 hk
      · rw [if_neg q2, if_neg q2]
        have h3 : Rl mc bk (g.1, upd (dC1 g.2 k) (19 + 9 * k + 2) 0) (upd (dC1 s k) (19 + 9 * k + 2) 0) := Rl_upm (g := (g.1, dC1 g.2 k)) h1 hk (by decide)
        exact Rl_upm (g := (g.1, upd (dC1 g.2 k) (19 + 9 * k + 2) 0)) h3 hk (by decide)
  · rw [if_neg q, if_neg q]
    exact h1
theorem cg_MuS {mc bk : Nat} {g : zGS} {s : Nat → Int32} {k : Nat} {z : Int32} (h : Rl mc bk g s) (hk : k < mc) (hγ : ∀ j, j < bk → g.1 j < 10) : Rl mc bk (g.1, dMuS z k g.2) (dMuS z k s) := by
  have h1 := cg_Co h hk hγ
  unfold dMuS
  rw [h.mu (i := 2) hk (by decide)]
  by_cases q : g.2 (19 + 9 * k + 2) = 3
  · rw [if_pos q, if_pos q]
    exact h1
  · rw [if_neg q, if_neg q]
    by_cases q1 : g.2 (19 + 9 * k + 2) = 0
    · rw [if_pos q1, if_pos q1]
      exact h
    · rw [if_neg q1, if_neg q1]
      by_cases q2 : z = 0
      · rw [if_pos q2, if_pos q2]
        exact h1
      · rw [if_neg q2, if_neg q2]
        exact h

