def iGr (s : Nat → Int32) (j : Nat) : Prop := (1 ≤ (s (55 + 6 * j + 1)).toInt ∧ (s (55 + 6 * j + 1)).toInt ≤ 12) ∧ (0 ≤ (s (55 + 6 * j + 2)).toInt ∧ (s (55 + 6 * j + 2)).toInt ≤ 10100) ∧ (1 ≤ (s (55 + 6 * j + 3)).toInt ∧ (s (55 + 6 * j + 3)).toInt ≤ 9)
theorem there_t {f n d : Int32} (d0 : 0 ≤ d.toInt) (d1 : d.toInt ≤ 20000) (f0 : 0 ≤ f.toInt) (f1 : f.toInt ≤ 10100) (n0 : 1 ≤ n.toInt) (n1 : n.toInt ≤ 9) : (if d < f then (0 : Int32) else if f + n ≤ d then 0 else 1) = zwin (d - f) 0 (n - 1) := by
  have c0 := tk0
  have c1 := tk1
  have a1 : (d - f).toInt = d.toInt - f.toInt := tsub (by omega) (by omega)
  have a2 : (n - 1).toInt = n.toInt - (1 : Int32).toInt := tsub (by omega) (by omega)
  have a3 : (f + n).toInt = f.toInt + n.toInt := tadd (by omega) (by omega)
  unfold zwin
  by_cases q : d < f
  · have := tlt.mp q
    rw [if_pos q, if_pos (tlt.mpr (by omega))]
  · have q' : ¬ d.toInt < f.toInt := fun z => q (tlt.mpr z)
    rw [if_neg q, if_neg (show ¬ d - f < 0 from fun z => by have := tlt.mp z; omega)]
    by_cases q2 : f + n ≤ d
    · have := tle.mp q2
      rw [if_pos q2, if_pos (show n - 1 < d - f from tlt.mpr (by omega))]
    · have q2' : ¬ (f + n).toInt ≤ d.toInt := fun z => q2 (tle.mpr z)
      rw [if_neg q2, if_neg (show ¬ n - 1 < d - f from fun z => by have := tlt.mp z; omega)]
theorem cg_Tk {mc bk : Nat} {g : zGS} {s : Nat → Int32} {e : Nat} {x : Int32} (h : Rl mc bk g s) (hγ : ∀ j, j < bk → g.1 j < 10) (he : e ≤ 20) : ∀ n, Rl mc bk (g.1, (dTk g.2 e x n).1) (dTk s e x n).1 ∧ (dTk s e x n).2 = (dTk g.2 e x n).2
  | 0 => ⟨h, rfl⟩
  | n + 1 => by
    obtain ⟨r, q⟩ := cg_Tk (x := x) h hγ he n
    have ea : (dTk s e x n).1 (115 + (e - n)) = (dTk g.2 e x n).1 (115 + (e - n)) := r.ag (by omega)
    rw [dTk_s, dTk_s]
    unfold dTkS
    dsimp only
    rw [ea, q]
    exact ⟨Rl_upa (g := (g.1, (dTk g.2 e x n).1)) r (by omega) hγ, rfl⟩
theorem cg_Take {mc bk : Nat} {g : zGS} {s : Nat → Int32} {e a : Nat} {x : Int32} (h : Rl mc bk g s) (hγ : ∀ j, j < bk → g.1 j < 10) (he : e ≤ 20) : Rl mc bk (g.1, dTake g.2 e a x) (dTake s e a x) := by
  obtain ⟨r, q⟩ := cg_Tk (x := x) h hγ he (e + 1 - a)
  have e8 : (dTk s e x (e + 1 - a)).1 8 = (dTk g.2 e x (e + 1 - a)).1 8 := r.at (by decide)
  unfold dTake
  rw [e8]
  exact Rl_upd (g := (g.1, (dTk g.2 e x (e + 1 - a)).1)) r (by decide) (by decide) (by decide)
theorem cg_E3 {mc bk : Nat} {g : zGS} {s : Nat → Int32} {k : Nat} {p u : Int32} (h : Rl mc bk g s) (ho : gOk g.1) (hk : k < bk) : Rl mc bk (g.1, dE3 g.2 (g.1 k) p u) (dE3 s k p u) := by
  have hb := h.s1.2
  rw [dE3_n (k := k) (by omega), dE3_n (k := g.1 k) (ho.1 k (by omega))]
  rw [h.gr hk (by decide), h.gr hk (by decide), h.at (i := 12) (by decide), h.at (i := 5) (by decide), h.at (i := 13) (by decide)]
  have r1 := Rl_upg (x := g.2 (55 + 6 * g.1 k + 4) + p) h hk (i9 := 4) (by decide) ho.1 ho.2
  have r2 := Rl_upg (x := g.2 (55 + 6 * g.1 k + 5) + u) r1 hk (i9 := 5) (by decide) ho.1 ho.2
  have r3 := Rl_upd (k := 12) (x := g.2 12 + u) r2 (by decide) (by decide) (by decide)
  have r4 := Rl_upd (k := 5) (x := g.2 5 + p) r3 (by decide) (by decide) (by decide)
  exact Rl_upd (k := 13) (x := g.2 13 + p) r4 (by decide) (by decide) (by decide)
theorem cg_Eat {mc bk : Nat} {g : zGS} {s : Nat → Int32} {k fr : Nat} (h : Rl mc bk g s) (ho : gOk g.1) (hk : k < bk) (hfr : fr ≤ 15) : Rl mc bk (g.1, dEat g.2 (g.1 k) fr) (dEat s k fr) := by
  have hb := h.s1.2
  have hγ : ∀ j, j < bk → g.1 j < 10 := fun j hj => ho.1 j (by omega)
  have ep : s (55 + 6 * k + 1) = g.2 (55 + 6 * g.1 k + 1) := h.gr hk (by decide)
  have ew : dWh s k fr = dWh g.2 (g.1 k) fr := by
    unfold dWh
    rw [ep, h.lf (by omega)]
  have r1 : Rl mc bk (g.1, dE1 g.2 (g.1 k) fr) (dE1 s k fr) := by
    unfold dE1
    rw [ew]
    exact cg_Take h hγ (by omega)
  have es : dSo s k fr = dSo g.2 (g.1 k) fr := by
    unfold dSo
    rw [ep, ew, r1.lf (by omega)]
  have r2 : Rl mc bk (g.1, dE2 g.2 (g.1 k) fr) (dE2 s k fr) := by
    unfold dE2
    rw [es]
    exact cg_Take (g := (g.1, dE1 g.2 (g.1 k) fr)) r1 hγ (by decide)
  unfold dEat
  rw [ep, ew, es]
  by_cases q : (g.2 (55 + 6 * g.1 k + 1) + 1) / 2 ≤ dWh g.2 (g.1 k) fr + dSo g.2 (g.1 k) fr
  · rw [if_pos q, if_pos q]
    by_cases q2 : dSo g.2 (g.1 k) fr ≤ 0
    · rw [if_pos q2, if_pos q2]
      exact cg_E3 (g := (g.1, dE2 g.2 (g.1 k) fr)) r2 ho hk
    · rw [if_neg q2, if_neg q2]
      exact cg_E3 (g := (g.1, dE2 g.2 (g.1 k) fr)) r2 ho hk
  · rw [if_neg q, if_neg q]
    exact cg_E3 (g := (g.1, dE2 g.2 (g.1 k) fr)) r2 ho hk
theorem iAg_congr {s t : Nat → Int32} (h : ∀ k, k < 21 → t (115 + k) = s (115 + k)) (i : iAg s) : iAg t := by
  refine ⟨fun k hk => ?_, ?_⟩
  · rw [h k hk]
    exact i.1 k hk
  · rw [aT_congr h 0 21 (by decide)]
    exact i.2
/-- what one group's eating does to the counts -/
theorem eat_in {s : Nat → Int32} {k fr : Nat} (hk : k < 10) (hfr : fr ≤ 15) (ha : iAg s) (hg : iGr s k) : iAg (dEat s k fr) ∧ (∃ e, e ≤ 18 ∧ dEat s k fr 8 = s 8 + nI e) ∧ (∃ u, u ≤ 1 ∧ dEat s k fr 12 = s 12 + nI u) ∧ ∀ i, i < 115 → i ≠ 5 → i ≠ 8 → i ≠ 12 → i ≠ 13 → i ≠ 55 + 6 * k + 4 → i ≠ 55 + 6 * k + 5 → dEat s k fr i = s i := by
  obtain ⟨⟨p1, p2⟩, _⟩ := hg
  obtain ⟨w1, w2⟩ := eat_t hfr ha.1 ha.2 p1 p2
  obtain ⟨n1, n2, n3, n4, n5⟩ := eat_so hfr ha.1 ha.2 p1 p2
  have hA := ha.2
  have hD := aT_nn ha.1 0 (fr + 1) (by omega)
  have hD2 := aT_nn n1 (fr + 1) (20 + 1 - (fr + 1)) (by omega)
  have c2 := tk2c
  have c0 := tk0
  have m0 : (2 : Int32).toInt * (dSo s k fr).toInt = 2 * (dSo s k fr).toInt := by rw [c2]
  have m2 : (2 * dSo s k fr).toInt = 2 * (dSo s k fr).toInt := by
    rw [tmul (by omega) (by omega), m0]
  have m3 : (dWh s k fr + 2 * dSo s k fr).toInt = (dWh s k fr).toInt + 2 * (dSo s k fr).toInt := by
    rw [tadd (by omega) (by omega), m2]
  have g2 : iAg (dE2 s k fr) := by
    obtain ⟨t1, t2⟩ := tk_nn (g := 20) (n := 20 + 1 - (fr + 1)) (x := 2 * dSo s k fr) (by decide) n1 (by omega) (by omega)
    have t3 := aT_mono t2 0 21 (by decide)
    rw [eat_d2]
    exact iAg_lo ⟨t1, by omega⟩ (by decide)
  have e8 : ∃ e, e ≤ 18 ∧ dE2 s k fr 8 = s 8 + nI e := by
    obtain ⟨e, he, hq⟩ := nI_of (x := dWh s k fr + 2 * dSo s k fr) (fun z => by have := tlt.mp z; omega)
    have he2 := tnI he
    refine ⟨e, by rw [hq] at m3; omega, ?_⟩
    rw [eat_d2, upd_eq, ← hq, Int32.add_assoc]
  have f2 : ∀ i, i < 115 → i ≠ 8 → dE2 s k fr i = s i := fun i h1 h2 => dE2_lo h1 h2
  have key : ∀ (p u : Int32) (u' : Nat), u' ≤ 1 → u = nI u' → iAg (dE3 (dE2 s k fr) k p u) ∧ (∃ e, e ≤ 18 ∧ dE3 (dE2 s k fr) k p u 8 = s 8 + nI e) ∧ (∃ v, v ≤ 1 ∧ dE3 (dE2 s k fr) k p u 12 = s 12 + nI v) ∧ ∀ i, i < 115 → i ≠ 5 → i ≠ 8 → i ≠ 12 → i ≠ 13 → i ≠ 55 + 6 * k + 4 → i ≠ 55 + 6 * k + 5 → dE3 (dE2 s k fr) k p u i = s i := by
    intro p u u' hu hq
    rw [dE3_n hk]
    refine ⟨iAg_lo (iAg_lo (iAg_lo (iAg_lo (iAg_lo g2 (by omega)) (by omega)) (by decide)) (by decide)) (by decide), ?_, ⟨u', hu, ?_⟩, fun i h1 h5 h8 h12 h13 h4 h6 => ?_⟩
    · obtain ⟨e, he, hz⟩ := e8
      refine ⟨e, he, ?_⟩
      rw [upd_ne (by decide), upd_ne (by decide), upd_ne (by decide), upd_ne (by omega), upd_ne (by omega)]
      exact hz
    · rw [upd_ne (by decide), upd_ne (by decide), upd_eq, f2 12 (by decide) (by decide), hq]
    · rw [upd_ne h13, upd_ne h5, upd_ne h12, upd_ne h6, upd_ne h4]
      exact f2 i h1 h8
  unfold dEat
  by_cases q : (s (55 + 6 * k + 1) + 1) / 2 ≤ dWh s k fr + dSo s k fr
  · rw [if_pos q]
    by_cases q2 : dSo s k fr ≤ 0
    · rw [if_pos q2]
      exact key _ 0 0 (by decide) rfl
    · rw [if_neg q2]
      exact key _ 0 0 (by decide) rfl
  · rw [if_neg q]
    exact key _ 1 1 (by decide) rfl

