theorem zwin0 {x : Int32} {n : Nat} (hn : n < 2147483647) (h : ∀ j, j ≤ n → x ≠ nI j) : zwin x 0 (nI n) = 0 := by
  apply Classical.byContradiction
  intro q
  have hx := zix1 (zwin_nn q (by decide))
  have hx8 := zwin_hi q (by decide) rfl (by omega)
  exact h _ hx8 hx
theorem sim_groupOf {B : Int} {g : zGS} {s : Nat → Int32} {x y : Int32} (h : St B g s) : ∀ bk, s 1 = nI bk → bk ≤ 10 → cGroupOf g x y = dGroupOf s bk x y := by
  obtain ⟨mc, bk', r, o, v⟩ := h
  intro bk h1 h10
  have em : bk' = bk := nI_inj4 (r.s1.1.symm.trans h1) (by have := r.s1.2; omega) (by omega)
  subst em
  have g1 : g.2 1 = nI bk' := (r.at (by decide)).symm.trans r.s1.1
  have ec : (g.2 1).toNatClampNeg = bk' := by rw [g1, nI_clamp (by omega)]
  unfold cGroupOf dGroupOf cPlace
  rw [ec]
  rcases pl_sim (x := x) r bk' 0 (by omega) with ⟨q1, q2⟩ | ⟨j, -, hj, q1, q2⟩
  · rw [q1, q2, if_pos (show (-1 : Int32) < 0 by decide), if_pos (show (-1000004 : Int32) < 0 by decide)]
  · have hj' : j < bk' := by omega
    have nn : ¬ nI j < 0 := neg_nn (by rw [tnI (by omega)]; omega)
    have n2 : ¬ nI bk' ≤ nI j := fun z => by
      have := tle.mp z
      rw [tnI (by omega), tnI (by omega)] at this
      omega
    rw [q1, q2, if_neg nn, if_neg nn, g1, if_neg n2, nI_clamp (by omega)]
    obtain ⟨⟨⟨gp, gf, gl⟩, -⟩⟩ : (iGr s j ∧ (s 3).toInt < (s (55 + 6 * j + 2)).toInt + (s (55 + 6 * j + 3)).toInt) ∧ True := ⟨v.2.1 j hj', trivial⟩
    have d3 := v.2.2.2.1
    have e3 : s 3 = g.2 3 := r.at (by decide)
    have et : gThere (fun i9 => g.2 (55 + 6 * g.1 j + i9)) (g.2 3) = zwin (s 3 - s (55 + 6 * j + 2)) 0 (s (55 + 6 * j + 3) - 1) := by
      rw [← there_t d3.1 (by omega) gf.1 gf.2 gl.1 gl.2, e3, r.gr hj' (by decide), r.gr hj' (by decide)]
      rfl
    unfold gTell dGrp
    by_cases x0 : y = 0
    · subst x0
      rw [if_pos (show (0 : Int32) = 0 from rfl), if_neg (show ¬ zwin 0 0 6 = 0 by decide)]
      rw [if_neg (show ¬ (0 : Int32) = 3 by decide), if_neg (show ¬ (0 : Int32) = 4 by decide), if_neg (show ¬ (0 : Int32) = 5 by decide), if_neg (show ¬ (0 : Int32) = 6 by decide)]
      exact (r.gr (i := 1) hj' (by decide)).symm
    by_cases x1 : y = 1
    · subst x1
      rw [if_neg (show ¬ (1 : Int32) = 0 by decide), if_pos (show (1 : Int32) = 1 from rfl), if_neg (show ¬ zwin 1 0 6 = 0 by decide)]
      rw [if_neg (show ¬ (1 : Int32) = 3 by decide), if_neg (show ¬ (1 : Int32) = 4 by decide), if_neg (show ¬ (1 : Int32) = 5 by decide), if_neg (show ¬ (1 : Int32) = 6 by decide)]
      exact (r.gr (i := 2) hj' (by decide)).symm
    by_cases x2 : y = 2
    · subst x2
      rw [if_neg (show ¬ (2 : Int32) = 0 by decide), if_neg (show ¬ (2 : Int32) = 1 by decide), if_pos (show (2 : Int32) = 2 from rfl), if_neg (show ¬ zwin 2 0 6 = 0 by decide)]
      rw [if_neg (show ¬ (2 : Int32) = 3 by decide), if_neg (show ¬ (2 : Int32) = 4 by decide), if_neg (show ¬ (2 : Int32) = 5 by decide), if_neg (show ¬ (2 : Int32) = 6 by decide)]
      exact (r.gr (i := 3) hj' (by decide)).symm
    by_cases x3 : y = 3
    · subst x3
      rw [if_neg (show ¬ (3 : Int32) = 0 by decide), if_neg (show ¬ (3 : Int32) = 1 by decide), if_neg (show ¬ (3 : Int32) = 2 by decide), if_pos (show (3 : Int32) = 3 from rfl), if_neg (show ¬ zwin 3 0 6 = 0 by decide)]
      rw [if_pos (show (3 : Int32) = 3 from rfl)]
      rw [r.gr hj' (by decide)]
    by_cases x4 : y = 4
    · subst x4
      rw [if_neg (show ¬ (4 : Int32) = 0 by decide), if_neg (show ¬ (4 : Int32) = 1 by decide), if_neg (show ¬ (4 : Int32) = 2 by decide), if_neg (show ¬ (4 : Int32) = 3 by decide), if_pos (show (4 : Int32) = 4 from rfl), if_neg (show ¬ zwin 4 0 6 = 0 by decide)]
      rw [if_neg (show ¬ (4 : Int32) = 3 by decide), if_pos (show (4 : Int32) = 4 from rfl)]
      rw [et]
    by_cases x5 : y = 5
    · subst x5
      rw [if_neg (show ¬ (5 : Int32) = 0 by decide), if_neg (show ¬ (5 : Int32) = 1 by decide), if_neg (show ¬ (5 : Int32) = 2 by decide), if_neg (show ¬ (5 : Int32) = 3 by decide), if_neg (show ¬ (5 : Int32) = 4 by decide), if_pos (show (5 : Int32) = 5 from rfl), if_neg (show ¬ zwin 5 0 6 = 0 by decide)]
      rw [if_neg (show ¬ (5 : Int32) = 3 by decide), if_neg (show ¬ (5 : Int32) = 4 by decide), if_pos (show (5 : Int32) = 5 from rfl)]
      exact (r.gr (i := 4) hj' (by decide)).symm
    by_cases x6 : y = 6
    · subst x6
      rw [if_neg (show ¬ (6 : Int32) = 0 by decide), if_neg (show ¬ (6 : Int32) = 1 by decide), if_neg (show ¬ (6 : Int32) = 2 by decide), if_neg (show ¬ (6 : Int32) = 3 by decide), if_neg (show ¬ (6 : Int32) = 4 by decide), if_neg (show ¬ (6 : Int32) = 5 by decide), if_pos (show (6 : Int32) = 6 from rfl), if_neg (show ¬ zwin 6 0 6 = 0 by decide)]
      rw [if_neg (show ¬ (6 : Int32) = 3 by decide), if_neg (show ¬ (6 : Int32) = 4 by decide), if_neg (show ¬ (6 : Int32) = 5 by decide), if_pos (show (6 : Int32) = 6 from rfl)]
      exact (r.gr (i := 5) hj' (by decide)).symm
    rw [if_neg x0, if_neg x1, if_neg x2, if_neg x3, if_neg x4, if_neg x5, if_neg x6, if_pos]
    refine zwin0 (n := 6) (by decide) (fun i hi => ?_)
    rcases (show i = 0 ∨ i = 1 ∨ i = 2 ∨ i = 3 ∨ i = 4 ∨ i = 5 ∨ i = 6 by omega) with e | e | e | e | e | e | e
    · rw [e]; exact x0
    · rw [e]; exact x1
    · rw [e]; exact x2
    · rw [e]; exact x3
    · rw [e]; exact x4
    · rw [e]; exact x5
    · rw [e]; exact x6
theorem sim_number {mc bk : Nat} {g : zGS} {s : Nat → Int32} {x : Int32} (h : Rl mc bk g s) : cNumber g x = dNumber s x := by
  have g1 : s 1 = g.2 1 := h.at (by decide)
  have hb := h.s1.2
  unfold cNumber dNumber
  by_cases c1 : 0 ≤ x
  · have n1 : ¬ x < 0 := fun z => by
      have a := tle.mp c1
      have b := tlt.mp z
      omega
    rw [if_pos c1, if_pos c1, if_neg n1, g1]
    by_cases c2 : g.2 1 ≤ x
    · rw [if_pos c2, if_pos c2]
    · rw [if_neg c2, if_neg c2]
      have hk : x.toNatClampNeg < bk := zix2 n1 (by omega) (by rw [← h.s1.1, g1]; exact c2)
      exact (h.gr hk (by decide)).symm
  · rw [if_neg c1, if_neg c1]
