theorem sim_loaves {mc bk : Nat} {g : zGS} {s : Nat → Int32} {x : Int32} (h : Rl mc bk g s) (hs : ∀ k, k < 21 → shMany (fun k9 => g.2 (115 + k9)) (nI k) (nI k) 21 = g.2 (115 + k)) : cLoaves g x = dLoaves s x := by
  unfold cLoaves dLoaves
  by_cases c1 : zwin x 0 20 = 0
  · rw [if_pos c1, if_pos c1]
  · rw [if_neg c1, if_neg c1]
    have hx := zix1 (zwin_nn c1 (by decide))
    have hx8 := zwin_hi c1 (by decide) (show (20 : Int32) = nI 20 from rfl) (by decide)
    rw [h.ag (by omega), ← hs _ (by omega), ← hx]
theorem sim_muleOf {mc bk : Nat} {g : zGS} {s : Nat → Int32} {m x : Int32} (h : Rl mc bk g s) : cMuleOf g m x = dMuleOf s m x := by
  have h0 : s 0 = g.2 0 := h.at (by decide)
  unfold cMuleOf dMuleOf
  by_cases c1 : m < 0
  · rw [if_pos c1, dIs_0 (.inl c1), if_pos rfl]
  · rw [if_neg c1]
    by_cases c2 : g.2 0 ≤ m
    · rw [if_pos c2, dIs_0 (.inr (by rw [h0]; exact c2)), if_pos rfl]
    · have c2' : ¬ s 0 ≤ m := by rw [h0]; exact c2
      rw [if_neg c2, dIs_1 c1 c2', if_neg (show ¬ (1 : Int32) = 0 by decide)]
      have hk := h.k c1 c2'
      generalize m.toNatClampNeg = k at *
      unfold mTell
      by_cases x0 : x = 0
      · subst x0
        rw [if_pos rfl, if_neg (show ¬ zwin 0 0 7 = 0 by decide), if_neg (show ¬ (5 : Int32) ≤ 0 by decide)]
        exact (h.mu (i := 0) hk (by decide)).symm
      by_cases x1 : x = 1
      · subst x1
        rw [if_neg (show ¬ (1 : Int32) = 0 by decide), if_pos rfl, if_neg (show ¬ zwin 1 0 7 = 0 by decide), if_neg (show ¬ (5 : Int32) ≤ 1 by decide)]
        exact (h.mu (i := 1) hk (by decide)).symm
      by_cases x2 : x = 2
      · subst x2
        rw [if_neg (show ¬ (2 : Int32) = 0 by decide), if_neg (show ¬ (2 : Int32) = 1 by decide), if_pos rfl, if_neg (show ¬ zwin 2 0 7 = 0 by decide), if_neg (show ¬ (5 : Int32) ≤ 2 by decide)]
        exact (h.mu (i := 2) hk (by decide)).symm
      by_cases x3 : x = 3
      · subst x3
        rw [if_neg (show ¬ (3 : Int32) = 0 by decide), if_neg (show ¬ (3 : Int32) = 1 by decide), if_neg (show ¬ (3 : Int32) = 2 by decide), if_pos rfl, if_neg (show ¬ zwin 3 0 7 = 0 by decide), if_neg (show ¬ (5 : Int32) ≤ 3 by decide)]
        exact (h.mu (i := 3) hk (by decide)).symm
      by_cases x4 : x = 4
      · subst x4
        rw [if_neg (show ¬ (4 : Int32) = 0 by decide), if_neg (show ¬ (4 : Int32) = 1 by decide), if_neg (show ¬ (4 : Int32) = 2 by decide), if_neg (show ¬ (4 : Int32) = 3 by decide), if_pos rfl, if_neg (show ¬ zwin 4 0 7 = 0 by decide), if_neg (show ¬ (5 : Int32) ≤ 4 by decide)]
        exact (h.mu (i := 4) hk (by decide)).symm
      by_cases x5 : x = 5
      · subst x5
        rw [if_neg (show ¬ (5 : Int32) = 0 by decide), if_neg (show ¬ (5 : Int32) = 1 by decide), if_neg (show ¬ (5 : Int32) = 2 by decide), if_neg (show ¬ (5 : Int32) = 3 by decide), if_neg (show ¬ (5 : Int32) = 4 by decide), if_pos rfl, if_neg (show ¬ zwin 5 0 7 = 0 by decide), if_pos (show (5 : Int32) ≤ 5 by decide)]
        exact (h.mu (i := 6) hk (by decide)).symm
      by_cases x6 : x = 6
      · subst x6
        rw [if_neg (show ¬ (6 : Int32) = 0 by decide), if_neg (show ¬ (6 : Int32) = 1 by decide), if_neg (show ¬ (6 : Int32) = 2 by decide), if_neg (show ¬ (6 : Int32) = 3 by decide), if_neg (show ¬ (6 : Int32) = 4 by decide), if_neg (show ¬ (6 : Int32) = 5 by decide), if_pos rfl, if_neg (show ¬ zwin 6 0 7 = 0 by decide), if_pos (show (5 : Int32) ≤ 6 by decide)]
        exact (h.mu (i := 7) hk (by decide)).symm
      by_cases x7 : x = 7
      · subst x7
        rw [if_neg (show ¬ (7 : Int32) = 0 by decide), if_neg (show ¬ (7 : Int32) = 1 by decide), if_neg (show ¬ (7 : Int32) = 2 by decide), if_neg (show ¬ (7 : Int32) = 3 by decide), if_neg (show ¬ (7 : Int32) = 4 by decide), if_neg (show ¬ (7 : Int32) = 5 by decide), if_neg (show ¬ (7 : Int32) = 6 by decide), if_pos rfl, if_neg (show ¬ zwin 7 0 7 = 0 by decide), if_pos (show (5 : Int32) ≤ 7 by decide)]
        exact (h.mu (i := 8) hk (by decide)).symm
      rw [if_neg x0, if_neg x1, if_neg x2, if_neg x3, if_neg x4, if_neg x5, if_neg x6, if_neg x7]
      have hz : zwin x 0 7 = 0 := by
        apply Classical.byContradiction
        intro q
        have hx := zix1 (zwin_nn q (by decide))
        have hx8 := zwin_hi q (by decide) (show (7 : Int32) = nI 7 from rfl) (by decide)
        generalize x.toNatClampNeg = j at *
        subst hx
        match j, hx8 with
        | 0, _ => exact x0 rfl
        | 1, _ => exact x1 rfl
        | 2, _ => exact x2 rfl
        | 3, _ => exact x3 rfl
        | 4, _ => exact x4 rfl
        | 5, _ => exact x5 rfl
        | 6, _ => exact x6 rfl
        | 7, _ => exact x7 rfl
      rw [if_pos hz]

