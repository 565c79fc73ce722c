theorem zmin_if {a b : Int32} : (if b < a then b else a) = zmin a b := by
  unfold zmin
  by_cases q : b < a
  · rw [if_pos q, if_pos (tle.mpr (by have := tlt.mp q; omega))]
  · rw [if_neg q]
    by_cases q2 : b ≤ a
    · rw [if_pos q2]
      have := tle.mp q2
      have q' : ¬ b.toInt < a.toInt := fun z => q (tlt.mpr z)
      exact tinj (by omega)
    · rw [if_neg q2]
theorem shTake_hi {a : Nat → Int32} {y o x : Int32} {k : Nat} (hk : 21 ≤ k) : ∀ n, (shTake a y o x n).1 k = a k
  | 0 => rfl
  | n + 1 => by
    have st : shTake a y o x (n + 1) = shTakeS y o (20 - n) (shTake a y o x n) := rfl
    rw [st, tk_step]
    by_cases c1 : nI (20 - n) < y
    · rw [if_pos c1]
      exact shTake_hi hk n
    · rw [if_neg c1]
      by_cases c2 : o < nI (20 - n)
      · rw [if_pos c2]
        exact shTake_hi hk n
      · rw [if_neg c2]
        show upd (shTake a y o x n).1 (20 - n) _ k = a k
        rw [upd_ne (by omega)]
        exact shTake_hi hk n
theorem dTk_u {s : Nat → Int32} {i g : Nat} {y x : Int32} (hi : i < 115) : ∀ n, dTk (upd s i y) g x n = (upd (dTk s g x n).1 i y, (dTk s g x n).2)
  | 0 => rfl
  | n + 1 => by
    rw [dTk_s, dTk_s, dTk_u hi n]
    unfold dTkS
    dsimp only
    rw [upd_ne (show 115 + (g - n) ≠ i by omega), upd_co (show i ≠ 115 + (g - n) by omega)]
/-- the class's take as the model's, the whole row -/
theorem tk_row {s : Nat → Int32} {g e : Nat} {x : Int32} (hg : g ≤ 20) (he : e ≤ g + 1) (h : aNN s) (hx : 0 ≤ x.toInt) : setA s (shTake (fun k => s (115 + k)) (nI e) (nI g) x 21).1 = (dTk s g x (g + 1 - e)).1 ∧ (shTake (fun k => s (115 + k)) (nI e) (nI g) x 21).2 = (dTk s g x (g + 1 - e)).2 := by
  obtain ⟨m, hm, t1, t2⟩ := tk_sim (s := s) (a := fun k => s (115 + k)) (x := x) hg he (fun k hk => rfl) 21 (by decide)
  have em : m = g + 1 - e := by omega
  rw [em] at t1 t2
  refine ⟨?_, t2.symm⟩
  have fr := (dTk_v hg h hx (g + 1 - e) (by omega)).2.2
  funext i
  by_cases q : 115 ≤ i
  · obtain ⟨k, rfl⟩ := Nat.exists_eq_add_of_le q
    rw [setA_hi]
    by_cases q2 : k < 21
    · exact (t1 k q2).symm
    · rw [shTake_hi (by omega), fr _ (by omega)]
  · rw [setA_lo (by omega), fr _ (by omega)]
theorem hFpay_n {s : Nat → Int32} {j : Nat} {x : Int32} (hj : j < 10) : hFpay s j x = upd (upd (upd s (55 + 6 * j + 4) (s (55 + 6 * j + 4) + x)) 13 (s 13 + x)) 5 (s 5 + x) := by
  unfold hFpay
  rw [show ∀ y, (upd s (55 + 6 * j + 4) y) 13 = s 13 from fun y => upd_ne (by omega)]
  rw [show ∀ y z, (upd (upd s (55 + 6 * j + 4) y) 13 z) 5 = s 5 from fun y z => (upd_ne (by omega)).trans (upd_ne (by omega))]
theorem dE3_n {t : Nat → Int32} {k : Nat} {p h : Int32} (hk : k < 10) : dE3 t k p h = upd (upd (upd (upd (upd t (55 + 6 * k + 4) (t (55 + 6 * k + 4) + p)) (55 + 6 * k + 5) (t (55 + 6 * k + 5) + h)) 12 (t 12 + h)) 5 (t 5 + p)) 13 (t 13 + p) := by
  unfold dE3
  dsimp only
  rw [show ∀ y, (upd t (55 + 6 * k + 4) y) (55 + 6 * k + 5) = t (55 + 6 * k + 5) from fun y => upd_ne (by omega)]
  rw [show ∀ y z, (upd (upd t (55 + 6 * k + 4) y) (55 + 6 * k + 5) z) 12 = t 12 from fun y z => (upd_ne (by omega)).trans (upd_ne (by omega))]
  rw [show ∀ y z a, (upd (upd (upd t (55 + 6 * k + 4) y) (55 + 6 * k + 5) z) 12 a) 5 = t 5 from fun y z a => (upd_ne (by omega)).trans ((upd_ne (by omega)).trans (upd_ne (by omega)))]
  rw [show ∀ y z a b, (upd (upd (upd (upd t (55 + 6 * k + 4) y) (55 + 6 * k + 5) z) 12 a) 5 b) 13 = t 13 from fun y z a b => (upd_ne (by omega)).trans ((upd_ne (by omega)).trans ((upd_ne (by omega)).trans (upd_ne (by omega))))]
theorem pay0_eq {t : Nat → Int32} {k : Nat} {p : Int32} (hk : k < 10) : hFpay t k p = dE3 t k p 0 := by
  rw [hFpay_n hk, dE3_n hk, Int32.add_zero, Int32.add_zero]
  rw [show ∀ y, upd (upd t (55 + 6 * k + 4) y) (55 + 6 * k + 5) (t (55 + 6 * k + 5)) = upd t (55 + 6 * k + 4) y from fun y => (upd_id9 (upd_ne (by omega))).symm]
  rw [show ∀ y, upd (upd t (55 + 6 * k + 4) y) 12 (t 12) = upd t (55 + 6 * k + 4) y from fun y => (upd_id9 (upd_ne (by omega))).symm]
  exact upd_co (by decide)
theorem pay1_eq {t : Nat → Int32} {k : Nat} {p : Int32} (hk : k < 10) : hFpay (hFs4 t k) k p = dE3 t k p 1 := by
  have e : hFs4 t k = upd (upd t (55 + 6 * k + 5) (t (55 + 6 * k + 5) + 1)) 12 (t 12 + 1) := by
    unfold hFs4
    rw [show ∀ y, (upd t (55 + 6 * k + 5) y) 12 = t 12 from fun y => upd_ne (by omega)]
  rw [hFpay_n hk, dE3_n hk, e]
  rw [show ∀ y z, (upd (upd t (55 + 6 * k + 5) y) 12 z) (55 + 6 * k + 4) = t (55 + 6 * k + 4) from fun y z => (upd_ne (by omega)).trans (upd_ne (by omega))]
  rw [show ∀ y z, (upd (upd t (55 + 6 * k + 5) y) 12 z) 13 = t 13 from fun y z => (upd_ne (by omega)).trans (upd_ne (by omega))]
  rw [show ∀ y z, (upd (upd t (55 + 6 * k + 5) y) 12 z) 5 = t 5 from fun y z => (upd_ne (by omega)).trans (upd_ne (by omega))]
  rw [upd_co (i := 12) (j := 55 + 6 * k + 4) (by omega), upd_co (i := 55 + 6 * k + 5) (j := 55 + 6 * k + 4) (by omega), upd_co (i := 13) (j := 5) (by decide)]

