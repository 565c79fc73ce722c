theorem tk0 : (0 : Int32).toInt = 0 := by decide
theorem tk1 : (1 : Int32).toInt = 1 := by decide
theorem tk2 : (2 : Int32).toInt = 2 := by decide
theorem tk3 : (3 : Int32).toInt = 3 := by decide
theorem tk4 : (4 : Int32).toInt = 4 := by decide
theorem tk5 : (5 : Int32).toInt = 5 := by decide
theorem tk6 : (6 : Int32).toInt = 6 := by decide
theorem tk8 : (8 : Int32).toInt = 8 := by decide
theorem tk9 : (9 : Int32).toInt = 9 := by decide
theorem tk10 : (10 : Int32).toInt = 10 := by decide
theorem tk12 : (12 : Int32).toInt = 12 := by decide
theorem tk13 : (13 : Int32).toInt = 13 := by decide
theorem tk15 : (15 : Int32).toInt = 15 := by decide
theorem tk20 : (20 : Int32).toInt = 20 := by decide
theorem tk21 : (21 : Int32).toInt = 21 := by decide
theorem tk30 : (30 : Int32).toInt = 30 := by decide
theorem tk60 : (60 : Int32).toInt = 60 := by decide
theorem tk80 : (80 : Int32).toInt = 80 := by decide
theorem tk90 : (90 : Int32).toInt = 90 := by decide
theorem tk500 : (500 : Int32).toInt = 500 := by decide
theorem tk9999 : (9999 : Int32).toInt = 9999 := by decide
theorem dSt_c {s : Nat → Int32} {k i : Nat} {x : Int32} (hk : k < 4) (hi : i < 9) (h4 : i ≠ 4) (h5 : i ≠ 5) (h7 : i ≠ 7) : dSt (upd s (19 + 9 * k + i) x) k = upd (dSt s k) (19 + 9 * k + i) x := by
  rw [dSt_n hk, dSt_n hk]
  rw [dLF_lo (by omega), show (upd s (19 + 9 * k + i) x) 3 = s 3 from upd_ne (by omega), show (upd s (19 + 9 * k + i) x) (19 + 9 * k + 5) = s (19 + 9 * k + 5) from upd_ne (by omega), show (upd s (19 + 9 * k + i) x) (19 + 9 * k + 4) = s (19 + 9 * k + 4) from upd_ne (by omega)]
  generalize (s 3 - s (19 + 9 * k + 5)).toNatClampNeg = A
  generalize zmin (s (19 + 9 * k + 4)) (80 - dLF s 0 21) = n
  unfold dStA
  rw [show (upd s (19 + 9 * k + i) x) (19 + 9 * k + 7) = s (19 + 9 * k + 7) from upd_ne (by omega), show (upd s (19 + 9 * k + i) x) (115 + A) = s (115 + A) from upd_ne (by omega), show (upd s (19 + 9 * k + i) x) 10 = s 10 from upd_ne (by omega), show (upd s (19 + 9 * k + i) x) 9 = s 9 from upd_ne (by omega)]
  by_cases q : s 3 - s (19 + 9 * k + 5) ≤ 20
  · rw [if_pos q, if_pos q]
    rw [upd_co (i := 19 + 9 * k + i) (j := 19 + 9 * k + 4) (by omega), upd_co (i := 19 + 9 * k + i) (j := 19 + 9 * k + 7) (by omega), upd_co (i := 19 + 9 * k + i) (j := 115 + A) (by omega), upd_co (i := 19 + 9 * k + i) (j := 10) (by omega)]
  · rw [if_neg q, if_neg q]
    rw [upd_co (i := 19 + 9 * k + i) (j := 19 + 9 * k + 4) (by omega), upd_co (i := 19 + 9 * k + i) (j := 19 + 9 * k + 7) (by omega), upd_co (i := 19 + 9 * k + i) (j := 9) (by omega)]
/-- a mule that comes on: the class as the model -/
theorem mcB_eq {s : Nat → Int32} {k : Nat} (hk : k < 4) (hA : s (19 + 9 * k + 2) = 1 → ¬ (s 3 - s (19 + 9 * k + 5)) < 0) (hT : 1 ≤ (s (19 + 9 * k + 3)).toInt) (hP : s (19 + 9 * k + 2) = 1 ∨ s (19 + 9 * k + 2) = 2 ∨ s (19 + 9 * k + 2) = 3) : (if (mComeOnB (fun i9 => s (19 + 9 * k + i9))).2 = 0 then setR s (19 + 9 * k) 9 (mComeOnB (fun i9 => s (19 + 9 * k + i9))).1 else hUnload k (setR s (19 + 9 * k) 9 (mComeOnB (fun i9 => s (19 + 9 * k + i9))).1)) = dCo s k := by
  unfold mComeOnB dCo
  have e3 : dC1 s k (19 + 9 * k + 3) = s (19 + 9 * k + 3) - 1 := upd_eq
  rw [e3]
  dsimp only
  by_cases c1 : s (19 + 9 * k + 3) - 1 ≤ 0
  · rw [if_pos c1, if_pos c1]
    by_cases c2 : s (19 + 9 * k + 2) = 1
    · rw [if_pos c2, if_pos c2]
      dsimp only
      rw [if_neg (show ¬ (1 : Int32) = 0 by decide), setR_upd (by decide), setR_upd (by decide), setR_upd (by decide), setR_self]
      rw [hUn_n hk]
      · rw [dSt_c hk (by decide) (by decide) (by decide) (by decide), dSt_c hk (by decide) (by decide) (by decide) (by decide)]
        rfl
      · rw [show ∀ a b c, (upd (upd (upd s (19 + 9 * k + 3) a) (19 + 9 * k + 2) b) (19 + 9 * k + 3) c) 3 = s 3 from fun a b c => (upd_ne (by omega)).trans ((upd_ne (by omega)).trans (upd_ne (by omega))), show ∀ a b c, (upd (upd (upd s (19 + 9 * k + 3) a) (19 + 9 * k + 2) b) (19 + 9 * k + 3) c) (19 + 9 * k + 5) = s (19 + 9 * k + 5) from fun a b c => (upd_ne (by omega)).trans ((upd_ne (by omega)).trans (upd_ne (by omega)))]
        exact hA c2
    · rw [if_neg c2, if_neg c2]
      by_cases c3 : s (19 + 9 * k + 2) = 2
      · rw [if_pos c3, if_pos c3]
        have e6 : dC1 s k (19 + 9 * k + 6) = s (19 + 9 * k + 6) := upd_ne (by omega)
        have e1 : dC1 s k (19 + 9 * k + 1) = s (19 + 9 * k + 1) := upd_ne (by omega)
        unfold dHo
        rw [e6, e1]
        have e8 : ∀ x y, (upd (upd (dC1 s k) (19 + 9 * k + 2) x) (19 + 9 * k + 3) y) (19 + 9 * k + 8) = s (19 + 9 * k + 8) := fun x y => (upd_ne (by omega)).trans ((upd_ne (by omega)).trans (upd_ne (by omega)))
        have z : s (19 + 9 * k + 3) - 1 = 0 := by
          have a1 := tle.mp c1
          have c9 := tk1
          have c8 := (tbd (s (19 + 9 * k + 3))).2
          have a2 : (s (19 + 9 * k + 3) - 1).toInt = (s (19 + 9 * k + 3)).toInt - (1 : Int32).toInt := tsub (by omega) (by omega)
          have a3 := tk0
          exact tinj (by omega)
        by_cases c4 : s (19 + 9 * k + 6) < s (19 + 9 * k + 1)
        · rw [if_pos c4, if_pos c4]
          unfold mComeOnC
          dsimp only
          rw [if_neg (show ¬ s (19 + 9 * k + 2) = 3 by rw [c3]; decide)]
          dsimp only
          rw [if_pos (show (0 : Int32) = 0 from rfl), setR_upd (by decide), setR_upd (by decide), setR_self, e8, show s (19 + 9 * k + 8) + 0 = s (19 + 9 * k + 8) from Int32.add_zero _]
          rw [show upd (upd (upd (dC1 s k) (19 + 9 * k + 2) 0) (19 + 9 * k + 3) 0) (19 + 9 * k + 8) (s (19 + 9 * k + 8)) = upd (upd (dC1 s k) (19 + 9 * k + 2) 0) (19 + 9 * k + 3) 0 from (upd_id9 (e8 0 0)).symm]
          unfold dC1
          rw [upd_co (i := 19 + 9 * k + 3) (j := 19 + 9 * k + 2) (by omega), upd_upd, z]
        · rw [if_neg c4, if_neg c4]
          dsimp only
          rw [if_pos (show (0 : Int32) = 0 from rfl), setR_upd (by decide), setR_upd (by decide), setR_upd (by decide), setR_upd (by decide), setR_self, e8]
          rfl
      · rw [if_neg c3, if_neg c3]
        unfold mComeOnC
        dsimp only
        by_cases c4 : s (19 + 9 * k + 2) = 3
        · rw [if_pos c4]
          dsimp only
          rw [if_pos (show (0 : Int32) = 0 from rfl), setR_upd (by decide), setR_upd (by decide), setR_upd (by decide), setR_self]
          rw [upd_co (i := 19 + 9 * k + 6) (j := 19 + 9 * k + 2) (by omega)]
          rfl
        · exact absurd (hP.resolve_left c2) (fun z => z.elim c3 c4)
  · rw [if_neg c1, if_neg c1]
    dsimp only
    rw [if_pos (show (0 : Int32) = 0 from rfl), setR_upd (by decide), setR_self]
    rfl
theorem muS_eq {s : Nat → Int32} {k : Nat} {z : Int32} (hk : k < 4) (hP : s (19 + 9 * k + 2) = 0 ∨ s (19 + 9 * k + 2) = 1 ∨ s (19 + 9 * k + 2) = 2 ∨ s (19 + 9 * k + 2) = 3) (hA : s (19 + 9 * k + 2) = 1 → ¬ (s 3 - s (19 + 9 * k + 5)) < 0) (hT : s (19 + 9 * k + 2) ≠ 0 → 1 ≤ (s (19 + 9 * k + 3)).toInt) : hMulS z k s = dMuS z k s := by
  unfold hMulS dMuS mComeOn
  dsimp only
  by_cases c0 : s (19 + 9 * k + 2) = 0
  · rw [if_pos c0, if_neg (show ¬ s (19 + 9 * k + 2) = 3 by rw [c0]; decide), if_pos c0]
    dsimp only
    rw [if_pos (show (0 : Int32) = 0 from rfl), setR_self]
  · rw [if_neg c0, if_neg c0]
    have h := mcB_eq hk hA (hT c0) (hP.resolve_left c0)
    by_cases c1 : z = 0
    · rw [if_pos c1, if_pos c1, h, ite_self]
    · rw [if_neg c1, if_neg c1]
      by_cases c3 : s (19 + 9 * k + 2) = 3
      · rw [if_pos c3, if_pos c3, h]
      · rw [if_neg c3, if_neg c3]
        dsimp only
        rw [if_pos (show (0 : Int32) = 0 from rfl), setR_self]

