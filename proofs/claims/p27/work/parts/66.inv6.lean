theorem tk2c : (2 : Int32).toInt = 2 := by decide
/-- one group eats: its numbers -/
theorem eat_t {σ : Nat → Int32} {j fr : Nat} (hfr : fr ≤ 15) (hN : aNN σ) (hT : aT σ 0 21 ≤ 80) (hp1 : 1 ≤ (σ (55 + 6 * j + 1)).toInt) (hp2 : (σ (55 + 6 * j + 1)).toInt ≤ 12) : (((σ (55 + 6 * j + 1) + 1) / 2).toInt = ((σ (55 + 6 * j + 1)).toInt + 1) / 2) ∧ (dWh σ j fr).toInt = min (((σ (55 + 6 * j + 1)).toInt + 1) / 2) (aT σ 0 (fr + 1)) := by
  have c1 := tk1
  have c2 := tk2c
  have w : ((σ (55 + 6 * j + 1) + 1) / 2).toInt = ((σ (55 + 6 * j + 1)).toInt + 1) / 2 := by
    have a1 : (σ (55 + 6 * j + 1) + 1).toInt = (σ (55 + 6 * j + 1)).toInt + (1 : Int32).toInt := tadd (by omega) (by omega)
    rw [tdiv (by omega) (by omega), a1, c1, c2]
  refine ⟨w, ?_⟩
  unfold dWh
  rw [tmin, w, Nat.sub_zero, dLF_t hN hT 0 (fr + 1) (by omega)]
theorem eat_d1 {σ : Nat → Int32} {j fr : Nat} : dE1 σ j fr = upd (dTk σ fr (dWh σ j fr) (fr + 1)).1 8 (σ 8 + dWh σ j fr) := by
  unfold dE1 dTake
  rw [Nat.sub_zero, dTk_lo (by decide)]
theorem eat_d2 {σ : Nat → Int32} {j fr : Nat} : dE2 σ j fr = upd (dTk (dTk σ fr (dWh σ j fr) (fr + 1)).1 20 (2 * dSo σ j fr) (20 + 1 - (fr + 1))).1 8 (σ 8 + dWh σ j fr + 2 * dSo σ j fr) := by
  unfold dE2 dTake
  rw [eat_d1, dTk_u (by decide)]
  dsimp only
  rw [upd_eq, upd_upd]
theorem eat_so {σ : Nat → Int32} {j fr : Nat} (hfr : fr ≤ 15) (hN : aNN σ) (hT : aT σ 0 21 ≤ 80) (hp1 : 1 ≤ (σ (55 + 6 * j + 1)).toInt) (hp2 : (σ (55 + 6 * j + 1)).toInt ≤ 12) : aNN (dTk σ fr (dWh σ j fr) (fr + 1)).1 ∧ aT (dTk σ fr (dWh σ j fr) (fr + 1)).1 0 21 ≤ aT σ 0 21 ∧ (dSo σ j fr).toInt = min (((σ (55 + 6 * j + 1)).toInt + 1) / 2 - (dWh σ j fr).toInt) (aT (dTk σ fr (dWh σ j fr) (fr + 1)).1 (fr + 1) (20 + 1 - (fr + 1)) / 2) ∧ (((σ (55 + 6 * j + 1) + 1) / 2) - dWh σ j fr).toInt = ((σ (55 + 6 * j + 1)).toInt + 1) / 2 - (dWh σ j fr).toInt ∧ (dLF (dTk σ fr (dWh σ j fr) (fr + 1)).1 (fr + 1) (20 + 1 - (fr + 1)) / 2).toInt = aT (dTk σ fr (dWh σ j fr) (fr + 1)).1 (fr + 1) (20 + 1 - (fr + 1)) / 2 := by
  obtain ⟨w1, w2⟩ := eat_t hfr hN hT hp1 hp2
  have hD := aT_nn hN 0 (fr + 1) (by omega)
  obtain ⟨n1, n2⟩ := tk_nn (g := fr) (n := fr + 1) (x := dWh σ j fr) (by omega) hN (by omega) (Nat.le_refl _)
  have n3 := aT_mono n2 0 21 (by decide)
  have c2 := tk2c
  have e1 : (((σ (55 + 6 * j + 1) + 1) / 2) - dWh σ j fr).toInt = ((σ (55 + 6 * j + 1)).toInt + 1) / 2 - (dWh σ j fr).toInt := by
    rw [tsub (by omega) (by omega), w1]
  have e2 : (dLF (dTk σ fr (dWh σ j fr) (fr + 1)).1 (fr + 1) (20 + 1 - (fr + 1)) / 2).toInt = aT (dTk σ fr (dWh σ j fr) (fr + 1)).1 (fr + 1) (20 + 1 - (fr + 1)) / 2 := by
    have q := dLF_t n1 (by omega) (fr + 1) (20 + 1 - (fr + 1)) (by omega)
    have q2 := aT_nn n1 (fr + 1) (20 + 1 - (fr + 1)) (by omega)
    rw [tdiv (by omega) (by omega), q, c2]
  refine ⟨n1, n3, ?_, e1, e2⟩
  unfold dSo
  rw [tmin, e1, eat_d1, dLF_lo (by decide), e2]
/-- the class feeds as the model -/
theorem feed_eq {σ : Nat → Int32} {j fr : Nat} (hj : j < 10) (h17 : σ 17 = nI fr) (hfr : fr ≤ 15) (hN : aNN σ) (hT : aT σ 0 21 ≤ 80) (hp1 : 1 ≤ (σ (55 + 6 * j + 1)).toInt) (hp2 : (σ (55 + 6 * j + 1)).toInt ≤ 12) : hFeed σ j = dEat σ j fr := by
  obtain ⟨w1, w2⟩ := eat_t hfr hN hT hp1 hp2
  obtain ⟨n1, n2, n3, n4, n5⟩ := eat_so hfr hN hT hp1 hp2
  have hD := aT_nn hN 0 (fr + 1) (by omega)
  have hD2 := aT_nn n1 (fr + 1) (20 + 1 - (fr + 1)) (by omega)
  have c2 := tk2c
  have c0 := tk0
  have eW : hFwant σ j = (σ (55 + 6 * j + 1) + 1) / 2 := rfl
  obtain ⟨k1, k2⟩ := tk_row (s := σ) (g := fr) (e := 0) (x := (σ (55 + 6 * j + 1) + 1) / 2) (by omega) (by omega) hN (by omega)
  obtain ⟨p1, p2, p3⟩ := tk_cap (s := σ) (g := fr) (n := fr + 1) (x := (σ (55 + 6 * j + 1) + 1) / 2) (y := dWh σ j fr) (by omega) hN (by omega) (by omega) (by rw [w2, w1, Nat.sub_self])
  rw [Nat.sub_zero] at k1 k2
  have F0 : hFt1 σ j = shTake (fun k => σ (115 + k)) (nI 0) (nI fr) ((σ (55 + 6 * j + 1) + 1) / 2) 21 := by
    unfold hFt1
    rw [h17]
    rfl
  have F1 : hFs1 σ j = (dTk σ fr (dWh σ j fr) (fr + 1)).1 := by
    unfold hFs1
    rw [F0, k1, p1]
  have Fw : hFwhole σ j = dWh σ j fr := by
    unfold hFwhole
    rw [F0, k2, p2, eW]
    apply tinj
    have q1 : ((σ (55 + 6 * j + 1) + 1) / 2 - dWh σ j fr).toInt = ((σ (55 + 6 * j + 1)).toInt + 1) / 2 - (dWh σ j fr).toInt := n4
    rw [tsub (by omega) (by omega)]
    omega
  have Fl : hFlack σ j = (σ (55 + 6 * j + 1) + 1) / 2 - dWh σ j fr := by
    unfold hFlack
    rw [Fw, eW]
  have Ft : hFst σ j = nI (fr + 1) := by
    unfold hFst
    rw [F1, dTk_lo (by decide), h17]
    exact nI_add fr 1
  have Fh : hFhalf σ j = dLF (dTk σ fr (dWh σ j fr) (fr + 1)).1 (fr + 1) (20 + 1 - (fr + 1)) / 2 := by
    unfold hFhalf
    rw [Ft, F1]
    have q := shMany_from (s := (dTk σ fr (dWh σ j fr) (fr + 1)).1) (a := fun k => (dTk σ fr (dWh σ j fr) (fr + 1)).1 (115 + k)) (x := fr + 1) (b := 20) (by omega) (by decide) (fun k hk => rfl) 21 (by decide) (by decide)
    exact congrArg (· / (2 : Int32)) q
  have Fs : hFsoup σ j = dSo σ j fr := by
    unfold hFsoup
    rw [zmin_if, Fh, Fl]
    unfold dSo
    rw [eat_d1, dLF_lo (by decide)]
  have m2 : (dSo σ j fr * 2).toInt = 2 * (dSo σ j fr).toInt := by
    have m0 : (dSo σ j fr).toInt * (2 : Int32).toInt = (dSo σ j fr).toInt * 2 := by rw [c2]
    rw [tmul (by omega) (by omega), m0]
    omega
  have mc : dSo σ j fr * 2 = 2 * dSo σ j fr := Int32.mul_comm _ _
  obtain ⟨r1, r2⟩ := tk_row (s := (dTk σ fr (dWh σ j fr) (fr + 1)).1) (g := 20) (e := fr + 1) (x := dSo σ j fr * 2) (by decide) (by omega) n1 (by omega)
  obtain ⟨u1, u2, u3⟩ := tk_cap (s := (dTk σ fr (dWh σ j fr) (fr + 1)).1) (g := 20) (n := 20 + 1 - (fr + 1)) (x := dSo σ j fr * 2) (y := dSo σ j fr * 2) (by decide) n1 (by omega) (by omega) (by
    rw [show 20 + 1 - (20 + 1 - (fr + 1)) = fr + 1 by omega]
    omega)
  have G0 : hFt2 σ j = shTake (fun k => (dTk σ fr (dWh σ j fr) (fr + 1)).1 (115 + k)) (nI (fr + 1)) (nI 20) (dSo σ j fr * 2) 21 := by
    unfold hFt2
    rw [Ft, F1, Fs]
    rfl
  have G3 : hFs3 σ j = dE2 σ j fr := by
    unfold hFs3 hFs2
    rw [G0, r2, u3, F1, r1, Fs, Fw, dTk_lo (by decide), eat_d2, mc, Int32.sub_zero, Int32.add_assoc]
  have e1 : dE2 σ j fr (55 + 6 * j + 1) = σ (55 + 6 * j + 1) := dE2_lo (by omega) (by omega)
  unfold hFeed dEat
  rw [Fl, Fs, G3]
  by_cases q : (σ (55 + 6 * j + 1) + 1) / 2 - dWh σ j fr ≤ dSo σ j fr
  · have q1 := tle.mp q
    have a1 : (dWh σ j fr + dSo σ j fr).toInt = (dWh σ j fr).toInt + (dSo σ j fr).toInt := tadd (by omega) (by omega)
    rw [if_pos q, if_pos (tle.mpr (by omega)), e1, pay0_eq hj]
    unfold hFfare
    rw [Fl]
    by_cases q2 : (σ (55 + 6 * j + 1) + 1) / 2 - dWh σ j fr = 0
    · have q3 : ((σ (55 + 6 * j + 1) + 1) / 2 - dWh σ j fr).toInt = 0 := by rw [q2]; exact c0
      rw [if_pos q2, if_pos (tle.mpr (by omega)), Int32.mul_comm]
    · have q3 : ((σ (55 + 6 * j + 1) + 1) / 2 - dWh σ j fr).toInt ≠ 0 := fun z => q2 (tinj (z.trans c0.symm))
      rw [if_neg q2, if_neg (fun z => by have := tle.mp z; omega), Int32.mul_comm]
  · have q1 : ¬ ((σ (55 + 6 * j + 1) + 1) / 2 - dWh σ j fr).toInt ≤ (dSo σ j fr).toInt := fun z => q (tle.mpr z)
    have a1 : (dWh σ j fr + dSo σ j fr).toInt = (dWh σ j fr).toInt + (dSo σ j fr).toInt := tadd (by omega) (by omega)
    rw [if_neg q, if_neg (fun z => by have := tle.mp z; omega), pay1_eq hj]
    have e2 : hFs4 (dE2 σ j fr) j (55 + 6 * j + 1) = σ (55 + 6 * j + 1) := by
      unfold hFs4
      rw [upd_ne (by omega), upd_ne (by omega), e1]
    rw [e2, Int32.mul_comm]

