/-! a group eats: the law's way is the reference's -/
theorem lE3_eq {t : Nat → Int32} {k : Nat} {x h : Int32} (hk : k < 10) : lE3 t k x h = dE3 t k (t (55 + 6 * k + 1) * x) h := by
  rw [dE3_n hk, Int32.mul_comm]
  unfold lE3
  dsimp only
  rw [show ∀ y, (upd t (55 + 6 * k + 4) y) (55 + 6 * k + 5) = t (55 + 6 * k + 5) from fun y => upd_ne (by omega)]
  rw [show ∀ y z, (upd (upd t (55 + 6 * k + 4) y) (55 + 6 * k + 5) z) 5 = t 5 from fun y z => (upd_ne (by omega)).trans (upd_ne (by omega))]
  rw [show ∀ y z, (upd (upd t (55 + 6 * k + 4) y) (55 + 6 * k + 5) z) (55 + 6 * k + 1) = t (55 + 6 * k + 1) from fun y z => (upd_ne (by omega)).trans (upd_ne (by omega))]
  rw [show ∀ y z a, (upd (upd (upd t (55 + 6 * k + 4) y) (55 + 6 * k + 5) z) 5 a) 12 = t 12 from fun y z a => (upd_ne (by omega)).trans ((upd_ne (by omega)).trans (upd_ne (by omega)))]
  rw [show ∀ y z a b, (upd (upd (upd (upd t (55 + 6 * k + 4) y) (55 + 6 * k + 5) z) 5 a) 12 b) 13 = t 13 from fun y z a b => (upd_ne (by omega)).trans ((upd_ne (by omega)).trans ((upd_ne (by omega)).trans (upd_ne (by omega))))]
  rw [show ∀ y z a b, (upd (upd (upd (upd t (55 + 6 * k + 4) y) (55 + 6 * k + 5) z) 5 a) 12 b) (55 + 6 * k + 1) = t (55 + 6 * k + 1) from fun y z a b => (upd_ne (by omega)).trans ((upd_ne (by omega)).trans ((upd_ne (by omega)).trans (upd_ne (by omega))))]
  rw [upd_co (i := 5) (j := 12) (by decide)]
theorem lWn_t {s : Nat → Int32} {k : Nat} (hp1 : 1 ≤ (s (55 + 6 * k + 1)).toInt) (hp2 : (s (55 + 6 * k + 1)).toInt ≤ 12) : lWn s k = nI (((s (55 + 6 * k + 1)).toInt + 1) / 2).toNat ∧ (((s (55 + 6 * k + 1)).toInt + 1) / 2).toNat ≤ 6 := by
  have c2 := tk2
  have d : (s (55 + 6 * k + 1) / 2).toInt = (s (55 + 6 * k + 1)).toInt / 2 := by rw [tdiv (by omega) (by omega), c2]
  have m0 : (s (55 + 6 * k + 1) / 2).toInt * (2 : Int32).toInt = (s (55 + 6 * k + 1)).toInt / 2 * 2 := by rw [d, c2]
  have m : (s (55 + 6 * k + 1) / 2 * 2).toInt = (s (55 + 6 * k + 1)).toInt / 2 * 2 := by rw [tmul (by omega) (by omega), m0]
  have r : (s (55 + 6 * k + 1) - s (55 + 6 * k + 1) / 2 * 2).toInt = (s (55 + 6 * k + 1)).toInt - (s (55 + 6 * k + 1)).toInt / 2 * 2 := by rw [tsub (by omega) (by omega), m]
  have e : (lWn s k).toInt = ((s (55 + 6 * k + 1)).toInt + 1) / 2 := by
    unfold lWn
    rw [tadd (by omega) (by omega)]
    omega
  refine ⟨tinj ?_, by omega⟩
  rw [e, tnI (by omega)]
  omega
set_option maxHeartbeats 4000000 in
theorem lEat_eq {s : Nat → Int32} {k fr : Nat} (hk : k < 10) (hfr : fr ≤ 15) (ha : iAg s) (hp1 : 1 ≤ (s (55 + 6 * k + 1)).toInt) (hp2 : (s (55 + 6 * k + 1)).toInt ≤ 12) : lEat s k fr (lWn s k).toNatClampNeg = dEat s k fr := by
  obtain ⟨hN, h80⟩ := ha
  obtain ⟨w1, w2⟩ := lWn_t hp1 hp2
  rw [w1, nI_clamp (by omega)]
  obtain ⟨N, hNe⟩ : ∃ N : Nat, (((s (55 + 6 * k + 1)).toInt + 1) / 2).toNat = N := ⟨_, rfl⟩
  rw [hNe] at w2 ⊢
  have hN1 : ((s (55 + 6 * k + 1)).toInt + 1) / 2 = (N : Int) := by omega
  obtain ⟨e1, e2⟩ := eat_t hfr hN h80 hp1 hp2
  obtain ⟨T1, hT1⟩ : ∃ T : Nat, aT s 0 (fr + 1) = T := ⟨(aT s 0 (fr + 1)).toNat, by have := aT_nn hN 0 (fr + 1) (by omega); omega⟩
  have t80 := aT_le (n := fr + 1) (a := 0) hN (by omega)
  obtain ⟨A1, A2⟩ := lEa_v (by omega) hN hT1 N 0 s (Nat.zero_le _) (lTK_0 (by omega) (Nat.le_refl _) hN)
  rw [Nat.zero_add, Nat.sub_zero] at A1
  rw [Nat.sub_zero] at A2
  have eWh : dWh s k fr = nI (min N T1) := tinj (by rw [e2, tnI (by omega)]; omega)
  have E1 : (lEA s fr N).1 = dE1 s k fr := by
    rw [eat_d1, eWh]
    exact lTK_eq (by omega) (Nat.le_refl _) hN (by omega) A1
  have A1' : lTK s fr (fr + 1) (min N T1) (dE1 s k fr) := by
    rw [← E1]
    exact A1
  obtain ⟨n1, n2⟩ := lTK_nn (by omega) (Nat.le_refl _) hN A1'
  have n80 : aT (dE1 s k fr) 0 21 ≤ 80 := Int.le_trans (aT_mono n2 0 21 (by decide)) h80
  obtain ⟨T2, hT2⟩ : ∃ T : Nat, aT (dE1 s k fr) (fr + 1) (20 + 1 - (fr + 1)) = T := ⟨(aT (dE1 s k fr) (fr + 1) (20 + 1 - (fr + 1))).toNat, by have := aT_nn n1 (fr + 1) (20 + 1 - (fr + 1)) (by omega); omega⟩
  have t81 := aT_le (n := 20 + 1 - (fr + 1)) (a := fr + 1) n1 (by omega)
  obtain ⟨B1, B2, B3⟩ := lEb_v hfr n1 n80 hT2 (N - min N T1) 0 (dE1 s k fr) 0 (Nat.zero_le _) (lTK_0 (by decide) (by omega) n1)
  rw [Nat.zero_add, Nat.sub_zero] at B1
  rw [Nat.sub_zero] at B2 B3
  have eB : lEB s fr N = lEb fr (N - min N T1) (dE1 s k fr) 0 := by
    show lEb fr (lEA s fr N).2 (lEA s fr N).1 0 = _
    rw [E1, show (lEA s fr N).2 = N - min N T1 from A2]
  have c2 := tk2
  have c0 := tk0
  have eSo : dSo s k fr = nI (min (N - min N T1) (T2 / 2)) := by
    have q1 : ((s (55 + 6 * k + 1) + 1) / 2 - dWh s k fr).toInt = N - min (N : Int) T1 := by
      rw [tsub (by omega) (by omega)]
      omega
    have q2 : (dLF (dE1 s k fr) (fr + 1) (20 + 1 - (fr + 1)) / 2).toInt = (T2 : Int) / 2 := by
      have z := dLF_t n1 n80 (fr + 1) (20 + 1 - (fr + 1)) (by omega)
      rw [tdiv (by omega) (by omega), z, c2, hT2]
    apply tinj
    unfold dSo
    rw [tmin, q1, q2, tnI (by omega)]
    omega
  obtain ⟨h9, hh9⟩ : ∃ h : Nat, min (N - min N T1) (T2 / 2) = h := ⟨_, rfl⟩
  rw [hh9] at B1 B2 B3 eSo
  have E2 : (lEB s fr N).1 = dE2 s k fr := by
    have q := lTK_eq (by decide) (by omega) n1 (by omega) B1
    rw [eB, q]
    unfold dE2 dTake
    rw [eSo, dTk_lo (by decide), show (2 : Int32) * nI h9 = nI (2 * h9) from nI_ml (c := 2)]
  have ep : dE2 s k fr (55 + 6 * k + 1) = s (55 + 6 * k + 1) := dE2_lo (by omega) (by omega)
  have tw : (dWh s k fr + dSo s k fr).toInt = (min N T1 : Nat) + (h9 : Int) := by
    rw [eWh, eSo, tadd (by rw [tnI (by omega), tnI (by omega)]; omega) (by rw [tnI (by omega), tnI (by omega)]; omega), tnI (by omega), tnI (by omega)]
  have b3 : (nI (N - min N T1 - h9)).toInt = ((N - min N T1 - h9 : Nat) : Int) := tnI (by omega)
  have b4 : (nI h9).toInt = (h9 : Int) := tnI (by omega)
  unfold lEat dEat
  rw [E2, lE3_eq hk, lE3_eq hk, lE3_eq hk, ep, show (lEB s fr N).2.2 = N - min N T1 - h9 by rw [eB]; exact B3, show (lEB s fr N).2.1 = (if h9 = 0 then (0 : Int32) else 1) by rw [eB]; exact B2]
  by_cases c : N - min N T1 - h9 = 0
  · rw [if_pos (tle.mpr (by omega)), if_pos (tle.mpr (by omega))]
    by_cases z : h9 = 0
    · rw [if_pos z, if_pos rfl, eSo, if_pos (tle.mpr (by omega))]
    · rw [if_neg z, if_neg (by decide), eSo, if_neg (fun y => by have := tle.mp y; omega)]
  · rw [if_neg (fun y => by have := tle.mp y; omega), if_neg (fun y => by have := tle.mp y; omega)]
theorem lEaS_eq {s : Nat → Int32} {k fr : Nat} (hk : k < 10) (hfr : fr ≤ 15) (ha : iAg s) (hG : iGr s k) (h0 : 0 ≤ (s 3).toInt) (h1 : (s 3).toInt ≤ 20000) : lEaS fr k s = dEaS fr k s := by
  obtain ⟨⟨p1, p2⟩, ⟨f1, f2⟩, ⟨g1, g2⟩⟩ := hG
  have t := there_t (d := s 3) (f := s (55 + 6 * k + 2)) (n := s (55 + 6 * k + 3)) h0 h1 f1 f2 g1 g2
  unfold lEaS dEaS
  rw [lEat_eq hk hfr ha p1 p2, ← t]
  by_cases c : s 3 < s (55 + 6 * k + 2)
  · rw [if_pos c, if_pos c, if_pos rfl]
  · rw [if_neg c, if_neg c]
    by_cases c2 : s (55 + 6 * k + 2) + s (55 + 6 * k + 3) ≤ s 3
    · rw [if_pos c2, if_pos c2, if_pos rfl]
    · rw [if_neg c2, if_neg c2, if_neg (by decide)]
