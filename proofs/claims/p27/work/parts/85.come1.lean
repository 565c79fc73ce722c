/-! a mule comes on: the law's way is the reference's -/
/-- loaves of one age, one by one -/
theorem lSt_old {t : Nat → Int32} {A : Int32} (hA : ¬ A ≤ 20) : ∀ n, lSt t A n = upd t 9 (t 9 + nI n)
  | 0 => by
    show t = upd t 9 (t 9 + 0)
    rw [Int32.add_zero, upd_id]
  | n + 1 => by
    rw [lSt_s, lSt_old hA n]
    unfold lS1
    rw [if_neg hA, upd_eq, upd_upd, Int32.add_assoc, show nI n + (1 : Int32) = nI (n + 1) from nI_1 n]
theorem lSt_new {t : Nat → Int32} {A : Int32} {a T : Nat} (hA : A ≤ 20) (ha : A.toNatClampNeg = a) (h21 : a < 21) (hN : aNN t) (hT : aT t 0 21 = T) (h80 : T ≤ 80) : ∀ n, n ≤ 30 → lSt t A n = upd (upd t (115 + a) (t (115 + a) + nI (min n (80 - T)))) 10 (t 10 + nI (n - min n (80 - T)))
  | 0, _ => by
    rw [show min 0 (80 - T) = 0 by omega]
    show t = upd (upd t (115 + a) (t (115 + a) + 0)) 10 (t 10 + 0)
    rw [Int32.add_zero, Int32.add_zero, upd_id, upd_id]
  | n + 1, hn => by
    have tn := tnI (n := min n (80 - T)) (by omega)
    have ta := hN a h21
    have tb := tbd (t (115 + a))
    have t1 := aT_le (s := t) (a := a) (n := 1) hN (by omega)
    have t2 : aT t a 1 = 0 + (t (115 + (a + 0))).toInt := rfl
    rw [Nat.add_zero] at t2
    have c80 := tk80
    have xa : (t (115 + a) + nI (min n (80 - T))).toInt = (t (115 + a)).toInt + (min n (80 - T) : Nat) := by
      rw [tadd (by omega) (by omega), tn]
    rw [lSt_s, lSt_new hA ha h21 hN hT h80 n (by omega)]
    have sm : (dLF (upd (upd t (115 + a) (t (115 + a) + nI (min n (80 - T)))) 10 (t 10 + nI (n - min n (80 - T)))) 0 21).toInt = T + (min n (80 - T) : Nat) := by
      have e := aT_upd (s := t) (i := a) (a := 0) (x := t (115 + a) + nI (min n (80 - T))) 21
      rw [if_pos (by omega), xa, hT] at e
      rw [dLF_lo (by decide), dLF_t (fun k hk => ?_) (by omega) 0 21 (by decide)]
      · omega
      · by_cases z : k = a
        · rw [z, upd_eq]
          omega
        · rw [upd_ne (by omega)]
          exact hN k hk
    unfold lS1
    rw [if_pos hA, ha]
    by_cases c : n < 80 - T
    · rw [if_neg (fun z => by have := tle.mp z; omega), upd_co (i := 115 + a) (j := 10) (by omega), show (upd (upd t 10 (t 10 + nI (n - min n (80 - T)))) (115 + a) (t (115 + a) + nI (min n (80 - T)))) (115 + a) = t (115 + a) + nI (min n (80 - T)) from upd_eq, upd_upd, Int32.add_assoc, show nI (min n (80 - T)) + (1 : Int32) = nI (min n (80 - T) + 1) from nI_1 _]
      rw [show min n (80 - T) + 1 = min (n + 1) (80 - T) by omega, show n - min n (80 - T) = n + 1 - min (n + 1) (80 - T) by omega, upd_co (i := 10) (j := 115 + a) (by omega)]
    · rw [if_pos (tle.mpr (by omega)), upd_eq, upd_upd, Int32.add_assoc, show nI (n - min n (80 - T)) + (1 : Int32) = nI (n - min n (80 - T) + 1) from nI_1 _]
      rw [show min (n + 1) (80 - T) = min n (80 - T) by omega, show n - min n (80 - T) + 1 = n + 1 - min n (80 - T) by omega]
theorem upd_3 {s : Nat → Int32} {i : Nat} {x : Int32} (h : s i = x) : upd s i x = s := (upd_id9 h).symm
set_option maxHeartbeats 4000000 in
theorem lCo_eq {s : Nat → Int32} {k N : Nat} (hk : k < 4) (h : iMu s k) (ha : iAg s) (h0 : s (19 + 9 * k + 2) ≠ 0) (hN : s (19 + 9 * k + 4) = nI N) (hN30 : N ≤ 30) (h3 : (s 3).toInt ≤ 20000) : lCo s k N = dCo s k := by
  obtain ⟨a0, a1, a2, a3, a5, a4, a6, a8, a9⟩ := h
  have t3 := a3 h0
  have c1 := tk1
  have c0 := tk0
  have b3 := tbd (s (19 + 9 * k + 3))
  have e3 : (dC1 s k (19 + 9 * k + 3)).toInt = (s (19 + 9 * k + 3)).toInt - 1 := by
    unfold dC1
    rw [upd_eq, tsub (by omega) (by omega), c1]
  have e : ∀ i, i ≠ 19 + 9 * k + 3 → dC1 s k i = s i := fun i hi => upd_ne hi
  unfold lCo dCo
  by_cases q : dC1 s k (19 + 9 * k + 3) ≤ 0
  · have q' := tle.mp q
    have z3 : dC1 s k (19 + 9 * k + 3) = 0 := tinj (by omega)
    rw [if_pos q, if_pos q, e (19 + 9 * k + 2) (by omega)]
    by_cases q1 : s (19 + 9 * k + 2) = 1
    · rw [if_pos q1, if_pos q1]
      have dl : dLF (dC1 s k) 0 21 = dLF s 0 21 := dLF_lo (i := 19 + 9 * k + 3) (by omega) 21
      have b5 := a5 q1
      have tA : (s 3 - s (19 + 9 * k + 5)).toInt = (s 3).toInt - (s (19 + 9 * k + 5)).toInt := tsub (by omega) (by omega)
      unfold lUp
      rw [dSt_n hk, dl]
      unfold dStA
      rw [e 3 (by omega), e (19 + 9 * k + 5) (by omega), e (19 + 9 * k + 4) (by omega), e (19 + 9 * k + 7) (by omega), e 9 (by omega), e 10 (by omega)]
      have eA : lAge s k = s 3 - s (19 + 9 * k + 5) := by
        unfold lAge
        rw [e 3 (by omega), e (19 + 9 * k + 5) (by omega)]
      have eC : lC2 s k = upd (dC1 s k) (19 + 9 * k + 7) (s (19 + 9 * k + 7) + s (19 + 9 * k + 4)) := by
        unfold lC2
        rw [e (19 + 9 * k + 4) (by omega), e (19 + 9 * k + 7) (by omega)]
      rw [eA, eC, hN]
      by_cases q2 : s 3 - s (19 + 9 * k + 5) ≤ 20
      · obtain ⟨aN, a80⟩ := ha
        obtain ⟨T, hT⟩ : ∃ T : Nat, aT s 0 21 = T := ⟨(aT s 0 21).toNat, by have := aT_nn aN 0 21 (by decide); omega⟩
        have hA := clamp20 q2
        obtain ⟨A, hAe⟩ : ∃ A, (s 3 - s (19 + 9 * k + 5)).toNatClampNeg = A := ⟨_, rfl⟩
        rw [hAe] at hA
        have cg : ∀ j, j < 21 → (upd (dC1 s k) (19 + 9 * k + 7) (s (19 + 9 * k + 7) + nI N)) (115 + j) = s (115 + j) := fun j hj => (upd_ne (by omega)).trans (e _ (by omega))
        have st := lSt_new (t := upd (dC1 s k) (19 + 9 * k + 7) (s (19 + 9 * k + 7) + nI N)) q2 hAe hA (fun j hj => by rw [cg j hj]; exact aN j hj) ((aT_congr cg 0 21 (by decide)).trans hT) (by omega) N hN30
        have zm : zmin (nI N) (80 - dLF s 0 21) = nI (min N (80 - T)) := by
          have c80 := tk80
          have d1 := dLF_t aN a80 0 21 (by decide)
          have d2 : (80 - dLF s 0 21).toInt = 80 - T := by rw [tsub (by omega) (by omega)]; omega
          apply tinj
          rw [tmin, d2, tnI (by omega), tnI (by omega)]
          omega
        have zs : nI N - nI (min N (80 - T)) = nI (N - min N (80 - T)) := nI_sub (by omega) (by omega)
        rw [if_pos q2, st, hAe, zm, zs, cg A hA, show (upd (dC1 s k) (19 + 9 * k + 7) (s (19 + 9 * k + 7) + nI N)) 10 = s 10 from (upd_ne (by omega)).trans (e _ (by omega)), e (115 + A) (by omega)]
        rw [upd_co (i := 10) (j := 19 + 9 * k + 4) (by omega), upd_co (i := 115 + A) (j := 19 + 9 * k + 4) (by omega), upd_co (i := 19 + 9 * k + 7) (j := 19 + 9 * k + 4) (by omega)]
      · rw [if_neg q2, lSt_old q2, show (upd (dC1 s k) (19 + 9 * k + 7) (s (19 + 9 * k + 7) + nI N)) 9 = s 9 from (upd_ne (by omega)).trans (e _ (by omega))]
        rw [upd_co (i := 9) (j := 19 + 9 * k + 4) (by omega), upd_co (i := 19 + 9 * k + 7) (j := 19 + 9 * k + 4) (by omega)]
    · rw [if_neg q1, if_neg q1]
      by_cases q2 : s (19 + 9 * k + 2) = 2
      · rw [if_pos q2, if_pos q2, e (19 + 9 * k + 6) (by omega), e (19 + 9 * k + 1) (by omega)]
        unfold dHo
        rw [e (19 + 9 * k + 6) (by omega), e (19 + 9 * k + 1) (by omega)]
        by_cases q3 : s (19 + 9 * k + 6) < s (19 + 9 * k + 1)
        · rw [if_pos q3, if_pos q3]
          unfold lHm
          rw [if_neg (by rw [e (19 + 9 * k + 2) (by omega), q2]; decide), upd_id, Int32.add_zero, upd_id, upd_co (i := 19 + 9 * k + 2) (j := 19 + 9 * k + 3) (by omega), upd_3 z3]
        · rw [if_neg q3, if_neg q3]
          unfold lLm
          rfl
      · rw [if_neg q2, if_neg q2]
        have q3 : s (19 + 9 * k + 2) = 3 := by
          rcases a2 with z | z | z | z
          · exact absurd z h0
          · exact absurd z q1
          · exact absurd z q2
          · exact z
        unfold lHm
        rw [if_pos (by rw [e (19 + 9 * k + 2) (by omega), q3]), upd_co (i := 19 + 9 * k + 6) (j := 19 + 9 * k + 2) (by omega)]
  · rw [if_neg q, if_neg q]
theorem lMuS_eq {s : Nat → Int32} {z : Int32} {k : Nat} (hk : k < 4) (h : iMu s k) (ha : iAg s) (h3 : (s 3).toInt ≤ 20000) : lMuS z k s = dMuS z k s := by
  have c0 := tk0
  have hb := h.2.2.2.2.2.1
  have a2 := h.2.2.1
  have eN : s (19 + 9 * k + 4) = nI (s (19 + 9 * k + 4)).toNatClampNeg := zix1 (fun y => by have := tlt.mp y; omega)
  have eB : (s (19 + 9 * k + 4)).toNatClampNeg ≤ 30 := by
    show (s (19 + 9 * k + 4)).toInt.toNat ≤ 30
    omega
  have co : s (19 + 9 * k + 2) ≠ 0 → lCoN s k = dCo s k := fun h0 => lCo_eq hk h ha h0 eN eB h3
  unfold lMuS dMuS
  by_cases q : s (19 + 9 * k + 2) = 3
  · rw [if_pos q, if_pos q, co (by rw [q]; decide)]
  · rw [if_neg q, if_neg q]
    by_cases q0 : s (19 + 9 * k + 2) = 0
    · rw [if_pos q0, if_pos (by rw [q0]; exact Int32.le_refl _)]
    · have q1 : ¬ s (19 + 9 * k + 2) ≤ 0 := by
        rcases a2 with y | y | y | y
        · exact absurd y q0
        · rw [y]
          decide
        · rw [y]
          decide
        · exact absurd y q
      rw [if_neg q0, if_neg q1, co q0]
