/-- what holds of a hut at every call: B for the groups so far, D for the day -/
def Iv (B D : Int) (mc bk : Nat) (s : Nat → Int32) : Prop := (∀ m, m < mc → iMu s m) ∧ (∀ j, j < bk → iGr s j ∧ (s 3).toInt < (s (55 + 6 * j + 2)).toInt + (s (55 + 6 * j + 3)).toInt) ∧ (iAg s ∧ s 115 = 0) ∧ (0 ≤ (s 3).toInt ∧ (s 3).toInt ≤ D) ∧ (0 ≤ (s 12).toInt ∧ (s 12).toInt ≤ 10 * (s 3).toInt) ∧ (0 ≤ (s 6).toInt ∧ (s 6).toInt ≤ 500) ∧ ((1 ≤ (s 15).toInt ∧ (s 15).toInt ≤ 9) ∧ (10 ≤ (s 16).toInt ∧ (s 16).toInt ≤ 500) ∧ (0 ≤ (s 17).toInt ∧ (s 17).toInt ≤ 15) ∧ 0 ≤ (s 18).toInt ∧ (s 18).toInt ≤ 90) ∧ (B ≤ 2000000000 → 0 ≤ (s 2).toInt ∧ (s 2).toInt ≤ B)
theorem iMu_day {s t : Nat → Int32} {m : Nat} (h : ∀ i, i < 9 → t (19 + 9 * m + i) = s (19 + 9 * m + i)) (h3 : (s 3).toInt ≤ (t 3).toInt) (i : iMu s m) : iMu t m := by
  unfold iMu
  rw [h 0 (by decide), h 1 (by decide), h 2 (by decide), h 3 (by decide), h 4 (by decide), h 5 (by decide), h 6 (by decide)]
  obtain ⟨a0, a1, a2, a3, a5, a4, a6, a8, a9⟩ := i
  exact ⟨a0, a1, a2, a3, fun z => by have := a5 z; omega, a4, a6, a8, a9⟩
theorem snow_sim {mc bk : Nat} {g : zGS} {s : Nat → Int32} (h : Rl mc bk g s) : Rl mc bk (g.1, hD1 g.2) (dN1 s) ∧ hSnow g.2 = dSn s := by
  have r0 : Rl mc bk (g.1, hD0 g.2) (dN0 s) := by
    unfold hD0 dN0
    rw [h.at (i := 4) (by decide)]
    exact Rl_upd h (by decide) (by decide) (by decide)
  have e18 : dN0 s 18 = hD0 g.2 18 := r0.at (by decide)
  have e4 : dN0 s 4 = hD0 g.2 4 := r0.at (by decide)
  have e11 : dN0 s 11 = hD0 g.2 11 := r0.at (by decide)
  have es : hSnow g.2 = dSn s := by
    unfold hSnow dSn
    rw [e18, e4]
  refine ⟨?_, es⟩
  unfold hD1 dN1
  rw [es, e11]
  by_cases q : dSn s = 0
  · rw [if_pos q, q, Int32.add_zero, ← e11, upd_self]
    exact r0
  · have q1 : dSn s = 1 := by
      revert q
      unfold dSn
      by_cases z : dN0 s 18 ≤ dN0 s 4 - dN0 s 4 / 100 * 100
      · rw [if_pos z]
        exact fun q => absurd rfl q
      · rw [if_neg z]
        exact fun _ => rfl
    rw [if_neg q, q1]
    exact Rl_upd (g := (g.1, hD0 g.2)) r0 (by decide) (by decide) (by decide)
theorem mu_all {mc bk : Nat} {γ : Nat → Nat} {σ t : Nat → Int32} {z : Int32} (h : Rl mc bk (γ, σ) t) (hγ : ∀ j, j < bk → γ j < 10) (hM : ∀ m, m < mc → iMu t m) (hA : iAg t) (h3 : (t 3).toInt ≤ 20000) : Rl mc bk (γ, zfold (hMulS z) σ mc) (dMu t z mc) ∧ (∀ m, m < mc → iMu (dMu t z mc) m) ∧ iAg (dMu t z mc) ∧ (∀ i, i < 115 → (i < 19 ∨ 55 ≤ i) → i ≠ 9 → i ≠ 10 → dMu t z mc i = t i) := mu_phase (g := (γ, σ)) h hγ hM hA h3 mc (Nat.le_refl mc)
set_option maxRecDepth 100000 in
set_option maxHeartbeats 4000000 in
theorem day_sim {mc bk : Nat} {g : zGS} {s : Nat → Int32} {B D : Int} (h : Rl mc bk g s) (ho : gOk g.1) (i : Iv B D mc bk s) (hD : D ≤ 19000) : ∃ bk', bk' ≤ bk ∧ Rl mc bk' (hDay g) (dEndX s) ∧ gOk (hDay g).1 ∧ Iv B (D + 1) mc bk' (dEndX s) ∧ dEndX s 3 = s 3 + 1 ∧ (∃ e, e ≤ 180 ∧ dEndX s 8 = s 8 + nI e) ∧ ∃ u, u ≤ 10 ∧ dEndX s 12 = s 12 + nI u := by
  obtain ⟨iM, iG, ⟨iA, i115⟩, ⟨d0, d1⟩, ⟨u0, u1⟩, i6, ⟨i15, i16, ⟨f0, f1⟩, i18⟩, i2⟩ := i
  have hmc := h.s0.2
  have hbk := h.s1.2
  have c1 := tk1
  obtain ⟨fr, hfr, e17⟩ := nI_of (x := s 17) (fun z => by have := tlt.mp z; have := tk0; omega)
  have hfr15 : fr ≤ 15 := by
    rw [e17, tnI hfr] at f1
    omega
  have kmc : (s 0).toNatClampNeg = mc := by rw [h.s0.1]; exact nI_clamp (by omega)
  have kbk : (s 1).toNatClampNeg = bk := by rw [h.s1.1]; exact nI_clamp (by omega)
  have kfr : (s 17).toNatClampNeg = fr := by rw [e17]; exact nI_clamp (by omega)
  have gmc : (g.2 0).toNatClampNeg = mc := by rw [← h.at (i := 0) (by decide)]; exact kmc
  have gbk : (g.2 1).toNatClampNeg = bk := by rw [← h.at (i := 1) (by decide)]; exact kbk
  have hγ : ∀ j, j < bk → g.1 j < 10 := fun j hj => ho.1 j (by omega)
  obtain ⟨r1, es⟩ := snow_sim h
  have n1 : ∀ i, i ≠ 4 → i ≠ 11 → dN1 s i = s i := fun i h4 h11 => (upd_ne h11).trans (upd_ne h4)
  have hm1 : ∀ m, m < mc → iMu (dN1 s) m := fun m hm => iMu_congr (fun i hi => n1 (19 + 9 * m + i) (by omega) (by omega)) (n1 3 (by decide) (by decide)) (iM m hm)
  have ha1 : iAg (dN1 s) := iAg_congr (s := s) (fun k hk => n1 (115 + k) (by omega) (by omega)) iA
  have h31 : (dN1 s 3).toInt ≤ 20000 := by
    rw [n1 3 (by decide) (by decide)]
    omega
  obtain ⟨r2, m2, a2, p2⟩ := mu_all r1 hγ hm1 ha1 h31 (z := dSn s)
  have r2' : Rl mc bk (g.1, zfold (hMulS (dSn s)) (hD1 g.2) mc) (dA1 s mc) := r2
  have a2' : iAg (dA1 s mc) := a2
  have w3 : dA1 s mc 3 = s 3 := (p2 3 (by decide) (.inl (by decide)) (by decide) (by decide)).trans (n1 3 (by decide) (by decide))
  have w17 : dA1 s mc 17 = nI fr := ((p2 17 (by decide) (.inl (by decide)) (by decide) (by decide)).trans (n1 17 (by decide) (by decide))).trans e17
  have wg : ∀ j a, j < 10 → a < 6 → dA1 s mc (55 + 6 * j + a) = s (55 + 6 * j + a) := fun j a hj ha => (p2 _ (by omega) (.inr (by omega)) (by omega) (by omega)).trans (n1 _ (by omega) (by omega))
  obtain ⟨r3, a3, ⟨e, he, e8⟩, ⟨u, hu, e12⟩, p3, q3⟩ := ea_phase (g := (g.1, zfold (hMulS (dSn s)) (hD1 g.2) mc)) (s := dA1 s mc) (fr := fr) r2' ho hfr15 w17 (by rw [w3]; exact d0) (by rw [w3]; omega) (fun j hj => by
    unfold iGr
    rw [wg j 1 (by omega) (by decide), wg j 2 (by omega) (by decide), wg j 3 (by omega) (by decide)]
    exact (iG j hj).1) a2' bk (Nat.le_refl _)
  have r3' : Rl mc bk (g.1, zfold (hFdS g.1) (zfold (hMulS (dSn s)) (hD1 g.2) mc) bk) (dA2 s mc bk fr) := r3
  have r4 : Rl mc bk (g.1, upd (setA (zfold (hFdS g.1) (zfold (hMulS (dSn s)) (hD1 g.2) mc) bk) (shGrow (fun k9 => zfold (hFdS g.1) (zfold (hMulS (dSn s)) (hD1 g.2) mc) bk (115 + k9)) 21).1) 9 (zfold (hFdS g.1) (zfold (hMulS (dSn s)) (hD1 g.2) mc) bk 9 + (shGrow (fun k9 => zfold (hFdS g.1) (zfold (hMulS (dSn s)) (hD1 g.2) mc) bk (115 + k9)) 21).2)) (dA3 s mc bk fr) := sft_sim r3' hγ
  have a4 : iAg (dA3 s mc bk fr) ∧ dA3 s mc bk fr 115 = 0 := sft_ag (t := dA2 s mc bk fr) a3
  have x3 : dA3 s mc bk fr 3 = s 3 := ((dSft_lo (by decide) (by decide)).trans (p3 3 (by decide) (by decide) (by decide) (by decide) (by decide))).trans w3
  have s3' := r4.at (i := 3) (by decide)
  have r5 := Rl_upd (k := 3) (x := dA3 s mc bk fr 3 + 1) r4 (by decide) (by decide) (by decide)
  have y : ∀ j a, j < 10 → a < 4 → dA3 s mc bk fr (55 + 6 * j + a) = s (55 + 6 * j + a) := fun j a hj ha => ((dSft_lo (by omega) (by omega)).trans (q3 j a hj ha)).trans (wg j a hj (by omega))
  obtain ⟨b', k1, k2, k3, k4, k5, k6⟩ := gz_phase bk bk g.1 _ (dA3 s mc bk fr) (Nat.le_refl _) r5 ho (by rw [x3]; exact d0) (by rw [x3]; omega) (fun j hj => by
    unfold iGr
    rw [y j 1 (by omega) (by decide), y j 2 (by omega) (by decide), y j 3 (by omega) (by decide)]
    exact (iG j hj).1) (fun j hj => by
    rw [x3, y j 2 (by omega) (by decide), y j 3 (by omega) (by decide)]
    exact (iG j hj).2) (fun j hj hj2 => by omega)
  have t1 : (s 3 + 1).toInt = (s 3).toInt + (1 : Int32).toInt := tadd (by omega) (by omega)
  have E : dEndX s = upd (dGz bk bk (dA3 s mc bk fr)) 3 (dA3 s mc bk fr 3 + 1) := by
    show dEnds s (s 0).toNatClampNeg (s 1).toNatClampNeg (s 17).toNatClampNeg = _
    rw [kmc, kbk, kfr]
    show upd (dGz bk bk (dA3 s mc bk fr)) 3 ((dGz bk bk (dA3 s mc bk fr)) 3 + 1) = _
    rw [k5 3 (by decide) (by decide)]
  have C : hDay g = hGone bk (g.1, hE3 g.1 mc bk g.2) := by
    show hDayB (g.2 0).toNatClampNeg (g.2 1).toNatClampNeg g = _
    rw [gmc, gbk]
    rfl
  have hM' : hMul g.2 mc = zfold (hMulS (dSn s)) (hD1 g.2) mc := by
    show zfold (hMulS (hSnow g.2)) (hD1 g.2) mc = _
    rw [es]
  have C2 : hE3 g.1 mc bk g.2 = upd (hE2 g.1 mc bk g.2) 3 (dA3 s mc bk fr 3 + 1) := by
    have z : dA3 s mc bk fr 3 = hE2 g.1 mc bk g.2 3 := by
      have := s3'
      unfold hE2 hE1 hGr hFd
      rw [hM']
      exact this
    rw [z]
    rfl
  have C3 : hE2 g.1 mc bk g.2 = upd (setA (zfold (hFdS g.1) (zfold (hMulS (dSn s)) (hD1 g.2) mc) bk) (shGrow (fun k9 => zfold (hFdS g.1) (zfold (hMulS (dSn s)) (hD1 g.2) mc) bk (115 + k9)) 21).1) 9 (zfold (hFdS g.1) (zfold (hMulS (dSn s)) (hD1 g.2) mc) bk 9 + (shGrow (fun k9 => zfold (hFdS g.1) (zfold (hMulS (dSn s)) (hD1 g.2) mc) bk (115 + k9)) 21).2) := by
    unfold hE2 hE1 hGr hFd
    rw [hM']
  rw [C, C2, C3, E]
  have F : ∀ i, i < 55 → i ≠ 1 → i ≠ 3 → i ≠ 5 → i ≠ 8 → i ≠ 9 → i ≠ 12 → i ≠ 13 → upd (dGz bk bk (dA3 s mc bk fr)) 3 (dA3 s mc bk fr 3 + 1) i = dA1 s mc i := fun i h0 h1 h3 h5 h8 h9 h12 h13 => (upd_ne h3).trans ((k5 i h0 h1).trans ((dSft_lo (by omega) h9).trans (p3 i h0 h5 h8 h12 h13)))
  have L : ∀ i, i < 19 → i ≠ 1 → i ≠ 3 → i ≠ 4 → i ≠ 5 → i ≠ 8 → i ≠ 9 → i ≠ 10 → i ≠ 11 → i ≠ 12 → i ≠ 13 → upd (dGz bk bk (dA3 s mc bk fr)) 3 (dA3 s mc bk fr 3 + 1) i = s i := fun i h0 h1 h3 h4 h5 h8 h9 h10 h11 h12 h13 => (F i (by omega) h1 h3 h5 h8 h9 h12 h13).trans ((p2 i (by omega) (.inl h0) h9 h10).trans (n1 i h4 h11))
  have v3 : upd (dGz bk bk (dA3 s mc bk fr)) 3 (dA3 s mc bk fr 3 + 1) 3 = s 3 + 1 := by rw [upd_eq, x3]
  have v8 : upd (dGz bk bk (dA3 s mc bk fr)) 3 (dA3 s mc bk fr 3 + 1) 8 = s 8 + nI e := by
    rw [upd_ne (by decide), k5 8 (by decide) (by decide)]
    show dSft (dA2 s mc bk fr) 8 = _
    rw [dSft_lo (by decide) (by decide)]
    show dEa (dA1 s mc) fr bk 8 = _
    rw [e8]
    show dMu (dN1 s) (dSn s) mc 8 + nI e = _
    rw [p2 8 (by decide) (.inl (by decide)) (by decide) (by decide), n1 8 (by decide) (by decide)]
  have v12 : upd (dGz bk bk (dA3 s mc bk fr)) 3 (dA3 s mc bk fr 3 + 1) 12 = s 12 + nI u := by
    rw [upd_ne (by decide), k5 12 (by decide) (by decide)]
    show dSft (dA2 s mc bk fr) 12 = _
    rw [dSft_lo (by decide) (by decide)]
    show dEa (dA1 s mc) fr bk 12 = _
    rw [e12]
    show dMu (dN1 s) (dSn s) mc 12 + nI u = _
    rw [p2 12 (by decide) (.inl (by decide)) (by decide) (by decide), n1 12 (by decide) (by decide)]
  have tu := tnI (n := u) (by omega)
  have t12 : (s 12 + nI u).toInt = (s 12).toInt + (nI u).toInt := tadd (by omega) (by omega)
  refine ⟨b', k1, k2, k3, ⟨fun m hm => ?_, fun j hj => ?_, ⟨?_, ?_⟩, ?_, ?_, ?_, ⟨?_, ?_, ?_, ?_⟩, ?_⟩, v3, ⟨e, by omega, v8⟩, u, by omega, v12⟩
  · refine iMu_day (s := dA1 s mc) (fun i hi => F _ (by omega) (by omega) (by omega) (by omega) (by omega) (by omega) (by omega) (by omega)) ?_ (m2 m hm)
    rw [v3, w3]
    omega
  · obtain ⟨z1, z2⟩ := k4 j hj
    have f : ∀ a, upd (dGz bk bk (dA3 s mc bk fr)) 3 (dA3 s mc bk fr 3 + 1) (55 + 6 * j + a) = dGz bk bk (dA3 s mc bk fr) (55 + 6 * j + a) := fun a => upd_ne (by omega)
    unfold iGr
    rw [f 1, f 2, f 3, v3]
    rw [x3] at z2
    exact ⟨z1, by omega⟩
  · exact iAg_congr (fun k hk => (upd_ne (by omega)).trans (k6 k hk)) a4.1
  · exact ((upd_ne (by decide)).trans (k6 0 (by decide))).trans a4.2
  · rw [v3]
    omega
  · rw [v3, v12]
    omega
  · rw [L 6 (by decide) (by decide) (by decide) (by decide) (by decide) (by decide) (by decide) (by decide) (by decide) (by decide) (by decide)]
    exact i6
  · rw [L 15 (by decide) (by decide) (by decide) (by decide) (by decide) (by decide) (by decide) (by decide) (by decide) (by decide) (by decide)]
    exact i15
  · rw [L 16 (by decide) (by decide) (by decide) (by decide) (by decide) (by decide) (by decide) (by decide) (by decide) (by decide) (by decide)]
    exact i16
  · rw [L 17 (by decide) (by decide) (by decide) (by decide) (by decide) (by decide) (by decide) (by decide) (by decide) (by decide) (by decide)]
    exact ⟨f0, f1⟩
  · rw [L 18 (by decide) (by decide) (by decide) (by decide) (by decide) (by decide) (by decide) (by decide) (by decide) (by decide) (by decide)]
    exact i18
  · rw [L 2 (by decide) (by decide) (by decide) (by decide) (by decide) (by decide) (by decide) (by decide) (by decide) (by decide) (by decide)]
    exact i2

