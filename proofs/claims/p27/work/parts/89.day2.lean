/-! one day of the law's hut, and days -/
set_option maxRecDepth 100000 in
set_option maxHeartbeats 4000000 in
theorem lday_all {mc bk fr : Nat} {g : zGS} {s : Nat → Int32} {B D : Int} (h : Rl mc bk g s) (ho : gOk g.1) (v : Iv B D mc bk s) (hD : D ≤ 19000) (jn : Jn mc bk s) (e17 : s 17 = nI fr) (hfr : fr ≤ 15) : ∃ bk', bk' ≤ bk ∧ Rl mc bk' (hDay g) (lDay s mc bk fr) ∧ gOk (hDay g).1 ∧ Iv B (D + 1) mc bk' (lDay s mc bk fr) ∧ Jn mc bk' (lDay s mc bk fr) ∧ lDay s mc bk fr 3 = s 3 + 1 ∧ lDay s mc bk fr 17 = nI fr ∧ ∃ e, e ≤ 180 ∧ lDay s mc bk fr 8 = s 8 + nI e := by
  obtain ⟨bk', k1, k2, k3, k4, k5, ⟨e, he, k6⟩, -⟩ := day_sim h ho v hD
  obtain ⟨iM, iG, ⟨iA, i115⟩, ⟨d0, d1⟩, -, i6, ⟨i15, i16, ⟨f0, f1⟩, i18⟩, i2⟩ := v
  obtain ⟨jx, jl, ⟨jc, jm⟩, ⟨m0, m1⟩⟩ := jn
  have hmc := h.s0.2
  have hbk := h.s1.2
  have c1 := tk1
  have kmc : (s 0).toNatClampNeg = mc := by rw [h.s0.1]; exact nI_clamp (by omega)
  have kbk : (s 1).toNatClampNeg = bk := by rw [h.s1.1]; exact nI_clamp (by omega)
  have kfr : (s 17).toNatClampNeg = fr := by rw [e17]; exact nI_clamp (by omega)
  have hγ : ∀ j, j < bk → g.1 j < 10 := fun j hj => ho.1 j (by omega)
  obtain ⟨r1, es⟩ := snow_sim h
  have n1 : ∀ i, i ≠ 4 → i ≠ 11 → dN1 s i = s i := fun i h4 h11 => (upd_ne h11).trans (upd_ne h4)
  have hm1 : ∀ m, m < mc → iMu (dN1 s) m := fun m hm => iMu_congr (fun i hi => n1 (19 + 9 * m + i) (by omega) (by omega)) (n1 3 (by decide) (by decide)) (iM m hm)
  have ha1 : iAg (dN1 s) := iAg_congr (s := s) (fun k hk => n1 (115 + k) (by omega) (by omega)) iA
  have h31 : (dN1 s 3).toInt ≤ 20000 := by
    rw [n1 3 (by decide) (by decide)]
    omega
  have hx1 : ∀ m, m < mc → jX (dN1 s) m := fun m hm => jX_cg (fun i hi => n1 _ (by omega) (by omega)) (jx m hm)
  obtain ⟨r2, m2, a2, p2⟩ := mu_all r1 hγ hm1 ha1 h31 (z := dSn s)
  obtain ⟨E1, X1, P1⟩ := lmu_all (g := (g.1, hD1 g.2)) r1 hγ hm1 ha1 h31 hx1 (z := dSn s) mc (Nat.le_refl _)
  have E1' : lB1 s mc = dA1 s mc := E1
  have X1' : ∀ m, m < mc → jX (dA1 s mc) m := X1
  have P1' : jP (dA1 s mc) + dOt (dA1 s mc) mc = jP s + dOt s mc := by
    have q : jP (dN1 s) + dOt (dN1 s) mc = jP s + dOt s mc := by
      rw [dOt_cg (s := s) mc (fun k hk => n1 _ (by omega) (by omega))]
      unfold dN1 dN0
      rw [jP_lo (by decide) (by decide) (by decide) (by decide), jP_lo (by decide) (by decide) (by decide) (by decide)]
    exact P1.trans q
  have r2' : Rl mc bk (g.1, zfold (hMulS (dSn s)) (hD1 g.2) mc) (dA1 s mc) := r2
  have a2' : iAg (dA1 s mc) := a2
  have w : ∀ i, i < 115 → (i < 19 ∨ 55 ≤ i) → i ≠ 9 → i ≠ 10 → i ≠ 4 → i ≠ 11 → dA1 s mc i = s i := fun i x1 x2 x3 x4 x5 x6 => (p2 i x1 x2 x3 x4).trans (n1 i x5 x6)
  have w3 : dA1 s mc 3 = s 3 := w 3 (by decide) (.inl (by decide)) (by decide) (by decide) (by decide) (by decide)
  have w17 : dA1 s mc 17 = nI fr := (w 17 (by decide) (.inl (by decide)) (by decide) (by decide) (by decide) (by decide)).trans e17
  have wg : ∀ j a, j < 10 → a < 6 → dA1 s mc (55 + 6 * j + a) = s (55 + 6 * j + a) := fun j a hj ha => w _ (by omega) (.inr (by omega)) (by omega) (by omega) (by omega) (by omega)
  have hG1 : ∀ j, j < bk → iGr (dA1 s mc) j := fun j hj => by
    unfold iGr
    rw [wg j 1 (by omega) (by decide), wg j 2 (by omega) (by decide), wg j 3 (by omega) (by decide)]
    exact (iG j hj).1
  have d0' : 0 ≤ (dA1 s mc 3).toInt := by rw [w3]; exact d0
  have d1' : (dA1 s mc 3).toInt ≤ 20000 := by rw [w3]; omega
  obtain ⟨r3, a3, -, -, p3, q3⟩ := ea_phase (g := (g.1, zfold (hMulS (dSn s)) (hD1 g.2) mc)) (s := dA1 s mc) (fr := fr) r2' ho hfr w17 d0' d1' hG1 a2' bk (Nat.le_refl _)
  obtain ⟨E2, P2, E14, p, hp, E5, E13⟩ := lea_all (g := (g.1, zfold (hMulS (dSn s)) (hD1 g.2) mc)) (s := dA1 s mc) (fr := fr) r2' ho hfr w17 d0' d1' hG1 a2' bk (Nat.le_refl _)
  have E3 : lB3 s mc bk fr = dA3 s mc bk fr := by
    unfold lB3 lB2
    rw [E1', E2]
    rfl
  have x3 : ∀ i, i < 55 → i ≠ 5 → i ≠ 8 → i ≠ 9 → i ≠ 12 → i ≠ 13 → dA3 s mc bk fr i = dA1 s mc i := fun i y0 y1 y2 y3 y4 y5 => (dSft_lo (by omega) y3).trans (p3 i y0 y1 y2 y4 y5)
  have y1 : dA3 s mc bk fr 1 = nI bk := (x3 1 (by decide) (by decide) (by decide) (by decide) (by decide) (by decide)).trans ((w 1 (by decide) (.inl (by decide)) (by decide) (by decide) (by decide) (by decide)).trans h.s1.1)
  have z3 : dA3 s mc bk fr 3 = s 3 := (x3 3 (by decide) (by decide) (by decide) (by decide) (by decide) (by decide)).trans w3
  obtain ⟨b', g1, g2, g3, g4, g5, g6⟩ := gz_lv (mc := mc) hmc hbk y1
  have eL : lDay s mc bk fr = lGz bk 0 bk (upd (dA3 s mc bk fr) 3 ((dA3 s mc bk fr) 3 + 1)) := by
    unfold lDay lB4
    rw [E3]
  have eD : dEndX s = upd (dGz bk bk (dA3 s mc bk fr)) 3 ((dGz bk bk (dA3 s mc bk fr)) 3 + 1) := by
    show dEnds s (s 0).toNatClampNeg (s 1).toNatClampNeg (s 17).toNatClampNeg = _
    rw [kmc, kbk, kfr]
    rfl
  rw [← eL] at g3 g4 g5 g6
  rw [← eD] at g6
  have eb : b' = bk' := by
    have q := k2.s1.1
    rw [eD, upd_ne (by decide), g2] at q
    exact nI_i q (by omega) (by omega)
  subst eb
  have L : ∀ i, i < 55 → i ≠ 1 → i ≠ 3 → lDay s mc bk fr i = dA3 s mc bk fr i := fun i y0 y1 y3 => (g4 i y0 y1).trans (upd_ne y3)
  have t1 : (s 3 + 1).toInt = (s 3).toInt + (1 : Int32).toInt := tadd (by omega) (by omega)
  have v3 : lDay s mc bk fr 3 = s 3 + 1 := by rw [g4 3 (by decide) (by decide), upd_eq, z3]
  have v8 : lDay s mc bk fr 8 = s 8 + nI e := (g6.1 8 (by decide)).trans k6
  have v5 : lDay s mc bk fr 5 = s 5 + nI p := by
    rw [L 5 (by decide) (by decide) (by decide), show dA3 s mc bk fr 5 = dEa (dA1 s mc) fr bk 5 from dSft_lo (by decide) (by decide), E5, w 5 (by decide) (.inl (by decide)) (by decide) (by decide) (by decide) (by decide)]
  have v13 : lDay s mc bk fr 13 = s 13 + nI p := by
    rw [L 13 (by decide) (by decide) (by decide), show dA3 s mc bk fr 13 = dEa (dA1 s mc) fr bk 13 from dSft_lo (by decide) (by decide), E13, w 13 (by decide) (.inl (by decide)) (by decide) (by decide) (by decide) (by decide)]
  have vv : ∀ i, i < 19 → i ≠ 1 → i ≠ 3 → i ≠ 4 → i ≠ 5 → i ≠ 8 → i ≠ 9 → i ≠ 10 → i ≠ 11 → i ≠ 12 → i ≠ 13 → lDay s mc bk fr i = s i := fun i y0 y1 y3 y4 y5 y8 y9 y10 y11 y12 y13 => (L i (by omega) y1 y3).trans ((x3 i (by omega) y5 y8 y9 y12 y13).trans (w i (by omega) (.inl y0) y9 y10 y4 y11))
  have tp := tnI (n := p) (by omega)
  have t5 : (s 5 + nI p).toInt = (s 5).toInt + (nI p).toInt := tadd (by omega) (by omega)
  have vM : ∀ m i, m < 4 → i < 9 → lDay s mc bk fr (19 + 9 * m + i) = dA1 s mc (19 + 9 * m + i) := fun m i hm hi => (L _ (by omega) (by omega) (by omega)).trans (x3 _ (by omega) (by omega) (by omega) (by omega) (by omega) (by omega))
  have jpe : jP (lDay s mc bk fr) = jP (dA1 s mc) := by
    have q1 : jP (lDay s mc bk fr) = jP (dA3 s mc bk fr) := by
      unfold jP
      rw [dLF_congr (t := dA3 s mc bk fr) (fun k hk => g5 _ (by omega)) 0 21 (by decide), L 8 (by decide) (by decide) (by decide), L 9 (by decide) (by decide) (by decide), L 10 (by decide) (by decide) (by decide)]
    have q2 : jP (dA3 s mc bk fr) = jP (dA2 s mc bk fr) := jP_sft
    have q3' : jP (dA2 s mc bk fr) = jP (dA1 s mc) := P2
    rw [q1, q2, q3']
  have ote : dOt (lDay s mc bk fr) mc = dOt (dA1 s mc) mc := dOt_cg mc (fun k hk => vM k 4 (by omega) (by decide))
  have v2 : lDay s mc bk fr 2 = s 2 := vv 2 (by decide) (by decide) (by decide) (by decide) (by decide) (by decide) (by decide) (by decide) (by decide) (by decide) (by decide)
  refine ⟨b', g1, Rl_lv g6 k2, k3, Iv_lv g6 k4, ⟨fun m hm => jX_cg (fun i hi => vM m i (by omega) (by omega)) (X1' m hm), ?_, ⟨?_, ?_⟩, ?_, ?_⟩, v3, ?_, e, he, v8⟩
  · rw [g3, v2]
    refine jL_filter (jL_cg (s := s) (fun j hj => ?_) jl)
    exact (dSft_lo (by omega) (by omega)).trans ((q3 j 0 (by omega) (by decide)).trans (wg j 0 (by omega) (by decide)))
  · rw [jpe, ote, P1', vv 7 (by decide) (by decide) (by decide) (by decide) (by decide) (by decide) (by decide) (by decide) (by decide) (by decide) (by decide)]
    exact jc
  · rw [v5, v13, vv 14 (by decide) (by decide) (by decide) (by decide) (by decide) (by decide) (by decide) (by decide) (by decide) (by decide) (by decide), jm]
    generalize s 13 = a
    generalize s 14 = b
    generalize nI p = c
    grind
  · rw [v5]
    omega
  · rw [v5, v3]
    omega
  · rw [vv 17 (by decide) (by decide) (by decide) (by decide) (by decide) (by decide) (by decide) (by decide) (by decide) (by decide) (by decide), e17]
