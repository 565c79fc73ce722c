def gOk (γ : Nat → Nat) : Prop := (∀ k, k < 10 → γ k < 10) ∧ ∀ i j, i < 10 → j < 10 → γ i = γ j → i = j
theorem iMu_congr {s t : Nat → Int32} {m : Nat} (h : ∀ i, i < 9 → t (19 + 9 * m + i) = s (19 + 9 * m + i)) (h3 : t 3 = s 3) (i : iMu s m) : iMu t m := by
  unfold iMu
  rw [h 0 (by decide), h 1 (by decide), h 2 (by decide), h 3 (by decide), h 4 (by decide), h 5 (by decide), h 6 (by decide), h3]
  exact i
theorem muS_fr {s : Nat → Int32} {z : Int32} {k i : Nat} (hk : k < 4) (hi : i < 115) (h : i < 19 + 9 * k ∨ 19 + 9 * k + 9 ≤ i) (h9 : i ≠ 9) (h10 : i ≠ 10) : dMuS z k s i = s i := by
  have h1 := dCo_fr (s := s) hk hi h h9 h10
  unfold dMuS
  by_cases q : s (19 + 9 * k + 2) = 3
  · rw [if_pos q, h1]
  · rw [if_neg q]
    by_cases q1 : s (19 + 9 * k + 2) = 0
    · rw [if_pos q1]
    · rw [if_neg q1]
      by_cases q2 : z = 0
      · rw [if_pos q2, h1]
      · rw [if_neg q2]
theorem muS_in {s : Nat → Int32} {z : Int32} {k : Nat} (hk : k < 4) (h : iMu s k) (ha : iAg s) : iMu (dMuS z k s) k ∧ iAg (dMuS z k s) := by
  have hb := h.2.2.2.2.2.1.1
  unfold dMuS
  by_cases q : s (19 + 9 * k + 2) = 3
  · rw [if_pos q]
    exact ⟨iMu_co hk h (by rw [q]; decide), dCo_ag hk ha hb⟩
  · rw [if_neg q]
    by_cases q1 : s (19 + 9 * k + 2) = 0
    · rw [if_pos q1]
      exact ⟨h, ha⟩
    · rw [if_neg q1]
      by_cases q2 : z = 0
      · rw [if_pos q2]
        exact ⟨iMu_co hk h q1, dCo_ag hk ha hb⟩
      · rw [if_neg q2]
        exact ⟨h, ha⟩
theorem mu_phase {mc bk : Nat} {g : zGS} {s : Nat → Int32} {z : Int32} (h : Rl mc bk g s) (hγ : ∀ j, j < bk → g.1 j < 10) (hM : ∀ m, m < mc → iMu s m) (hA : iAg s) (h3 : (s 3).toInt ≤ 20000) : ∀ n, n ≤ mc → Rl mc bk (g.1, zfold (hMulS z) g.2 n) (dMu s z n) ∧ (∀ m, m < mc → iMu (dMu s z n) m) ∧ iAg (dMu s z n) ∧ (∀ i, i < 115 → (i < 19 ∨ 55 ≤ i) → i ≠ 9 → i ≠ 10 → dMu s z n i = s i)
  | 0, _ => ⟨h, hM, hA, fun i _ _ _ _ => rfl⟩
  | n + 1, hn => by
    have h4 := h.s0.2
    obtain ⟨r, m, a, f⟩ := mu_phase h hγ hM hA h3 n (by omega)
    have e : dMu s z (n + 1) = dMuS z n (dMu s z n) := rfl
    have e2 : zfold (hMulS z) g.2 (n + 1) = hMulS z n (zfold (hMulS z) g.2 n) := rfl
    have hm := m n (by omega)
    have f3 := f 3 (by decide) (.inl (by decide)) (by decide) (by decide)
    have e3 : hMulS z n (zfold (hMulS z) g.2 n) = dMuS z n (zfold (hMulS z) g.2 n) := by
      obtain ⟨a0, a1, a2, a3, a5, a4, a6, a8, a9⟩ := hm
      have r2 : dMu s z n (19 + 9 * n + 2) = zfold (hMulS z) g.2 n (19 + 9 * n + 2) := r.mu (by omega) (by decide)
      have r3 : dMu s z n (19 + 9 * n + 3) = zfold (hMulS z) g.2 n (19 + 9 * n + 3) := r.mu (by omega) (by decide)
      have r5 : dMu s z n (19 + 9 * n + 5) = zfold (hMulS z) g.2 n (19 + 9 * n + 5) := r.mu (by omega) (by decide)
      have rd : dMu s z n 3 = zfold (hMulS z) g.2 n 3 := r.at (by decide)
      refine muS_eq (by omega) (by rw [← r2]; exact a2) (fun q => ?_) (fun q => ?_)
      · rw [← rd, ← r5]
        have b := a5 (by rw [r2]; exact q)
        intro w
        have w2 := tlt.mp w
        have c0 := tk0
        rw [tsub (by omega) (by rw [f3]; omega)] at w2
        omega
      · rw [← r3]
        exact a3 (by rw [r2]; exact q)
    rw [e, e2, e3]
    refine ⟨cg_MuS (g := (g.1, zfold (hMulS z) g.2 n)) r (by omega) hγ, fun m' hm' => ?_, (muS_in (by omega) hm a).2, fun i h1 h2 h9 h10 => ?_⟩
    · by_cases q : m' = n
      · rw [q]
        exact (muS_in (by omega) hm a).1
      · exact iMu_congr (fun i hi => muS_fr (by omega) (by omega) (by omega) (by omega) (by omega)) (muS_fr (by omega) (by decide) (.inl (by omega)) (by decide) (by decide)) (m m' hm')
    · rw [muS_fr (by omega) h1 (by omega) h9 h10]
      exact f i h1 h2 h9 h10

