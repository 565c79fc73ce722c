theorem ea_phase {mc bk : Nat} {g : zGS} {s : Nat → Int32} {fr : Nat} (h : Rl mc bk g s) (ho : gOk g.1) (hfr : fr ≤ 15) (h17 : s 17 = nI fr) (h30 : 0 ≤ (s 3).toInt) (h3 : (s 3).toInt ≤ 20000) (hG : ∀ j, j < bk → iGr s j) (hA : iAg s) : ∀ n, n ≤ bk → Rl mc bk (g.1, zfold (hFdS g.1) g.2 n) (dEa s fr n) ∧ iAg (dEa s fr n) ∧ (∃ e, e ≤ 18 * n ∧ dEa s fr n 8 = s 8 + nI e) ∧ (∃ u, u ≤ n ∧ dEa s fr n 12 = s 12 + nI u) ∧ (∀ i, i < 55 → i ≠ 5 → i ≠ 8 → i ≠ 12 → i ≠ 13 → dEa s fr n i = s i) ∧ ∀ j a, j < 10 → a < 4 → dEa s fr n (55 + 6 * j + a) = s (55 + 6 * j + a)
  | 0, _ => ⟨h, hA, ⟨0, Nat.zero_le _, (Int32.add_zero _).symm⟩, ⟨0, Nat.zero_le _, (Int32.add_zero _).symm⟩, fun i _ _ _ _ _ => rfl, fun j a _ _ => rfl⟩
  | n + 1, hn => by
    have hb := h.s1.2
    obtain ⟨r, a, ⟨e, he, e8⟩, ⟨u, hu, u12⟩, f1, f2⟩ := ea_phase h ho hfr h17 h30 h3 hG hA n (by omega)
    have x1 : dEa s fr (n + 1) = dEaS fr n (dEa s fr n) := rfl
    have x2 : zfold (hFdS g.1) g.2 (n + 1) = if gThere (fun i9 => zfold (hFdS g.1) g.2 n (55 + 6 * g.1 n + i9)) (zfold (hFdS g.1) g.2 n 3) = 0 then zfold (hFdS g.1) g.2 n else hFeed (zfold (hFdS g.1) g.2 n) (g.1 n) := rfl
    have hn10 := ho.1 n (by omega)
    have gn : iGr (dEa s fr n) n := by
      unfold iGr
      rw [f2 n 1 (by omega) (by decide), f2 n 2 (by omega) (by decide), f2 n 3 (by omega) (by decide)]
      exact hG n (by omega)
    have d3 : dEa s fr n 3 = s 3 := f1 3 (by decide) (by decide) (by decide) (by decide) (by decide)
    have q3 : dEa s fr n 3 = zfold (hFdS g.1) g.2 n 3 := r.at (by decide)
    have q17 : dEa s fr n 17 = zfold (hFdS g.1) g.2 n 17 := r.at (by decide)
    have p1 : dEa s fr n (55 + 6 * n + 1) = zfold (hFdS g.1) g.2 n (55 + 6 * g.1 n + 1) := r.gr (by omega) (by decide)
    have p2 : dEa s fr n (55 + 6 * n + 2) = zfold (hFdS g.1) g.2 n (55 + 6 * g.1 n + 2) := r.gr (by omega) (by decide)
    have p3 : dEa s fr n (55 + 6 * n + 3) = zfold (hFdS g.1) g.2 n (55 + 6 * g.1 n + 3) := r.gr (by omega) (by decide)
    have cc := cg_Eat (g := (g.1, zfold (hFdS g.1) g.2 n)) (k := n) r ho (by omega) hfr
    have ag : iAg (zfold (hFdS g.1) g.2 n) := iAg_congr (fun k hk => (r.ag hk).symm) a
    have ff : hFeed (zfold (hFdS g.1) g.2 n) (g.1 n) = dEat (zfold (hFdS g.1) g.2 n) (g.1 n) fr := feed_eq hn10 (by rw [← q17, f1 17 (by decide) (by decide) (by decide) (by decide) (by decide), h17]) hfr ag.1 ag.2 (by rw [← p1]; exact gn.1.1) (by rw [← p1]; exact gn.1.2)
    have gt : gThere (fun i9 => zfold (hFdS g.1) g.2 n (55 + 6 * g.1 n + i9)) (zfold (hFdS g.1) g.2 n 3) = zwin (dEa s fr n 3 - dEa s fr n (55 + 6 * n + 2)) 0 (dEa s fr n (55 + 6 * n + 3) - 1) := by
      rw [← there_t (by rw [d3]; exact h30) (by rw [d3]; exact h3) gn.2.1.1 gn.2.1.2 gn.2.2.1 gn.2.2.2]
      rw [q3, p2, p3]
      rfl
    rw [x1, x2]
    rw [gt, ff]
    unfold dEaS
    by_cases q : zwin (dEa s fr n 3 - dEa s fr n (55 + 6 * n + 2)) 0 (dEa s fr n (55 + 6 * n + 3) - 1) = 0
    · rw [if_pos q, if_pos q]
      exact ⟨r, a, ⟨e, by omega, e8⟩, ⟨u, by omega, u12⟩, f1, f2⟩
    · rw [if_neg q, if_neg q]
      obtain ⟨i1, ⟨e', he', z8⟩, ⟨u', hu', z12⟩, i4⟩ := eat_in (k := n) (fr := fr) (by omega) hfr a gn
      refine ⟨cc, i1, ⟨e + e', by omega, ?_⟩, ⟨u + u', by omega, ?_⟩, fun i h1 h5 h8 h12 h13 => ?_, fun j a hj ha => ?_⟩
      · rw [z8, e8, Int32.add_assoc, nI_add]
      · rw [z12, u12, Int32.add_assoc, nI_add]
      · rw [i4 i (by omega) h5 h8 h12 h13 (by omega) (by omega)]
        exact f1 i h1 h5 h8 h12 h13
      · rw [i4 _ (by omega) (by omega) (by omega) (by omega) (by omega) (by omega) (by omega)]
        exact f2 j a hj ha

