/-! a day of the law's hut, beside the class's -/
theorem jL_iff {L : List (Nat → Int32)} {d : Int} : jL L d ↔ (L.map (fun a => (a 0).toInt)).Pairwise (fun x y => x < y) ∧ ∀ x ∈ L.map (fun a => (a 0).toInt), 0 ≤ x ∧ x < d := by
  unfold jL
  rw [List.pairwise_map]
  refine ⟨fun h => ⟨h.1, fun x hx => ?_⟩, fun h => ⟨h.1, fun a ha => h.2 _ (List.mem_map.mpr ⟨a, ha, rfl⟩)⟩⟩
  obtain ⟨a, ha, rfl⟩ := List.mem_map.mp hx
  exact h.2 a ha
theorem jL_cg {s t : Nat → Int32} {b : Nat} {d : Int} (h : ∀ j, j < b → t (55 + 6 * j + 0) = s (55 + 6 * j + 0)) (q : jL (gl s b) d) : jL (gl t b) d := by
  rw [jL_iff] at q ⊢
  have e : (gl t b).map (fun a => (a 0).toInt) = (gl s b).map (fun a => (a 0).toInt) := by
    unfold gl
    rw [List.map_map, List.map_map]
    apply List.map_congr_left
    intro j hj
    have hj := List.mem_range.mp hj
    show (gk t j 0).toInt = (gk s j 0).toInt
    rw [gk_in (by decide), gk_in (by decide), h j hj]
  rw [e]
  exact q
theorem jX_cg {s t : Nat → Int32} {m : Nat} (h : ∀ i, i < 5 → t (19 + 9 * m + i) = s (19 + 9 * m + i)) (q : jX s m) : jX t m := by
  unfold jX
  rw [h 2 (by decide), h 3 (by decide), h 4 (by decide)]
  exact q
theorem jX_co {s : Nat → Int32} {k : Nat} (hk : k < 4) (h : iMu s k) (x : jX s k) (h0 : s (19 + 9 * k + 2) ≠ 0) : jX (dCo s k) k := by
  obtain ⟨a0, a1, a2, a3, a5, a4, a6, a8, a9⟩ := h
  obtain ⟨x1, x2⟩ := x
  have t3 := a3 h0
  have c1 := tk1
  have c0 := tk0
  have b3 := tbd (s (19 + 9 * k + 3))
  have e3 : (dC1 s k (19 + 9 * k + 3)).toInt = (s (19 + 9 * k + 3)).toInt - 1 := by
    unfold dC1
    rw [upd_eq, tsub (by omega) (by omega), c1]
  have e : ∀ i, i ≠ 19 + 9 * k + 3 → dC1 s k i = s i := fun i hi => upd_ne hi
  unfold dCo
  by_cases q : dC1 s k (19 + 9 * k + 3) ≤ 0
  · have q' := tle.mp q
    have z3 : dC1 s k (19 + 9 * k + 3) = 0 := tinj (by omega)
    rw [if_pos q]
    by_cases q1 : s (19 + 9 * k + 2) = 1
    · rw [if_pos q1]
      unfold jX
      rw [show upd (upd (dSt (dC1 s k) k) (19 + 9 * k + 2) 2) (19 + 9 * k + 3) 2 (19 + 9 * k + 2) = 2 from (upd_ne (by omega)).trans upd_eq, show upd (upd (dSt (dC1 s k) k) (19 + 9 * k + 2) 2) (19 + 9 * k + 3) 2 (19 + 9 * k + 4) = 0 from (upd_ne (by omega)).trans ((upd_ne (by omega)).trans (dSt_4 hk))]
      exact ⟨fun z => absurd z (by decide), fun _ => rfl⟩
    · rw [if_neg q1]
      by_cases q2 : s (19 + 9 * k + 2) = 2
      · rw [if_pos q2]
        unfold jX dHo
        rw [e (19 + 9 * k + 6) (by omega), e (19 + 9 * k + 1) (by omega)]
        by_cases q3 : s (19 + 9 * k + 6) < s (19 + 9 * k + 1)
        · rw [if_pos q3]
          refine ⟨fun _ => ?_, fun _ => ?_⟩
          · rw [upd_ne (by omega), upd_eq]
          · rw [upd_ne (by omega), upd_ne (by omega), upd_ne (by omega), e _ (by omega)]
            exact x2 q1
        · rw [if_neg q3]
          refine ⟨fun z => ?_, fun _ => ?_⟩
          · rw [upd_ne (by omega), upd_ne (by omega), upd_eq] at z
            exact absurd z (by decide)
          · rw [upd_ne (by omega), upd_ne (by omega), upd_ne (by omega), e _ (by omega)]
            exact x2 q1
      · rw [if_neg q2]
        unfold jX
        refine ⟨fun _ => ?_, fun _ => ?_⟩
        · rw [upd_ne (by omega), upd_ne (by omega), z3]
        · rw [upd_ne (by omega), upd_ne (by omega), e _ (by omega)]
          exact x2 q1
  · rw [if_neg q]
    unfold jX
    rw [e (19 + 9 * k + 2) (by omega), e (19 + 9 * k + 4) (by omega)]
    exact ⟨fun z => absurd z h0, x2⟩
theorem jX_muS {s : Nat → Int32} {z : Int32} {k : Nat} (hk : k < 4) (h : iMu s k) (x : jX s k) : jX (dMuS z k s) k := by
  unfold dMuS
  by_cases q : s (19 + 9 * k + 2) = 3
  · rw [if_pos q]
    exact jX_co hk h x (by rw [q]; decide)
  · rw [if_neg q]
    by_cases q1 : s (19 + 9 * k + 2) = 0
    · rw [if_pos q1]
      exact x
    · rw [if_neg q1]
      split
      · exact jX_co hk h x q1
      · exact x
/-- the mules' part of a day -/
theorem lmu_all {mc bk : Nat} {g : zGS} {s : Nat → Int32} {z : Int32} (h : Rl mc bk g s) (hγ : ∀ j, j < bk → g.1 j < 10) (hM : ∀ m, m < mc → iMu s m) (hA : iAg s) (h3 : (s 3).toInt ≤ 20000) (hX : ∀ m, m < mc → jX s m) : ∀ n, n ≤ mc → lMu s z n = dMu s z n ∧ (∀ m, m < mc → jX (dMu s z n) m) ∧ jP (dMu s z n) + dOt (dMu s z n) mc = jP s + dOt s mc
  | 0, _ => ⟨rfl, hX, rfl⟩
  | n + 1, hn => by
    have h4 := h.s0.2
    obtain ⟨a, b, c⟩ := lmu_all h hγ hM hA h3 hX (z := z) n (by omega)
    obtain ⟨r, m, ag, f⟩ := mu_phase h hγ hM hA h3 (z := z) n (by omega)
    have e3 : dMu s z n 3 = s 3 := f 3 (by decide) (.inl (by decide)) (by decide) (by decide)
    have e : lMuS z n (dMu s z n) = dMuS z n (dMu s z n) := lMuS_eq (by omega) (m n (by omega)) ag (by rw [e3]; exact h3)
    have ed : dMu s z (n + 1) = dMuS z n (dMu s z n) := rfl
    have hf : ∀ m', m' < mc → m' ≠ n → ∀ i, i < 9 → dMuS z n (dMu s z n) (19 + 9 * m' + i) = dMu s z n (19 + 9 * m' + i) := fun m' hm' hne i hi => muS_fr (by omega) (by omega) (by omega) (by omega) (by omega)
    refine ⟨by rw [lMu_s, a, e, ed], fun m' hm' => ?_, ?_⟩
    · rw [ed]
      by_cases q : m' = n
      · rw [q]
        exact jX_muS (by omega) (m n (by omega)) (b n (by omega))
      · exact jX_cg (fun i hi => hf m' hm' q i (by omega)) (b m' hm')
    · have j := lMuS_j (z := z) (k := n) (by omega) (m n (by omega))
      rw [e] at j
      have o := dOt_up (s := dMu s z n) (t := dMuS z n (dMu s z n)) (k := n) mc (fun j hj hne => hf j hj hne 4 (by decide)) (by omega)
      rw [ed, o, ← c]
      revert j
      generalize jP (dMuS z n (dMu s z n)) = p1
      generalize dMuS z n (dMu s z n) (19 + 9 * n + 4) = p2
      generalize jP (dMu s z n) = p3
      generalize dMu s z n (19 + 9 * n + 4) = p4
      generalize dOt (dMu s z n) mc = p5
      grind
theorem lEat_n {s : Nat → Int32} {k fr N : Nat} (hk : k < 10) (hp1 : 1 ≤ (s (55 + 6 * k + 1)).toInt) (hp2 : (s (55 + 6 * k + 1)).toInt ≤ 12) : ∃ p, p ≤ 36 ∧ lEat s k fr N 5 = s 5 + nI p ∧ lEat s k fr N 13 = s 13 + nI p ∧ lEat s k fr N 14 = s 14 := by
  obtain ⟨p, h1, h2, h3, h4, h5⟩ := lEat_m (fr := fr) (N := N) hk hp1 hp2
  have c0 := tk0
  have e := zix1 (x := p) (fun z => by have := tlt.mp z; omega)
  rw [e] at h3 h4
  exact ⟨_, by show p.toInt.toNat ≤ 36; omega, h3, h4, h5⟩
/-- the groups' part of a day -/
theorem lea_all {mc bk : Nat} {g : zGS} {s : Nat → Int32} {fr : Nat} (h : Rl mc bk g s) (ho : gOk g.1) (hfr : fr ≤ 15) (h17 : s 17 = nI fr) (h30 : 0 ≤ (s 3).toInt) (h3 : (s 3).toInt ≤ 20000) (hG : ∀ j, j < bk → iGr s j) (hA : iAg s) : ∀ n, n ≤ bk → lEf s fr n = dEa s fr n ∧ jP (dEa s fr n) = jP s ∧ dEa s fr n 14 = s 14 ∧ ∃ p, p ≤ 36 * n ∧ dEa s fr n 5 = s 5 + nI p ∧ dEa s fr n 13 = s 13 + nI p := by
  intro n
  induction n with
  | zero =>
    intro _
    have e0 : dEa s fr 0 = s := rfl
    rw [e0]
    have e1 : lEf s fr 0 = s := rfl
    exact ⟨e1, rfl, rfl, 0, Nat.zero_le _, (Int32.add_zero _).symm, (Int32.add_zero _).symm⟩
  | succ n ih =>
    intro hn
    have hb := h.s1.2
    obtain ⟨a, b, c, p, hp, p5, p13⟩ := ih (by omega)
    obtain ⟨r, ag, -, -, f1, f2⟩ := ea_phase h ho hfr h17 h30 h3 hG hA n (by omega)
    have e3 : dEa s fr n 3 = s 3 := f1 3 (by decide) (by decide) (by decide) (by decide) (by decide)
    have gn : iGr (dEa s fr n) n := by
      unfold iGr
      rw [f2 n 1 (by omega) (by decide), f2 n 2 (by omega) (by decide), f2 n 3 (by omega) (by decide)]
      exact hG n (by omega)
    have e : lEaS fr n (dEa s fr n) = dEaS fr n (dEa s fr n) := lEaS_eq (by omega) hfr ag gn (by rw [e3]; exact h30) (by rw [e3]; exact h3)
    have ed : dEa s fr (n + 1) = lEaS fr n (dEa s fr n) := dEa_s.trans e.symm
    refine ⟨by rw [lEf_s, a, ed], ?_⟩
    rw [ed]
    by_cases c1 : dEa s fr n 3 < dEa s fr n (55 + 6 * n + 2)
    · have ee : lEaS fr n (dEa s fr n) = dEa s fr n := if_pos c1
      rw [ee]
      exact ⟨b, c, p, by omega, p5, p13⟩
    · by_cases c2 : dEa s fr n (55 + 6 * n + 2) + dEa s fr n (55 + 6 * n + 3) ≤ dEa s fr n 3
      · have ee : lEaS fr n (dEa s fr n) = dEa s fr n := (if_neg c1).trans (if_pos c2)
        rw [ee]
        exact ⟨b, c, p, by omega, p5, p13⟩
      · have ee : lEaS fr n (dEa s fr n) = lEat (dEa s fr n) n fr (lWn (dEa s fr n) n).toNatClampNeg := (if_neg c1).trans (if_neg c2)
        rw [ee]
        obtain ⟨x, hx, x5, x13, x14⟩ := lEat_n (s := dEa s fr n) (fr := fr) (N := (lWn (dEa s fr n) n).toNatClampNeg) (show n < 10 by omega) gn.1.1 gn.1.2
        refine ⟨(jP_Eat (by omega) hfr).trans b, x14.trans c, p + x, by omega, ?_, ?_⟩
        · rw [x5, p5, Int32.add_assoc, nI_add]
        · rw [x13, p13, Int32.add_assoc, nI_add]
