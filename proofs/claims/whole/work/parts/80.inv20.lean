theorem zmin_swap {a b : Int32} : zmin a b = if a < b then a else b := by
  apply tinj
  rw [tmin]
  by_cases q : a < b
  · have := tlt.mp q
    rw [if_pos q]
    omega
  · have : ¬ a.toInt < b.toInt := fun z => q (tlt.mpr z)
    rw [if_neg q]
    omega
theorem best_sim {mc bk : Nat} {g : zGS} {s : Nat → Int32} (h : Rl mc bk g s) : ∀ n, n ≤ mc → (hBest g.2 n = none ∧ dNe s n = -1000004) ∨ ∃ k, k < n ∧ hBest g.2 n = some k ∧ dNe s n = nI k
  | 0, _ => .inl ⟨rfl, rfl⟩
  | n + 1, hn => by
    have h4 := h.s0.2
    have e1 : hBest g.2 (n + 1) = hBestS g.2 n (hBest g.2 n) := rfl
    have e2 : dNe s (n + 1) = dNeS s n (dNe s n) := rfl
    rw [e1, e2]
    unfold hBestS dNeS
    rw [h.mu (i := 2) (show n < mc by omega) (by decide)]
    by_cases q : g.2 (19 + 9 * n + 2) = 0
    · rw [if_pos q, if_pos q]
      rcases best_sim h n (by omega) with ⟨a, b⟩ | ⟨k, hk, a, b⟩
      · rw [a, b, if_pos (show (-1000004 : Int32) < 0 by decide)]
        exact .inr ⟨n, by omega, rfl, rfl⟩
      · have nn : ¬ nI k < 0 := neg_nn (by rw [tnI (by omega)]; omega)
        rw [a, b, if_neg nn, nI_clamp (by omega)]
        rw [h.mu (i := 0) (show k < mc by omega) (by decide), h.mu (i := 0) (show n < mc by omega) (by decide), h.mu (i := 6) (show n < mc by omega) (by decide), h.mu (i := 6) (show k < mc by omega) (by decide)]
        have ea : mAhead (fun i9 => g.2 (19 + 9 * n + i9)) (fun i9 => g.2 (19 + 9 * k + i9)) = if g.2 (19 + 9 * n + 0) = g.2 (19 + 9 * k + 0) then (if g.2 (19 + 9 * k + 6) ≤ g.2 (19 + 9 * n + 6) then 0 else 1) else if g.2 (19 + 9 * n + 0) ≤ g.2 (19 + 9 * k + 0) then 0 else 1 := rfl
        dsimp only
        rw [ea]
        by_cases z1 : g.2 (19 + 9 * n + 0) = g.2 (19 + 9 * k + 0)
        · rw [if_pos z1, if_neg (show ¬ g.2 (19 + 9 * k + 0) < g.2 (19 + 9 * n + 0) by rw [z1]; exact fun z => by have := tlt.mp z; omega), if_pos z1]
          by_cases z2 : g.2 (19 + 9 * k + 6) ≤ g.2 (19 + 9 * n + 6)
          · rw [if_pos z2, if_pos z2, if_pos rfl]
            exact .inr ⟨k, by omega, rfl, rfl⟩
          · rw [if_neg z2, if_neg z2, if_neg (show ¬ (1 : Int32) = 0 by decide)]
            exact .inr ⟨n, by omega, rfl, rfl⟩
        · rw [if_neg z1]
          have z1' : (g.2 (19 + 9 * n + 0)).toInt ≠ (g.2 (19 + 9 * k + 0)).toInt := fun z => z1 (tinj z)
          by_cases z2 : g.2 (19 + 9 * n + 0) ≤ g.2 (19 + 9 * k + 0)
          · have w := tle.mp z2
            rw [if_pos z2, if_pos rfl, if_neg (show ¬ g.2 (19 + 9 * k + 0) < g.2 (19 + 9 * n + 0) from fun z => by have := tlt.mp z; omega), if_neg z1]
            exact .inr ⟨k, by omega, rfl, rfl⟩
          · have w : ¬ (g.2 (19 + 9 * n + 0)).toInt ≤ (g.2 (19 + 9 * k + 0)).toInt := fun z => z2 (tle.mpr z)
            rw [if_neg z2, if_neg (show ¬ (1 : Int32) = 0 by decide), if_pos (show g.2 (19 + 9 * k + 0) < g.2 (19 + 9 * n + 0) from tlt.mpr (by omega))]
            exact .inr ⟨n, by omega, rfl, rfl⟩
    · rw [if_neg q, if_neg q]
      rcases best_sim h n (by omega) with ⟨a, b⟩ | ⟨k, hk, a, b⟩
      · exact .inl ⟨a, b⟩
      · exact .inr ⟨k, by omega, a, b⟩
theorem sim_next {B : Int} {g : zGS} {s : Nat → Int32} {x : Int32} (h : St B g s) : ∀ mc, s 0 = nI mc → mc ≤ 4 → cNext g x = dNext s mc x := by
  obtain ⟨mc', bk, r, o, v⟩ := h
  intro mc h1 h10
  have em : mc' = mc := nI_inj4 (r.s0.1.symm.trans h1) (by have := r.s0.2; omega) (by omega)
  subst em
  have g0 : g.2 0 = nI mc' := (r.at (by decide)).symm.trans r.s0.1
  have ec : (g.2 0).toNatClampNeg = mc' := by rw [g0, nI_clamp (by omega)]
  have t0 := tk0
  obtain ⟨i15, i16, i17⟩ := v.2.2.2.2.2.2.1
  have i6 := v.2.2.2.2.2.1
  have ecr : hCred g.2 = if s 6 ≤ s 16 then (s 16 - s 6) / s 15 else 0 := by
    unfold hCred
    rw [← r.at (i := 16) (by decide), ← r.at (i := 6) (by decide), ← r.at (i := 15) (by decide)]
    have ts : (s 16 - s 6).toInt = (s 16).toInt - (s 6).toInt := tsub (by omega) (by omega)
    have n15 : ¬ s 15 ≤ 0 := fun z => by have := tle.mp z; omega
    by_cases q : s 16 - s 6 ≤ 0
    · have q' := tle.mp q
      rw [if_pos q]
      by_cases z : s 6 ≤ s 16
      · have z' := tle.mp z
        rw [if_pos z]
        apply tinj
        rw [tdiv (by omega) (by omega), ts, show (s 16).toInt - (s 6).toInt = 0 by omega, t0, Int.zero_ediv]
      · rw [if_neg z]
    · have q' : ¬ (s 16 - s 6).toInt ≤ (0 : Int32).toInt := fun z => q (tle.mpr z)
      rw [if_neg q, if_neg n15, if_pos (tle.mpr (by omega))]
  unfold cNext dNext cBest
  rw [ec, ecr]
  by_cases c1 : zwin x 0 1 = 0
  · rw [if_pos c1, if_pos c1]
  · rw [if_neg c1, if_neg c1]
    rcases best_sim r mc' (Nat.le_refl _) with ⟨a, b⟩ | ⟨k, hk, a, b⟩
    · rw [a, b, if_pos (show (-1000004 : Int32) < 0 by decide), if_pos (show oI none < 0 by decide)]
    · have nn : ¬ nI k < 0 := neg_nn (by rw [tnI (by omega)]; omega)
      have n2 : ¬ nI mc' ≤ nI k := fun z => by
        have := tle.mp z
        rw [tnI (by omega), tnI (by omega)] at this
        omega
      have eo : oI (some k) = nI k := rfl
      rw [a, b, eo, if_neg nn, if_neg nn, g0, if_neg n2, nI_clamp (by omega), zmin_swap, r.mu (i := 0) hk (by decide)]
theorem dCp_at {b a : Nat → Int32} {k : Nat} : ∀ n, dCp b a n k = if k < n then a k else b k
  | 0 => rfl
  | n + 1 => by
    show upd (dCp b a n) n (a n) k = _
    by_cases e : k = n
    · rw [e, upd_eq, if_pos (by omega)]
    · rw [upd_ne e, dCp_at n]
      by_cases q : k < n
      · rw [if_pos q, if_pos (by omega)]
      · rw [if_neg q, if_neg (by omega)]
theorem hung_sim {B : Int} {t : zGS} {s : Nat → Int32} {h : Int32} (H : St B t s) (eh : s 12 = h) : ∀ m n, n + m = 60 → dEN s n 12 = h → cHung t h m n = if dEN s (dHu s h m n) 12 ≤ h then (-1000004) else nI (dHu s h m n)
  | 0, n, _, e => by
    show (-1000004 : Int32) = if dEN s n 12 ≤ h then (-1000004) else nI n
    rw [if_pos (by rw [e]; exact tle.mpr (Int.le_refl _))]
  | m + 1, n, hn, e => by
    have e1 : dHu s h (m + 1) n = dHu s h m (n + 1) := by
      show (if dEN s n 12 = h then dHu s h m (n + 1) else n) = _
      rw [if_pos e]
    have e2 : cHung t h (m + 1) n = if (hDays t (n + 1)).2 12 ≤ h then cHung t h m (n + 1) else nI (n + 1) := rfl
    obtain ⟨mc, bk, r, o, v⟩ := H
    obtain ⟨b, k1, k2, k3, k4, k5, -, u, hu, z12⟩ := days_sim r o v (n + 1) (by omega)
    have ec : dEN s (n + 1) 12 = (hDays t (n + 1)).2 12 := k2.at (by decide)
    have i12 := v.2.2.2.2.1
    have i3 := v.2.2.2.1
    have tu := tnI (n := u) (by omega)
    have t12 : (s 12 + nI u).toInt = (s 12).toInt + (nI u).toInt := tadd (by omega) (by omega)
    rw [e1, e2, ← ec]
    by_cases q : dEN s (n + 1) 12 = h
    · rw [if_pos (show dEN s (n + 1) 12 ≤ h by rw [q]; exact tle.mpr (Int.le_refl _))]
      exact hung_sim ⟨mc, bk, r, o, v⟩ eh m (n + 1) (by omega) q
    · have q2 : ¬ dEN s (n + 1) 12 ≤ h := by
        intro z
        apply q
        have w := tle.mp z
        apply tinj
        rw [z12, ← eh] at w ⊢
        omega
      have e3 : dHu s h m (n + 1) = n + 1 := by
        cases m with
        | zero => rfl
        | succ m =>
          show (if dEN s (n + 1) 12 = h then dHu s h m (n + 1 + 1) else n + 1) = _
          rw [if_neg q]
      rw [if_neg q2, e3, if_neg q2]
theorem sim_hungry {B : Int} {g a : zGS} {s T : Nat → Int32} (H : St B g s) (ha : gOk a.1) : cHung (cp a g) (g.2 12) 60 0 = dHungry s T := by
  have e12 : s 12 = g.2 12 := by
    obtain ⟨mc, bk, r, o, v⟩ := H
    exact r.at (by decide)
  have eT : dCp T s 136 12 = s 12 := dCp_at 136
  unfold dHungry dHuN
  rw [eT, ← e12]
  exact hung_sim (cp_St H ha) rfl 60 0 rfl rfl
theorem sim_would {B : Int} {g a : zGS} {s T : Nat → Int32} {x y : Int32} (H : St B g s) (ha : gOk a.1) : cWould g (cp a g) x y = dWould s T x y := by
  have H2 := cp_St H ha
  obtain ⟨mc, bk, r, o, v⟩ := H
  obtain ⟨mc2, bk2, r2, o2, v2⟩ := H2
  unfold cWould dWould
  by_cases c1 : zwin x 1 60 = 0
  · rw [if_pos c1, if_pos c1]
  · rw [if_neg c1, if_neg c1]
    by_cases c2 : zwin y 0 3 = 0
    · rw [if_pos c2, if_pos c2]
    · rw [if_neg c2, if_neg c2]
      have hx := zwin_hi c1 (by decide) (show (60 : Int32) = nI 60 from rfl) (by decide)
      revert hx
      generalize x.toNatClampNeg = n
      intro hx
      obtain ⟨b, k1, k2, k3, k4, k5⟩ := days_sim r2 o2 v2 n (by omega)
      unfold dWoV
      rw [show dCp T s 136 9 = s 9 from dCp_at 136, show dCp T s 136 10 = s 10 from dCp_at 136, r.at (i := 8) (by decide), r.at (i := 9) (by decide), r.at (i := 10) (by decide), k2.at (i := 8) (by decide), k2.at (i := 5) (by decide), k2.at (i := 9) (by decide), k2.at (i := 10) (by decide), Int32.sub_sub]
      rw [sim_all k2]
