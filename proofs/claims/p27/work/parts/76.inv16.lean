theorem Chg_of {B : Int} {mc bk : Nat} {q : Int32 × zGS} {d : Int32 × Bool × (Nat → Int32)} (h : Sim mc bk q d) (h2 : d.2.1 = true → ¬ d.1 < 0 ∧ gOk q.2.1 ∧ Iv B 9999 mc bk d.2.2) : Chg B q d := by
  obtain ⟨e, a, b⟩ := h
  refine ⟨e, fun z => ?_, b⟩
  obtain ⟨c1, c2, c3⟩ := h2 z
  exact ⟨by rw [e]; exact c1, mc, bk, a z, c2, c3⟩
theorem Iv_mk {mc bk : Nat} {s t : Nat → Int32} {B D : Int} (v : Iv B D mc bk s) (hM : ∀ m, m < mc → iMu t m) (hG : ∀ j i, j < bk → i < 4 → t (55 + 6 * j + i) = s (55 + 6 * j + i)) (hA : ∀ k, k < 21 → t (115 + k) = s (115 + k)) (h3 : t 3 = s 3) (h12 : t 12 = s 12) (h6 : 0 ≤ (t 6).toInt ∧ (t 6).toInt ≤ 500) (hS : ∀ i, 15 ≤ i → i < 19 → t i = s i) (h2 : t 2 = s 2) : Iv B D mc bk t := by
  obtain ⟨a, b, ⟨c1, c2⟩, d, u, i6, j, k⟩ := v
  have h115 := hA 0 (by decide)
  unfold Iv
  rw [h3, h12, hS 15 (by decide) (by decide), hS 16 (by decide) (by decide), hS 17 (by decide) (by decide), hS 18 (by decide) (by decide), h2]
  refine ⟨hM, fun x hx => ?_, ⟨iAg_congr hA c1, h115.trans c2⟩, d, u, h6, j, k⟩
  rw [hG x 2 hx (by decide), hG x 3 hx (by decide)]
  exact ⟨iGr_congr (fun i hi => hG x i hx hi) (b x hx).1, (b x hx).2⟩
theorem neg_nn {x : Int32} (h : 0 ≤ x.toInt) : ¬ x < 0 := fun z => by
  have := tlt.mp z
  have := tk0
  omega
theorem chg_pay {B : Int} {g : zGS} {s : Nat → Int32} {m : Int32} (h : St B g s) : Chg B (qPay g m) (dPay s m) := by
  obtain ⟨mc, bk, r, o, v⟩ := h
  refine Chg_of (mc := mc) (bk := bk) (sim_pay r) ?_
  unfold dPay
  by_cases c1 : zwin m 1 500 = 0
  · rw [if_pos c1]
    exact fun q => Bool.noConfusion q
  · rw [if_neg c1]
    by_cases c2 : s 5 < m
    · rw [if_pos c2]
      exact fun q => Bool.noConfusion q
    · rw [if_neg c2]
      by_cases c3 : m ≤ s 6
      · rw [if_pos c3]
        intro _
        have w := tle.mp c3
        have m1 := (zwin_lo c1).1
        have m1' : ¬ m.toInt < (1 : Int32).toInt := fun z => m1 (tlt.mpr z)
        have c9 := tk1
        have i6 := v.2.2.2.2.2.1
        have f : ∀ i, i ≠ 5 → i ≠ 6 → i ≠ 14 → dPy s m i = s i := fun i a b c => (upd_ne c).trans ((upd_ne b).trans (upd_ne a))
        have e6 : dPy s m 6 = s 6 - m := by
          unfold dPy
          exact (upd_ne (by decide)).trans (upd_eq.trans (by rw [show (upd s 5 (s 5 - m)) 6 = s 6 from upd_ne (by decide)]))
        have t6 : (s 6 - m).toInt = (s 6).toInt - m.toInt := tsub (by omega) (by omega)
        refine ⟨?_, o, Iv_mk v (fun k hk => iMu_congr (fun i hi => f _ (by omega) (by omega) (by omega)) (f 3 (by decide) (by decide) (by decide)) (v.1 k hk)) (fun j i hj hi => f _ (by omega) (by omega) (by omega)) (fun k hk => f _ (by omega) (by omega) (by omega)) (f 3 (by decide) (by decide) (by decide)) (f 12 (by decide) (by decide) (by decide)) ?_ (fun i h1 h2 => f i (by omega) (by omega) (by omega)) (f 2 (by decide) (by decide) (by decide))⟩
        · show ¬ dPy s m 6 < 0
          rw [e6]
          exact neg_nn (by omega)
        · show 0 ≤ (dPy s m 6).toInt ∧ (dPy s m 6).toInt ≤ 500
          rw [e6]
          omega
      · rw [if_neg c3]
        exact fun q => Bool.noConfusion q
theorem chg_rest {B : Int} {g : zGS} {s : Nat → Int32} {x : Int32} (h : St B g s) : Chg B (qRest g x) (dRest s x) := by
  obtain ⟨mc, bk, r, o, v⟩ := h
  refine Chg_of (mc := mc) (bk := bk) (sim_rest r) ?_
  unfold dRest
  by_cases c1 : dIs s x = 0
  · rw [if_pos c1]
    exact fun q => Bool.noConfusion q
  · rw [if_neg c1]
    have hx : ¬ x < 0 := fun z => c1 (dIs_0 (.inl z))
    have hx2 : ¬ s 0 ≤ x := fun z => c1 (dIs_0 (.inr z))
    have hk := r.k hx hx2
    have hmc := r.s0.2
    revert hk
    generalize x.toNatClampNeg = k
    intro hk
    by_cases c2 : s (19 + 9 * k + 2) = 0
    · rw [if_pos c2]
      intro _
      have vk := v.1 k hk
      have f : ∀ i, i ≠ 19 + 9 * k + 6 → upd s (19 + 9 * k + 6) 0 i = s i := fun i a => upd_ne a
      refine ⟨neg_nn vk.2.2.2.2.2.2.1.1, o, Iv_mk v (fun m hm => ?_) (fun j i hj hi => f _ (by omega)) (fun k hk => f _ (by omega)) (f 3 (by omega)) (f 12 (by omega)) ?_ (fun i h1 h2 => f i (by omega)) (f 2 (by omega))⟩
      · by_cases e : m = k
        · subst e
          obtain ⟨a0, a1, a2, a3, a5, a4, a6, a8, a9⟩ := vk
          show iMu (upd s (19 + 9 * m + 6) 0) m
          unfold iMu
          rw [f (19 + 9 * m + 0) (by omega), f (19 + 9 * m + 1) (by omega), f (19 + 9 * m + 2) (by omega), f (19 + 9 * m + 3) (by omega), f (19 + 9 * m + 4) (by omega), f (19 + 9 * m + 5) (by omega), f 3 (by omega), upd_eq]
          exact ⟨a0, a1, a2, a3, a5, a4, by decide, fun _ => by decide, a9⟩
        · exact iMu_congr (fun i hi => f _ (by omega)) (f 3 (by omega)) (v.1 m hm)
      · show 0 ≤ (upd s (19 + 9 * k + 6) 0 6).toInt ∧ (upd s (19 + 9 * k + 6) 0 6).toInt ≤ 500
        rw [f 6 (by omega)]
        exact v.2.2.2.2.2.1
    · rw [if_neg c2]
      exact fun q => Bool.noConfusion q

