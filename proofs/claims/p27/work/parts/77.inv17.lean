theorem dSe_n {s : Nat → Int32} {k : Nat} {n : Int32} (hk : k < 4) : dSe s k n = upd (upd (upd (upd (upd (upd (upd s (19 + 9 * k + 2) 1) (19 + 9 * k + 3) 2) (19 + 9 * k + 4) n) (19 + 9 * k + 5) (s 3)) (19 + 9 * k + 6) (s (19 + 9 * k + 6) + 1)) 7 (s 7 + n)) 6 (s 6 + n * s 15) := by
  unfold dSe
  dsimp only
  rw [show ∀ a b c, (upd (upd (upd s (19 + 9 * k + 2) a) (19 + 9 * k + 3) b) (19 + 9 * k + 4) c) 3 = s 3 from fun a b c => (upd_ne (by omega)).trans ((upd_ne (by omega)).trans (upd_ne (by omega)))]
  rw [show ∀ a b c d, (upd (upd (upd (upd s (19 + 9 * k + 2) a) (19 + 9 * k + 3) b) (19 + 9 * k + 4) c) (19 + 9 * k + 5) d) (19 + 9 * k + 6) = s (19 + 9 * k + 6) from fun a b c d => (upd_ne (by omega)).trans ((upd_ne (by omega)).trans ((upd_ne (by omega)).trans (upd_ne (by omega))))]
  rw [show ∀ a b c d e, (upd (upd (upd (upd (upd s (19 + 9 * k + 2) a) (19 + 9 * k + 3) b) (19 + 9 * k + 4) c) (19 + 9 * k + 5) d) (19 + 9 * k + 6) e) 7 = s 7 from fun a b c d e => (upd_ne (by omega)).trans ((upd_ne (by omega)).trans ((upd_ne (by omega)).trans ((upd_ne (by omega)).trans (upd_ne (by omega)))))]
  rw [show ∀ a b c d e f, (upd (upd (upd (upd (upd (upd s (19 + 9 * k + 2) a) (19 + 9 * k + 3) b) (19 + 9 * k + 4) c) (19 + 9 * k + 5) d) (19 + 9 * k + 6) e) 7 f) 6 = s 6 from fun a b c d e f => (upd_ne (by omega)).trans ((upd_ne (by omega)).trans ((upd_ne (by omega)).trans ((upd_ne (by omega)).trans ((upd_ne (by omega)).trans (upd_ne (by omega))))))]
  rw [show ∀ a b c d e f, (upd (upd (upd (upd (upd (upd s (19 + 9 * k + 2) a) (19 + 9 * k + 3) b) (19 + 9 * k + 4) c) (19 + 9 * k + 5) d) (19 + 9 * k + 6) e) 7 f) 15 = s 15 from fun a b c d e f => (upd_ne (by omega)).trans ((upd_ne (by omega)).trans ((upd_ne (by omega)).trans ((upd_ne (by omega)).trans ((upd_ne (by omega)).trans (upd_ne (by omega))))))]
theorem bread_price {n p : Int32} (n1 : 1 ≤ n.toInt) (n2 : n.toInt ≤ 30) (p1 : 1 ≤ p.toInt) (p2 : p.toInt ≤ 9) : (n * p).toInt = n.toInt * p.toInt ∧ 0 ≤ n.toInt * p.toInt ∧ n.toInt * p.toInt ≤ 270 := by
  have a : 0 ≤ n.toInt * p.toInt := Int.mul_nonneg (by omega) (by omega)
  have b : n.toInt * p.toInt ≤ 30 * 9 := Int.mul_le_mul n2 p2 (by omega) (by omega)
  exact ⟨tmul (by omega) (by omega), a, by omega⟩
theorem zw_t {x lo hi : Int32} (h : ¬ zwin x lo hi = 0) : lo.toInt ≤ x.toInt ∧ x.toInt ≤ hi.toInt := by
  obtain ⟨a, b⟩ := zwin_lo h
  have a' : ¬ x.toInt < lo.toInt := fun z => a (tlt.mpr z)
  have b' : ¬ hi.toInt < x.toInt := fun z => b (tlt.mpr z)
  omega
theorem chg_send {B : Int} {g : zGS} {s : Nat → Int32} {x n : Int32} (h : St B g s) : Chg B (qSend g x n) (dSend s x n) := by
  obtain ⟨mc, bk, r, o, v⟩ := h
  refine Chg_of (mc := mc) (bk := bk) (sim_send r) ?_
  unfold dSend
  by_cases c1 : dIs s x = 0
  · rw [if_pos c1]
    exact fun q => Bool.noConfusion q
  · rw [if_neg c1]
    by_cases c2 : zwin n 1 30 = 0
    · rw [if_pos c2]
      exact fun q => Bool.noConfusion q
    · rw [if_neg c2]
      have hx : ¬ x < 0 := fun z => c1 (dIs_0 (.inl z))
      have hx2 : ¬ s 0 ≤ x := fun z => c1 (dIs_0 (.inr z))
      have hk := r.k hx hx2
      have hmc := r.s0.2
      revert hk
      generalize x.toNatClampNeg = k
      intro hk
      by_cases c3 : dWhy s k n ≤ 0
      · rw [if_pos c3]
        intro _
        have vk := v.1 k hk
        have i6 := v.2.2.2.2.2.1
        obtain ⟨i15, i16, i17⟩ := v.2.2.2.2.2.2.1
        have i3 := v.2.2.2.1
        obtain ⟨n1, n2⟩ := zw_t c2
        have c9 := tk1
        have c30 := tk30
        obtain ⟨b1, b2, b3⟩ := bread_price (n := n) (p := s 15) (by omega) (by omega) (by omega) (by omega)
        have tt : (s 6 + n * s 15).toInt = (s 6).toInt + n.toInt * (s 15).toInt := by
          rw [tadd (by omega) (by omega), b1]
        have key : s (19 + 9 * k + 2) = 0 ∧ n.toInt ≤ (s (19 + 9 * k + 0)).toInt ∧ (s 6 + n * s 15).toInt ≤ (s 16).toInt := by
          revert c3
          unfold dWhy
          by_cases z1 : s (19 + 9 * k + 2) = 0
          · rw [if_pos z1]
            by_cases z2 : n ≤ s (19 + 9 * k + 0)
            · rw [if_pos z2]
              by_cases z3 : s 6 + n * s 15 ≤ s 16
              · exact fun _ => ⟨z1, tle.mp z2, tle.mp z3⟩
              · rw [if_neg z3]
                exact fun w => absurd w (by decide)
            · rw [if_neg z2]
              exact fun w => absurd w (by decide)
          · rw [if_neg z1]
            exact fun w => absurd w (by decide)
        have f : ∀ i, i ≠ 6 → i ≠ 7 → (i < 19 + 9 * k + 2 ∨ 19 + 9 * k + 6 < i) → dSe s k n i = s i := fun i a b c => by
          rw [dSe_n (by omega), upd_ne a, upd_ne b, upd_ne (by omega), upd_ne (by omega), upd_ne (by omega), upd_ne (by omega), upd_ne (by omega)]
        have e6 : dSe s k n 6 = s 6 + n * s 15 := by
          rw [dSe_n (by omega), upd_eq]
        refine ⟨?_, o, Iv_mk v (fun m hm => ?_) (fun j i hj hi => f _ (by omega) (by omega) (.inr (by omega))) (fun k hk => f _ (by omega) (by omega) (.inr (by omega))) (f 3 (by omega) (by omega) (.inl (by omega))) (f 12 (by omega) (by omega) (.inl (by omega))) ?_ (fun i h1 h2 => f i (by omega) (by omega) (.inl (by omega))) (f 2 (by omega) (by omega) (.inl (by omega)))⟩
        · show ¬ dSe s k n 6 < 0
          rw [e6]
          exact neg_nn (by omega)
        · by_cases e : m = k
          · subst e
            obtain ⟨a0, a1, a2, a3, a5, a4, a6, a8, a9⟩ := vk
            have w8 := a8 key.1
            have w6 : (s (19 + 9 * m + 6) + 1).toInt = (s (19 + 9 * m + 6)).toInt + (1 : Int32).toInt := tadd (by omega) (by omega)
            have g2 : dSe s m n (19 + 9 * m + 2) = 1 := by
              rw [dSe_n (by omega), upd_ne (by omega), upd_ne (by omega), upd_ne (by omega), upd_ne (by omega), upd_ne (by omega), upd_ne (by omega), upd_eq]
            have g3 : dSe s m n (19 + 9 * m + 3) = 2 := by
              rw [dSe_n (by omega), upd_ne (by omega), upd_ne (by omega), upd_ne (by omega), upd_ne (by omega), upd_ne (by omega), upd_eq]
            have g4 : dSe s m n (19 + 9 * m + 4) = n := by
              rw [dSe_n (by omega), upd_ne (by omega), upd_ne (by omega), upd_ne (by omega), upd_ne (by omega), upd_eq]
            have g5 : dSe s m n (19 + 9 * m + 5) = s 3 := by
              rw [dSe_n (by omega), upd_ne (by omega), upd_ne (by omega), upd_ne (by omega), upd_eq]
            have g6 : dSe s m n (19 + 9 * m + 6) = s (19 + 9 * m + 6) + 1 := by
              rw [dSe_n (by omega), upd_ne (by omega), upd_ne (by omega), upd_eq]
            show iMu (dSe s m n) m
            unfold iMu
            rw [f (19 + 9 * m + 0) (by omega) (by omega) (.inl (by omega)), f (19 + 9 * m + 1) (by omega) (by omega) (.inl (by omega)), g2, g3, g4, g5, g6, f 3 (by omega) (by omega) (.inl (by omega))]
            exact ⟨a0, a1, .inr (.inl rfl), fun _ => by decide, fun _ => Int.le_refl _, ⟨by omega, by omega⟩, ⟨by omega, by omega⟩, fun z => absurd z (by decide), i3.1⟩
          · exact iMu_congr (fun i hi => f _ (by omega) (by omega) (by omega)) (f 3 (by omega) (by omega) (.inl (by omega))) (v.1 m hm)
        · show 0 ≤ (dSe s k n 6).toInt ∧ (dSe s k n 6).toInt ≤ 500
          rw [e6]
          have := key.2.2
          omega
      · rw [if_neg c3]
        exact fun q => Bool.noConfusion q
theorem chg_mule {B : Int} {g : zGS} {s : Nat → Int32} {a c : Int32} (h : St B g s) : ∀ mc, s 0 = nI mc → mc ≤ 4 → Chg B (qAdd g a c) (dMule s mc a c) := by
  obtain ⟨mc', bk, r, o, v⟩ := h
  intro mc h0 h4
  have em : mc' = mc := by
    have q := r.s0.1.symm.trans h0
    have q1 := congrArg Int32.toNatClampNeg q
    rw [nI_clamp (by have := r.s0.2; omega), nI_clamp (by omega)] at q1
    exact q1
  subst em
  refine Chg_of (mc := mc' + 1) (bk := bk) (sim_mule r) ?_
  unfold dMule
  by_cases c1 : zwin a 1 30 = 0
  · rw [if_pos c1]
    exact fun q => Bool.noConfusion q
  · rw [if_neg c1]
    by_cases c2 : zwin c 1 9 = 0
    · rw [if_pos c2]
      exact fun q => Bool.noConfusion q
    · rw [if_neg c2]
      by_cases c3 : s 0 = 4
      · rw [if_pos c3]
        exact fun q => Bool.noConfusion q
      · rw [if_neg c3]
        intro _
        have hm3 : mc' < 4 := by
          have z : mc' ≠ 4 := fun z => c3 (by rw [h0, z]; rfl)
          omega
        obtain ⟨a1, a2⟩ := zw_t c1
        obtain ⟨b1, b2⟩ := zw_t c2
        have t1 := tk1
        have t9 := tk9
        have t30 := tk30
        have f : ∀ i, i ≠ 0 → (i < 19 + 9 * mc' ∨ 19 + 9 * mc' + 9 ≤ i) → upd (dMn s mc' a c) 0 ((dMn s mc' a c) 0 + 1) i = s i := fun i x y => (upd_ne x).trans (dMn_out y)
        have gm : ∀ i, i < 9 → upd (dMn s mc' a c) 0 ((dMn s mc' a c) 0 + 1) (19 + 9 * mc' + i) = if i = 0 then a else if i = 1 then c else 0 := fun i hi => (upd_ne (by omega)).trans (dMn_at hi)
        have new : iMu (upd (dMn s mc' a c) 0 ((dMn s mc' a c) 0 + 1)) mc' := by
          unfold iMu
          rw [gm 0 (by decide), gm 1 (by decide), gm 2 (by decide), gm 4 (by decide), gm 5 (by decide), gm 6 (by decide)]
          rw [if_pos rfl, if_neg (by decide), if_pos rfl, if_neg (by decide), if_neg (by decide), if_neg (by decide), if_neg (by decide), if_neg (by decide), if_neg (by decide), if_neg (by decide), if_neg (by decide)]
          exact ⟨⟨by omega, by omega⟩, ⟨by omega, by omega⟩, .inl rfl, fun z => absurd rfl z, fun z => absurd z (by decide), by decide, by decide, fun _ => by decide, by decide⟩
        have old : Iv B 9999 mc' bk (upd (dMn s mc' a c) 0 ((dMn s mc' a c) 0 + 1)) := by
          refine Iv_mk v (fun m hm => iMu_congr (fun i hi => f _ (by omega) (by omega)) (f 3 (by decide) (by omega)) (v.1 m hm)) (fun j i hj hi => f _ (by omega) (by omega)) (fun k hk => f _ (by omega) (by omega)) (f 3 (by decide) (by omega)) (f 12 (by decide) (by omega)) ?_ (fun i h1 h2 => f i (by omega) (by omega)) (f 2 (by decide) (by omega))
          rw [f 6 (by decide) (by omega)]
          exact v.2.2.2.2.2.1
        refine ⟨?_, o, fun m hm => ?_, old.2⟩
        · show ¬ s 0 < 0
          rw [h0]
          exact neg_nn (by rw [tnI (by omega)]; omega)
        · by_cases e : m = mc'
          · rw [e]
            exact new
          · exact old.1 m (by omega)

