theorem nI_inj4 {a b : Nat} (h : nI a = nI b) (ha : a < 2147483648) (hb : b < 2147483648) : a = b := by
  have q1 := congrArg Int32.toNatClampNeg h
  rw [nI_clamp ha, nI_clamp hb] at q1
  exact q1
theorem chg_group {B : Int} {g : zGS} {s : Nat → Int32} {p d n : Int32} (h : St B g s) (hB : B ≤ 2000000000) : ∀ bk, s 1 = nI bk → bk ≤ 10 → Chg (B + 1) (qBook g p d n) (dGroup s bk p d n) := by
  obtain ⟨mc, bk', r, o, v⟩ := h
  intro bk h1 h10
  have em : bk' = bk := nI_inj4 (r.s1.1.symm.trans h1) (by have := r.s1.2; omega) (by omega)
  subst em
  have hmc := r.s0.2
  refine Chg_of (mc := mc) (bk := bk' + 1) (sim_group r o.1 o.2) ?_
  unfold dGroup
  by_cases c1 : zwin p 1 12 = 0
  · rw [if_pos c1]
    exact fun q => Bool.noConfusion q
  · rw [if_neg c1]
    by_cases c2 : zwin d 0 60 = 0
    · rw [if_pos c2]
      exact fun q => Bool.noConfusion q
    · rw [if_neg c2]
      by_cases c3 : zwin n 1 9 = 0
      · rw [if_pos c3]
        exact fun q => Bool.noConfusion q
      · rw [if_neg c3]
        by_cases c4 : s 1 = 10
        · rw [if_pos c4]
          exact fun q => Bool.noConfusion q
        · rw [if_neg c4]
          intro _
          have hb9 : bk' < 10 := by
            have z : bk' ≠ 10 := fun z => c4 (by rw [h1, z]; rfl)
            omega
          obtain ⟨a1, a2⟩ := zw_t c1
          obtain ⟨b1, b2⟩ := zw_t c2
          obtain ⟨e1, e2⟩ := zw_t c3
          have t0 := tk0
          have t1 := tk1
          have t9 := tk9
          have t12 := tk12
          have t60 := tk60
          have i3 := v.2.2.2.1
          have i2 := v.2.2.2.2.2.2.2 hB
          have f : ∀ i, i ≠ 1 → i ≠ 2 → (i < 55 + 6 * bk' ∨ 55 + 6 * bk' + 6 ≤ i) → dGr s bk' p d n i = s i := fun i x y z => dGr_out z x y
          have gm : ∀ i, i < 6 → dGr s bk' p d n (55 + 6 * bk' + i) = if i = 0 then s 2 else if i = 1 then p else if i = 2 then s 3 + d else if i = 3 then n else 0 := fun i hi => dGr_in hi
          have e2' : dGr s bk' p d n 2 = s 2 + 1 := dGr_1.2
          have tf : (s 3 + d).toInt = (s 3).toInt + d.toInt := tadd (by omega) (by omega)
          have t2 : (s 2 + 1).toInt = (s 2).toInt + (1 : Int32).toInt := tadd (by omega) (by omega)
          have ea : dGr s bk' p d n 2 - 1 = s 2 := by
            rw [e2']
            exact Int32.add_sub_cancel _ _
          refine ⟨?_, o, ?_⟩
          · show ¬ dGr s bk' p d n 2 - 1 < 0
            rw [ea]
            exact neg_nn i2.1
          · show Iv (B + 1) 9999 mc (bk' + 1) (dGr s bk' p d n)
            obtain ⟨a, b, ⟨c1, c2⟩, d', u, i6, j, k⟩ := v
            unfold Iv
            rw [f 3 (by decide) (by decide) (by omega), f 12 (by decide) (by decide) (by omega), f 6 (by decide) (by decide) (by omega), f 15 (by decide) (by decide) (by omega), f 16 (by decide) (by decide) (by omega), f 17 (by decide) (by decide) (by omega), f 18 (by decide) (by decide) (by omega), f 115 (by decide) (by decide) (by omega), e2']
            refine ⟨fun m hm => iMu_congr (fun i hi => f _ (by omega) (by omega) (by omega)) (f 3 (by decide) (by decide) (by omega)) (a m hm), fun x hx => ?_, ⟨iAg_congr (fun k hk => f _ (by omega) (by omega) (by omega)) c1, c2⟩, d', u, i6, j, fun _ => ⟨by omega, by omega⟩⟩
            by_cases e : x = bk'
            · subst e
              unfold iGr
              rw [gm 1 (by decide), gm 2 (by decide), gm 3 (by decide), if_neg (by decide), if_pos rfl, if_neg (by decide), if_neg (by decide), if_pos rfl, if_neg (by decide), if_neg (by decide), if_neg (by decide), if_pos rfl]
              exact ⟨⟨⟨by omega, by omega⟩, ⟨by omega, by omega⟩, by omega, by omega⟩, by omega⟩
            · rw [f (55 + 6 * x + 2) (by omega) (by omega) (by omega), f (55 + 6 * x + 3) (by omega) (by omega) (by omega)]
              exact ⟨iGr_congr (fun i hi => f _ (by omega) (by omega) (by omega)) (b x (by omega)).1, (b x (by omega)).2⟩
theorem chg_off {B : Int} {g : zGS} {s : Nat → Int32} {x : Int32} (h : St B g s) : ∀ bk, s 1 = nI bk → bk ≤ 10 → Chg B (qOff g x) (dOff s bk x) := by
  obtain ⟨mc, bk', r, o, v⟩ := h
  intro bk h1 h10
  have em : bk' = bk := nI_inj4 (r.s1.1.symm.trans h1) (by have := r.s1.2; omega) (by omega)
  subst em
  have hmc := r.s0.2
  have g1 : g.2 1 = nI bk' := (r.at (by decide)).symm.trans r.s1.1
  have ec : (g.2 1).toNatClampNeg = bk' := by rw [g1, nI_clamp (by omega)]
  refine Chg_of (mc := mc) (bk := bk' - 1) (sim_off r) ?_
  unfold dOff qOff hOff
  rw [ec]
  rcases pl_sim (x := x) r bk' 0 (by omega) with ⟨q1, q2⟩ | ⟨j, -, hj, q1, q2⟩
  · rw [q1, q2, if_neg (show ¬ (0 : Int32) ≤ -1 by decide), if_neg (show ¬ (0 : Int32) ≤ -1000004 by decide)]
    exact fun q => Bool.noConfusion q
  · have p : (0 : Int32) ≤ nI j := nI_pos' (by omega)
    rw [q1, q2, if_pos p, if_pos p, nI_clamp (by omega), g1]
    intro _
    have lo : ∀ i, i < 55 → i ≠ 1 → dGo s j (bk' - 1) i = s i := fun i a b => dGo_lo a b
    have hi : ∀ k, k < 21 → dGo s j (bk' - 1) (115 + k) = s (115 + k) := fun k hk => by
      unfold dGo
      rw [dGoL_at _ _ (by omega), if_neg (by omega)]
    have gr : ∀ y i, y < bk' - 1 → i < 6 → dGo s j (bk' - 1) (55 + 6 * y + i) = if j ≤ y then s (55 + 6 * (y + 1) + i) else s (55 + 6 * y + i) := fun y i hy hi => dGo_at (by omega) hy hi
    refine ⟨?_, gRem_ok (by omega) o, ?_⟩
    · show ¬ dGo s j (bk' - 1) 1 < 0
      rw [dGo_1]
      exact neg_nn (by rw [tnI (by omega)]; omega)
    · show Iv B 9999 mc (bk' - 1) (dGo s j (bk' - 1))
      obtain ⟨a, b, ⟨c1, c2⟩, d', u, i6, jj, k⟩ := v
      have h115 := hi 0 (by decide)
      unfold Iv
      rw [lo 3 (by decide) (by decide), lo 12 (by decide) (by decide), lo 6 (by decide) (by decide), lo 15 (by decide) (by decide), lo 16 (by decide) (by decide), lo 17 (by decide) (by decide), lo 18 (by decide) (by decide), lo 2 (by decide) (by decide)]
      refine ⟨fun m hm => iMu_congr (fun i hi => lo _ (by omega) (by omega)) (lo 3 (by decide) (by decide)) (a m hm), fun y hy => ?_, ⟨iAg_congr hi c1, h115.trans c2⟩, d', u, i6, jj, k⟩
      unfold iGr
      rw [gr y 1 hy (by decide), gr y 2 hy (by decide), gr y 3 hy (by decide)]
      by_cases z : j ≤ y
      · rw [if_pos z, if_pos z, if_pos z]
        exact b (y + 1) (by omega)
      · rw [if_neg z, if_neg z, if_neg z]
        exact b y (by omega)
theorem chg_set {B : Int} {g : zGS} {s : Nat → Int32} {x y : Int32} (h : St B g s) : Chg B (qSet g x y) (dSet s x y) := by
  obtain ⟨mc, bk, r, o, v⟩ := h
  have hmc := r.s0.2
  have hbk := r.s1.2
  refine Chg_of (mc := mc) (bk := bk) (sim_set r) ?_
  unfold dSet
  by_cases c1 : zwin x 0 3 = 0
  · rw [if_pos c1]
    exact fun q => Bool.noConfusion q
  · rw [if_neg c1]
    by_cases c2 : dMay x y = 0
    · rw [if_pos c2]
      exact fun q => Bool.noConfusion q
    · rw [if_neg c2]
      intro _
      have hx := zix1 (zwin_nn c1 (by decide))
      have hx3 := zwin_hi c1 (by decide) (show (3 : Int32) = nI 3 from rfl) (by decide)
      revert hx hx3
      generalize x.toNatClampNeg = j
      intro hx hx3
      subst hx
      have t0 := tk0
      have t1 := tk1
      have t9 := tk9
      have t10 := tk10
      have t15 := tk15
      have t90 := tk90
      have t500 := tk500
      have f : ∀ i, i ≠ 15 + j → upd s (15 + j) y i = s i := fun i h => upd_ne h
      obtain ⟨a, b, ⟨c1', c2'⟩, d', u, i6, ⟨i15, i16, i17, i18⟩, k⟩ := v
      have lo : (∀ m, m < mc → iMu (upd s (15 + j) y) m) ∧ (∀ z, z < bk → iGr (upd s (15 + j) y) z ∧ (upd s (15 + j) y 3).toInt < (upd s (15 + j) y (55 + 6 * z + 2)).toInt + (upd s (15 + j) y (55 + 6 * z + 3)).toInt) ∧ (iAg (upd s (15 + j) y) ∧ upd s (15 + j) y 115 = 0) := by
        refine ⟨fun m hm => iMu_congr (fun i hi => f _ (by omega)) (f 3 (by omega)) (a m hm), fun z hz => ?_, iAg_congr (fun k hk => f _ (by omega)) c1', (f 115 (by omega)).trans c2'⟩
        rw [f 3 (by omega), f (55 + 6 * z + 2) (by omega), f (55 + 6 * z + 3) (by omega)]
        exact ⟨iGr_congr (fun i hi => f _ (by omega)) (b z hz).1, (b z hz).2⟩
      have fin : (0 ≤ (s (15 + j)).toInt) ∧ ((1 ≤ (upd s (15 + j) y 15).toInt ∧ (upd s (15 + j) y 15).toInt ≤ 9) ∧ (10 ≤ (upd s (15 + j) y 16).toInt ∧ (upd s (15 + j) y 16).toInt ≤ 500) ∧ (0 ≤ (upd s (15 + j) y 17).toInt ∧ (upd s (15 + j) y 17).toInt ≤ 15) ∧ 0 ≤ (upd s (15 + j) y 18).toInt ∧ (upd s (15 + j) y 18).toInt ≤ 90) := by
        rcases (show j = 0 ∨ j = 1 ∨ j = 2 ∨ j = 3 by omega) with e | e | e | e
        · subst e
          have w := zw_t (show ¬ zwin y 1 9 = 0 from c2)
          rw [show upd s (15 + 0) y 15 = y from upd_eq, f 16 (by decide), f 17 (by decide), f 18 (by decide)]
          exact ⟨by show 0 ≤ (s 15).toInt; omega, ⟨by omega, by omega⟩, i16, i17, i18⟩
        · subst e
          have w := zw_t (show ¬ zwin y 10 500 = 0 from c2)
          rw [show upd s (15 + 1) y 16 = y from upd_eq, f 15 (by decide), f 17 (by decide), f 18 (by decide)]
          exact ⟨by show 0 ≤ (s 16).toInt; omega, i15, ⟨by omega, by omega⟩, i17, i18⟩
        · subst e
          have w := zw_t (show ¬ zwin y 0 15 = 0 from c2)
          rw [show upd s (15 + 2) y 17 = y from upd_eq, f 15 (by decide), f 16 (by decide), f 18 (by decide)]
          exact ⟨by show 0 ≤ (s 17).toInt; omega, i15, i16, ⟨by omega, by omega⟩, i18⟩
        · subst e
          have w := zw_t (show ¬ zwin y 0 90 = 0 from c2)
          rw [show upd s (15 + 3) y 18 = y from upd_eq, f 15 (by decide), f 16 (by decide), f 17 (by decide)]
          exact ⟨by show 0 ≤ (s 18).toInt; omega, i15, i16, i17, ⟨by omega, by omega⟩⟩
      refine ⟨neg_nn fin.1, o, ?_⟩
      show Iv B 9999 mc bk (upd s (15 + j) y)
      refine ⟨lo.1, lo.2.1, lo.2.2, ?_, ?_, ?_, fin.2, ?_⟩
      · rw [f 3 (by omega)]
        exact d'
      · rw [f 3 (by omega), f 12 (by omega)]
        exact u
      · rw [f 6 (by omega)]
        exact i6
      · rw [f 2 (by omega)]
        exact k

