theorem grp_J {B : Int} {g : zGS} {s : Nat → Int32} {p d n : Int32} (h : St B g s) (hB : 2000000000 < B) : ∀ bk, s 1 = nI bk → bk ≤ 10 → (dGroup s bk p d n).2.1 = true → St B (qBook g p d n).2 (dGroup s bk p d n).2.2 := by
  obtain ⟨mc, bk', r, o, v⟩ := h
  intro bk h1 h10 hd
  have em : bk' = bk := nI_inj4 (r.s1.1.symm.trans h1) (by have := r.s1.2; omega) (by omega)
  subst em
  have hmc := r.s0.2
  refine ⟨mc, bk' + 1, (sim_group r o.1 o.2).2.1 hd, o, ?_⟩
  revert hd
  unfold dGroup
  by_cases c1 : zwin p 1 12 = 0
  · rw [if_pos c1]
    exact fun q => Bool.noConfusion q
  · rw [if_neg c1]
    by_cases c2 : zwin d 0 60 = 0
    · rw [if_pos c2]
      exact fun q => Bool.noConfusion q
    · rw [if_neg c2]
      by_cases c3 : zwin n 1 9 = 0
      · rw [if_pos c3]
        exact fun q => Bool.noConfusion q
      · rw [if_neg c3]
        by_cases c4 : s 1 = 10
        · rw [if_pos c4]
          exact fun q => Bool.noConfusion q
        · rw [if_neg c4]
          intro _
          have hb9 : bk' < 10 := by
            have z : bk' ≠ 10 := fun z => c4 (by rw [h1, z]; rfl)
            omega
          obtain ⟨a1, a2⟩ := zw_t c1
          obtain ⟨b1, b2⟩ := zw_t c2
          obtain ⟨e1, e2⟩ := zw_t c3
          have t0 := tk0
          have t1 := tk1
          have t9 := tk9
          have t12 := tk12
          have t60 := tk60
          have i3 := v.2.2.2.1
          have f : ∀ i, i ≠ 1 → i ≠ 2 → (i < 55 + 6 * bk' ∨ 55 + 6 * bk' + 6 ≤ i) → dGr s bk' p d n i = s i := fun i x y z => dGr_out z x y
          have gm : ∀ i, i < 6 → dGr s bk' p d n (55 + 6 * bk' + i) = if i = 0 then s 2 else if i = 1 then p else if i = 2 then s 3 + d else if i = 3 then n else 0 := fun i hi => dGr_in hi
          have e2' : dGr s bk' p d n 2 = s 2 + 1 := dGr_1.2
          have tf : (s 3 + d).toInt = (s 3).toInt + d.toInt := tadd (by omega) (by omega)
          show Iv B 9999 mc (bk' + 1) (dGr s bk' p d n)
          obtain ⟨a, b, ⟨c1, c2⟩, d', u, i6, j, k⟩ := v
          unfold Iv
          rw [f 3 (by decide) (by decide) (by omega), f 12 (by decide) (by decide) (by omega), f 6 (by decide) (by decide) (by omega), f 15 (by decide) (by decide) (by omega), f 16 (by decide) (by decide) (by omega), f 17 (by decide) (by decide) (by omega), f 18 (by decide) (by decide) (by omega), f 115 (by decide) (by decide) (by omega)]
          refine ⟨fun m hm => iMu_congr (fun i hi => f _ (by omega) (by omega) (by omega)) (f 3 (by decide) (by decide) (by omega)) (a m hm), fun x hx => ?_, ⟨iAg_congr (fun k hk => f _ (by omega) (by omega) (by omega)) c1, c2⟩, d', u, i6, j, fun z => absurd z (by omega)⟩
          by_cases e : x = bk'
          · subst e
            unfold iGr
            rw [gm 1 (by decide), gm 2 (by decide), gm 3 (by decide), if_neg (by decide), if_pos rfl, if_neg (by decide), if_neg (by decide), if_pos rfl, if_neg (by decide), if_neg (by decide), if_neg (by decide), if_pos rfl]
            exact ⟨⟨⟨by omega, by omega⟩, ⟨by omega, by omega⟩, by omega, by omega⟩, by omega⟩
          · rw [f (55 + 6 * x + 2) (by omega) (by omega) (by omega), f (55 + 6 * x + 3) (by omega) (by omega) (by omega)]
            exact ⟨iGr_congr (fun i hi => f _ (by omega) (by omega) (by omega)) (b x (by omega)).1, (b x (by omega)).2⟩
/-- what the model's orders keep -/
def Jv (s : Nat → Int32) : Prop := St 3000000000 (fun i => i, s) s
theorem Jv_of {B : Int} {g : zGS} {s : Nat → Int32} (h : St B g s) (hB : B ≤ 3000000000) : Jv s := by
  obtain ⟨mc, bk, r, o, v⟩ := h
  exact ⟨mc, bk, ⟨fun i _ => rfl, fun m _ i _ => rfl, fun j _ i _ => rfl, fun a _ => rfl, r.s0.1, r.s0.2, r.s1.1, r.s1.2⟩, ⟨fun k hk => hk, fun i j _ _ h => h⟩, Iv_mono v hB (Int.le_refl _)⟩
theorem Chg_J {B : Int} {q : Int32 × zGS} {d : Int32 × Bool × (Nat → Int32)} (h : Chg B q d) (hB : B ≤ 3000000000) (hd : d.2.1 = true) : Jv d.2.2 := Jv_of (h.2.1 hd).2 hB
theorem Jv_congr {s t : Nat → Int32} (h : ∀ i, i < 136 → t i = s i) (j : Jv s) : Jv t := by
  exact Jv_of (St_congr h j) (Int.le_refl _)
theorem Jv_1 (s : Nat → Int32) (h : Jv s) : dInvC s := by
  obtain ⟨mc, bk, r, o, v⟩ := h
  refine ⟨mc, bk, r.s0.1, r.s0.2, r.s1.1, r.s1.2, fun x hx _ i hi => ?_⟩
  have hx2 := zwin_hi hx (by decide) (show (60 : Int32) = nI 60 from rfl) (by decide)
  exact St_good ⟨mc, bk, r, o, v⟩ i (by omega)
theorem Jv_2 (s : Nat → Int32) (o : Int32) (nu : Nat → Int32) (h : Jv s) : Jv (dCall s o nu).2.2 := by
  have h' := h
  obtain ⟨mc, bk, r, og, v⟩ := h'
  have e1 : (s 1).toNatClampNeg = bk := by rw [r.s1.1]; exact nI_clamp (by have := r.s1.2; omega)
  unfold dCall
  rw [e1]
  by_cases c1 : o = 103
  · rw [if_pos c1]
    cases hd : (dGroup s bk (nu 0) (nu 1) (nu 2)).2.1 with
    | false => rw [dGroup_f hd]; exact h
    | true => exact Jv_of (grp_J h (by decide) bk r.s1.1 r.s1.2 hd) (Int.le_refl _)
  · rw [if_neg c1]
    by_cases c2 : o = 112
    · rw [if_pos c2]
      cases hd : (dPay s (nu 0)).2.1 with
      | false => rw [dPay_f hd]; exact h
      | true => exact Chg_J (chg_pay h) (Int.le_refl _) hd
    · rw [if_neg c2]
      by_cases c3 : o = 115
      · rw [if_pos c3]
        cases hd : (dSend s (nu 0) (nu 1)).2.1 with
        | false => rw [dSend_f hd]; exact h
        | true => exact Chg_J (chg_send h) (Int.le_refl _) hd
      · rw [if_neg c3]
        by_cases c4 : o = 120
        · rw [if_pos c4]
          cases hd : (dOff s bk (nu 0)).2.1 with
          | false => rw [dOff_f hd]; exact h
          | true => exact Chg_J (chg_off h bk r.s1.1 r.s1.2) (Int.le_refl _) hd
        · rw [if_neg c4]
          cases hd : (dEnd s (nu 0)).2.1 with
          | false => rw [dEnd_f hd]; exact h
          | true => exact Chg_J (chg_end h) (Int.le_refl _) hd
theorem Chg_mono {B B' : Int} {q : Int32 × zGS} {d : Int32 × Bool × (Nat → Int32)} (h : Chg B q d) (hB : B ≤ B') : Chg B' q d := ⟨h.1, fun z => ⟨(h.2.1 z).1, St_mono (h.2.1 z).2 hB⟩, h.2.2⟩
theorem oNumAt_0 {nu : Nat → Int32} : oNumAt nu 0 = nu 0 := rfl
theorem oNumAt_1 {nu : Nat → Int32} : oNumAt nu 1 = nu 1 := rfl
theorem oNumAt_2 {nu : Nat → Int32} : oNumAt nu 2 = nu 2 := rfl
/-- one order of the text: the class as the model -/
theorem perf_chg {B : Int} {g : zGS} {s nu nu2 : Nat → Int32} {o : Int32} {K : Nat} (h : St B g s) (hB : B ≤ 2000000000) (hK : dNo o = nI K) (hnu : ∀ i, i < K → nu i = nu2 i) (hK0 : 0 < K) (hK3 : K ≤ 3) : Chg (B + 1) (oPerf o nu g) (dCall s o nu2) ∧ gOk (oPerf o nu g).2.1 := by
  have h' := h
  obtain ⟨mc, bk, r, og, v⟩ := h'
  have e1 : (s 1).toNatClampNeg = bk := by rw [r.s1.1]; exact nI_clamp (by have := r.s1.2; omega)
  have n0 := hnu 0 hK0
  unfold oPerf dCall
  rw [e1, oNumAt_0, oNumAt_1, oNumAt_2, n0]
  by_cases c1 : o = 103
  · rw [if_pos c1, if_pos c1]
    have k3 : K = 3 := by
      rw [c1] at hK
      exact (nI_inj4 (a := 3) hK (by decide) (by omega)).symm
    rw [hnu 1 (by omega), hnu 2 (by omega)]
    exact ⟨chg_group h hB bk r.s1.1 r.s1.2, og⟩
  · rw [if_neg c1, if_neg c1]
    by_cases c2 : o = 112
    · rw [if_pos c2, if_pos c2]
      exact ⟨Chg_mono (chg_pay h) (by omega), og⟩
    · rw [if_neg c2, if_neg c2]
      by_cases c3 : o = 115
      · rw [if_pos c3, if_pos c3]
        have k3 : K = 2 := by
          rw [c3] at hK
          exact (nI_inj4 (a := 2) hK (by decide) (by omega)).symm
        rw [hnu 1 (by omega)]
        exact ⟨Chg_mono (chg_send h) (by omega), og⟩
      · rw [if_neg c3, if_neg c3]
        by_cases c4 : o = 120
        · rw [if_pos c4, if_pos c4]
          exact ⟨Chg_mono (chg_off h bk r.s1.1 r.s1.2) (by omega), gk_off h⟩
        · rw [if_neg c4, if_neg c4]
          exact ⟨Chg_mono (chg_end h) (by omega), gk_end h⟩
/-! reading -/
theorem sg_at {tx tx2 : Nat → Int32} {n q : Nat} (hn : n ≤ 60) (hq : q ≤ 200) (ht : ∀ i, i < n → tx i = tx2 i) : oSign tx (nI n) (nI q) = if n ≤ q then -1 else tx2 q := by
  have nn : ¬ nI q < 0 := neg_nn (by rw [tnI (by omega)]; omega)
  have l1 : nI n ≤ nI q ↔ n ≤ q := by
    rw [tle, tnI (by omega), tnI (by omega)]
    omega
  unfold oSign
  rw [if_neg nn]
  by_cases z : n ≤ q
  · rw [if_pos (l1.mpr z), if_pos z]
  · rw [if_neg (fun w => z (l1.mp w)), if_neg z]
    have l2 : ¬ (60 : Int32) ≤ nI q := fun w => by
      have := tle.mp w
      rw [tk60, tnI (by omega)] at this
      omega
    rw [if_neg l2, nI_clamp (by omega)]
    exact ht q (by omega)
theorem at_at {tx2 : Nat → Int32} {n q : Nat} {lo hi : Int32} (hn : n ≤ 60) (hq : q ≤ 200) : dAt tx2 n q lo hi = if n ≤ q then 0 else zwin (tx2 q) lo hi := by
  have l1 : nI n ≤ nI q ↔ n ≤ q := by
    rw [tle, tnI (by omega), tnI (by omega)]
    omega
  unfold dAt
  by_cases z : n ≤ q
  · rw [if_pos (l1.mpr z), if_pos z]
  · rw [if_neg (fun w => z (l1.mp w)), if_neg z]
    by_cases w : zwin (tx2 q) lo hi = 0
    · rw [if_pos w, w]
    · rw [if_neg w]
      unfold zwin at w ⊢
      by_cases a : tx2 q < lo
      · rw [if_pos a] at w
        exact absurd rfl w
      · rw [if_neg a] at w ⊢
        by_cases b : hi < tx2 q
        · rw [if_pos b] at w
          exact absurd rfl w
        · rw [if_neg b]
theorem num_sim {tx tx2 : Nat → Int32} {n p : Nat} (hn : n ≤ 60) (hp : p ≤ 60) (ht : ∀ i, i < n → tx i = tx2 i) : ∀ m k a, k + m ≤ 3 → oNum (oSign tx (nI n)) m a (nI (p + k)) k = ((dNb tx2 n p m k a).2, nI (p + (dNb tx2 n p m k a).1), (dNb tx2 n p m k a).1)
  | 0, k, a, _ => rfl
  | m + 1, k, a, hk => by
    have e1 : oNum (oSign tx (nI n)) (m + 1) a (nI (p + k)) k = if zwin (oSign tx (nI n) (nI (p + k))) 48 57 = 0 then (a, nI (p + k), k) else oNum (oSign tx (nI n)) m (a * 10 + (oSign tx (nI n) (nI (p + k)) - 48)) (nI (p + k) + 1) (k + 1) := rfl
    have e2 : dNb tx2 n p (m + 1) k a = if dAt tx2 n (p + k) 48 57 = 0 then (k, a) else dNb tx2 n p m (k + 1) ((10 * a + tx2 (p + k)) - 48) := rfl
    rw [e1, e2, sg_at hn (by omega) ht, at_at hn (by omega)]
    by_cases z : n ≤ p + k
    · rw [if_pos z, if_pos z, if_pos (show zwin (-1) 48 57 = 0 by decide), if_pos rfl]
    · rw [if_neg z, if_neg z]
      by_cases w : zwin (tx2 (p + k)) 48 57 = 0
      · rw [if_pos w, if_pos w]
      · rw [if_neg w, if_neg w]
        have ea : a * 10 + (tx2 (p + k) - 48) = (10 * a + tx2 (p + k)) - 48 := by
          rw [Int32.mul_comm a 10, Int32.sub_eq_add_neg, Int32.sub_eq_add_neg, Int32.add_assoc]
        rw [ea, show nI (p + k) + 1 = nI (p + (k + 1)) from nI_add (p + k) 1]
        exact num_sim hn hp ht m (k + 1) _ (by omega)
theorem rd_sim {tx tx2 : Nat → Int32} {n p : Nat} (hn : n ≤ 60) (hp : p ≤ 60) (ht : ∀ i, i < n → tx i = tx2 i) (q : Nat) (nu : Nat → Int32) : ∃ k, k ≤ 3 ∧ (oRd tx (nI n) (nI p)).2.1 = nI (p + k) ∧ (dNum tx2 n q p nu).2.1 = p + k ∧ (oDig (oRd tx (nI n) (nI p)).2.2 = (dNum tx2 n q p nu).1) ∧ (dNum tx2 n q p nu).2.2 = upd nu q (oRd tx (nI n) (nI p)).1 := by
  have h := num_sim hn hp ht 3 0 0 (by decide)
  have hk : ∀ m k a, k + m ≤ 3 → (dNb tx2 n p m k a).1 ≤ 3 := by
    intro m
    induction m with
    | zero => exact fun k a h => by show k ≤ 3; omega
    | succ m ih =>
      intro k a h
      show (if dAt tx2 n (p + k) 48 57 = 0 then (k, a) else dNb tx2 n p m (k + 1) ((10 * a + tx2 (p + k)) - 48)).1 ≤ 3
      by_cases z : dAt tx2 n (p + k) 48 57 = 0
      · rw [if_pos z]
        show k ≤ 3
        omega
      · rw [if_neg z]
        exact ih (k + 1) _ (by omega)
  have h3 := hk 3 0 0 (by decide)
  have e : oRd tx (nI n) (nI p) = ((dNb tx2 n p 3 0 0).2, nI (p + (dNb tx2 n p 3 0 0).1), (dNb tx2 n p 3 0 0).1) := h
  refine ⟨(dNb tx2 n p 3 0 0).1, h3, by rw [e], rfl, ?_, by rw [e]; rfl⟩
  rw [e]
  show oDig (dNb tx2 n p 3 0 0).1 = dOk p (p + (dNb tx2 n p 3 0 0).1)
  revert h3
  generalize (dNb tx2 n p 3 0 0).1 = k
  intro h3
  unfold oDig dOk
  have t0 := tk0
  by_cases z : nI k ≤ 0
  · have w := tle.mp z
    rw [tnI (by omega)] at w
    rw [if_pos z, if_pos (tle.mpr (by rw [tnI (by omega), tnI (by omega)]; omega))]
  · have w : ¬ (nI k).toInt ≤ (0 : Int32).toInt := fun y => z (tle.mpr y)
    rw [tnI (by omega)] at w
    rw [if_neg z, if_neg (fun y => by
      have y' := tle.mp y
      rw [tnI (by omega), tnI (by omega)] at y'
      omega)]
