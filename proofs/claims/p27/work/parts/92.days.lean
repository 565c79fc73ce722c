/-! days of the law's hut; what the law knows of its hut -/
theorem lDg_of {mc bk fr : Nat} {g : zGS} {s : Nat → Int32} {B D : Int} (h : Rl mc bk g s) (v : Iv B D mc bk s) (hD : D ≤ 19000) (e17 : s 17 = nI fr) (hfr : fr ≤ 15) : lDg s mc bk fr := by
  obtain ⟨iM, iG, -, ⟨d0, d1⟩, -⟩ := v
  have c0 := tk0
  refine ⟨h.s0.1, h.s0.2, h.s1.1, h.s1.2, e17, hfr, fun m hm => ?_, fun j hj => ?_⟩
  · obtain ⟨a0, a1, a2, a3, a5, a4, a6, a8, a9⟩ := iM m hm
    refine ⟨⟨(s (19 + 9 * m + 4)).toNatClampNeg, by show (s (19 + 9 * m + 4)).toInt.toNat ≤ 30; omega, zix1 (fun y => by have := tlt.mp y; omega)⟩, fun q z => ?_⟩
    have b := a5 q
    have y := tlt.mp z
    rw [tsub (by omega) (by omega)] at y
    omega
  · obtain ⟨⟨⟨p1, p2⟩, -⟩, -⟩ := iG j hj
    obtain ⟨w1, w2⟩ := lWn_t p1 p2
    exact ⟨_, w2, w1⟩
def lDy (s : Nat → Int32) : Nat → Int32 := lDay s (s 0).toNatClampNeg (s 1).toNatClampNeg (s 17).toNatClampNeg
def lDays (s : Nat → Int32) (n : Nat) : Nat → Int32 := zfold (fun _ => lDy) s n
theorem lDays_s {s : Nat → Int32} {n : Nat} : lDays s (n + 1) = lDy (lDays s n) := rfl
theorem hDays_s9 {g : zGS} {n : Nat} : hDays g (n + 1) = hDay (hDays g n) := rfl
theorem lDy_eq {mc bk fr : Nat} {s : Nat → Int32} (h0 : s 0 = nI mc) (hmc : mc ≤ 4) (h1 : s 1 = nI bk) (hb : bk ≤ 10) (h17 : s 17 = nI fr) (hfr : fr ≤ 15) : lDy s = lDay s mc bk fr := by
  unfold lDy
  rw [h0, h1, h17, nI_clamp (by omega), nI_clamp (by omega), nI_clamp (by omega)]
theorem ldays_all {mc bk fr : Nat} {g : zGS} {s : Nat → Int32} {B D : Int} (h : Rl mc bk g s) (ho : gOk g.1) (v : Iv B D mc bk s) (jn : Jn mc bk s) (e17 : s 17 = nI fr) (hfr : fr ≤ 15) : ∀ n : Nat, D + n ≤ 19000 → ∃ bk', bk' ≤ bk ∧ Rl mc bk' (hDays g n) (lDays s n) ∧ gOk (hDays g n).1 ∧ Iv B (D + n) mc bk' (lDays s n) ∧ Jn mc bk' (lDays s n) ∧ (lDays s n 3).toInt = (s 3).toInt + n ∧ lDays s n 17 = nI fr ∧ ∃ e, e ≤ 180 * n ∧ lDays s n 8 = s 8 + nI e := by
  intro n
  induction n with
  | zero =>
    intro _
    refine ⟨bk, Nat.le_refl _, h, ho, ?_, jn, ?_, e17, 0, Nat.zero_le _, (Int32.add_zero _).symm⟩
    · rw [show D + ((0 : Nat) : Int) = D by omega]
      exact v
    · show (s 3).toInt = _
      omega
  | succ n ih =>
    intro hn
    obtain ⟨b, k1, k2, k3, k4, k5, k6, k7, e, he, e8⟩ := ih (by omega)
    obtain ⟨b', j1, j2, j3, j4, j5, j6, j7, e', he', e8'⟩ := lday_all k2 k3 k4 (by omega) k5 k7 hfr
    have c1 := tk1
    have q3 := k4.2.2.2.1
    have ed : lDays s (n + 1) = lDay (lDays s n) mc b fr := lDays_s.trans (lDy_eq k2.s0.1 k2.s0.2 k2.s1.1 k2.s1.2 k7 hfr)
    rw [ed]
    refine ⟨b', by omega, j2, j3, ?_, j5, ?_, j7, e + e', by omega, ?_⟩
    · rw [show D + ((n + 1 : Nat) : Int) = D + n + 1 by omega]
      exact j4
    · rw [j6, tadd (by omega) (by omega)]
      omega
    · rw [e8', e8, Int32.add_assoc, nI_add]
/-- what the law knows of its hut -/
def Kn (B : Int) (g : zGS) (mc bk fr : Nat) (s : Nat → Int32) : Prop := Rl mc bk g s ∧ gOk g.1 ∧ Iv B 9999 mc bk s ∧ Jn mc bk s ∧ s 17 = nI fr ∧ fr ≤ 15
def LX (w : zW) (cy : Nat → ClassId) (f : zF) (B : Int) (s : Nat → Int32) : Prop := CX w cy f B s ∧ ∃ mc bk, s 0 = nI mc ∧ mc ≤ 4 ∧ s 1 = nI bk ∧ bk ≤ 10 ∧ Jn mc bk s
theorem St_kn {B : Int} {g : zGS} {s : Nat → Int32} {mc bk : Nat} (h : St B g s) (h0 : s 0 = nI mc) (hmc : mc ≤ 4) (h1 : s 1 = nI bk) (hb : bk ≤ 10) (j : Jn mc bk s) : ∃ fr, Kn B g mc bk fr s := by
  obtain ⟨mc', bk', r, o, v⟩ := h
  have e1 : mc' = mc := nI_inj4 (r.s0.1.symm.trans h0) (by have := r.s0.2; omega) (by omega)
  have e2 : bk' = bk := nI_inj4 (r.s1.1.symm.trans h1) (by have := r.s1.2; omega) (by omega)
  subst e1
  subst e2
  obtain ⟨f0, f1⟩ := v.2.2.2.2.2.2.1.2.2.1
  have c0 := tk0
  exact ⟨(s 17).toNatClampNeg, r, o, v, j, zix1 (fun y => by have := tlt.mp y; omega), by show (s 17).toInt.toNat ≤ 15; omega⟩
theorem LX_kn {w : zW} {cy : Nat → ClassId} {f : zF} {B : Int} {s : Nat → Int32} (h : LX w cy f B s) : ∃ g mc bk fr, Kn B g mc bk fr s := by
  obtain ⟨hX, mc, bk, h0, hmc, h1, hb, j⟩ := h
  obtain ⟨g, st⟩ := CX_St hX
  obtain ⟨fr, k⟩ := St_kn st h0 hmc h1 hb j
  exact ⟨g, mc, bk, fr, k⟩
theorem Kn.lx {w : zW} {cy : Nat → ClassId} {f : zF} {B : Int} {s : Nat → Int32} {mc bk : Nat} (hX : CX w cy f B s) (h0 : s 0 = nI mc) (hmc : mc ≤ 4) (h1 : s 1 = nI bk) (hb : bk ≤ 10) (j : Jn mc bk s) : LX w cy f B s := ⟨hX, mc, bk, h0, hmc, h1, hb, j⟩
/-- days told by the law's own -/
def lEnd (s : Nat → Int32) (x : Int32) : Int32 × Bool × (Nat → Int32) := if (zwin x 1 60) = 0 then (-1000001, false, s) else if (s 3 + x) ≤ 9999 then ((lDays s x.toNatClampNeg) 8 - s 8, true, lDays s x.toNatClampNeg) else (-1000003, false, s)
theorem chg_endL {B : Int} {g : zGS} {s : Nat → Int32} {x : Int32} {mc bk fr : Nat} (k : Kn B g mc bk fr s) : Chg B (hEnd g x) (lEnd s x) := by
  obtain ⟨r, o, i, jn, e17, hfr⟩ := k
  have e3 : s 3 = g.2 3 := r.at (by decide)
  have e8 : s 8 = g.2 8 := r.at (by decide)
  have q3 := i.2.2.2.1
  unfold hEnd lEnd
  by_cases c1 : zwin x 1 60 = 0
  · rw [if_pos c1, if_pos c1]
    exact Chg_fail (x := -1000001) (g := g) (by decide)
  · rw [if_neg c1, if_neg c1, ← e3, ← e8]
    by_cases c2 : s 3 + x ≤ 9999
    · rw [if_pos c2, if_pos c2]
      have hx0 := zwin_nn c1 (by decide)
      have hx := zwin_hi c1 (by decide) (show (60 : Int32) = nI 60 from rfl) (by decide)
      have hxe := zix1 hx0
      revert hx hxe
      generalize x.toNatClampNeg = n
      intro hx hxe
      have tn := tnI (n := n) (by omega)
      have w := tle.mp c2
      have c9 := tk9999
      rw [hxe, tadd (by omega) (by omega), tn, c9] at w
      obtain ⟨b, k1, k2, k3, k4, k5, k6, k7, e, he, z8⟩ := ldays_all r o i jn e17 hfr n (by omega)
      have e8n : (hDays g n).2 8 = s 8 + nI e := (k2.at (by decide)).symm.trans z8
      have es : s 8 + nI e - s 8 = nI e := by
        rw [Int32.add_comm, Int32.add_sub_cancel]
      have te := tnI (n := e) (by omega)
      have q3n := k4.2.2.2.1
      refine ⟨?_, fun _ => ⟨?_, mc, b, k2, k3, ?_⟩, (fun q => Bool.noConfusion q)⟩
      · show (hDays g n).2 8 - s 8 = lDays s n 8 - s 8
        rw [e8n, z8]
      · show ¬ (hDays g n).2 8 - s 8 < 0
        rw [e8n, es]
        intro z
        have := tlt.mp z
        have := tk0
        omega
      · show Iv B 9999 mc b (lDays s n)
        obtain ⟨a, b9, c, ⟨d0, d1⟩, u9, i6, j, k⟩ := k4
        exact ⟨a, b9, c, ⟨d0, by omega⟩, u9, i6, j, k⟩
    · rw [if_neg c2, if_neg c2]
      exact Chg_fail (x := -1000003) (g := g) (by decide)
theorem ca_end {l : Launch} {D : va_G} {cy : Nat → ClassId} {w : zW} {f : zF} {B : Int} {s : Nat → Int32} {a : Int32} (hw : w.1 = 136) (hX : LX w cy f B s) (hB : B ≤ 1000000000) : zSp l D cy yX8_end cX8_end 2 (some .int) 4 100 [.ref (w.2 0), .int a] w f (Ans w cy f (B + 60) s (lEnd s a)) := by
  obtain ⟨⟨s0, s1, hs, δ, k, tx, P, hC, hH⟩, mc, bk, h0, hmc, h1, hb, j⟩ := hX
  have st : St B (cp s1 s0) s := cp_St hH.1 hH.2.1
  obtain ⟨fr, kn⟩ := St_kn st h0 hmc h1 hb j
  exact ca_chg hC hH (by omega) (k_end hw hC.1 hC.2.1) (Chg_mono (chg_endL kn) (by omega)) (gk_end st) (qEnd_ok (St_ok st))
/-- where a number stands among the groups -/
theorem dPl_num {s : Nat → Int32} {bk : Nat} {d : Int} (h : jL (gl s bk) d) (hb : bk ≤ 10) {x : Int32} : ∀ n k, k + n = bk → (∀ j, k ≤ j → j < bk → s (55 + 6 * j + 0) = x → dPl s x n k = nI j) ∧ ((∀ j, k ≤ j → j < bk → ¬ s (55 + 6 * j + 0) = x) → dPl s x n k = -1000004)
  | 0, k, e => ⟨fun j h1 h2 _ => by omega, fun _ => rfl⟩
  | n + 1, k, e => by
    obtain ⟨i1, i2⟩ := dPl_num h hb (x := x) n (k + 1) (by omega)
    have eq : dPl s x (n + 1) k = if s (55 + 6 * k + 0) = x then nI k else dPl s x n (k + 1) := rfl
    rw [eq]
    refine ⟨fun j h1 h2 h3 => ?_, fun h3 => ?_⟩
    · by_cases c : s (55 + 6 * k + 0) = x
      · rw [if_pos c]
        by_cases e2 : j = k
        · rw [e2]
        · have z := (jl_num h).2 k j (by omega) h2
          rw [c, h3] at z
          omega
      · rw [if_neg c]
        by_cases e2 : j = k
        · rw [e2] at h3
          exact absurd h3 c
        · exact i1 j (by omega) h2 h3
    · rw [if_neg (h3 k (Nat.le_refl _) (by omega))]
      exact i2 (fun j h1 h2 => h3 j (by omega) h2)
