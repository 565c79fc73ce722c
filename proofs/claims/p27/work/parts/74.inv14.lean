theorem Iv_good {mc bk : Nat} {g : zGS} {s : Nat → Int32} {B D : Int} (h : Rl mc bk g s) (i : Iv B D mc bk s) (hD : D ≤ 20000) : dGood s := by
  obtain ⟨iM, iG, ⟨iA, i115⟩, ⟨d0, d1⟩, u, i6, ⟨i15, i16, ⟨f0, f1⟩, i18⟩, i2⟩ := i
  obtain ⟨fr, hfr, e17⟩ := nI_of (x := s 17) (fun z => by have := tlt.mp z; have := tk0; omega)
  refine ⟨mc, bk, fr, h.s0.1, h.s0.2, h.s1.1, h.s1.2, e17, ?_, fun m hm h1 q => ?_⟩
  · rw [e17, tnI hfr] at f1
    omega
  · obtain ⟨a0, a1, a2, a3, a5, a4, a6, a8, a9⟩ := iM m hm
    have b := a5 h1
    have w := tlt.mp q
    have c0 := tk0
    rw [tsub (by omega) (by omega)] at w
    omega
theorem hDays_s' {g : zGS} {n : Nat} : hDays g (n + 1) = hDay (hDays g n) := rfl
theorem dEN_s' {s : Nat → Int32} {n : Nat} : dEN s (n + 1) = dEndX (dEN s n) := rfl
theorem days_sim {mc bk : Nat} {g : zGS} {s : Nat → Int32} {B D : Int} (h : Rl mc bk g s) (ho : gOk g.1) (i : Iv B D mc bk s) : ∀ n : Nat, D + n ≤ 19000 → ∃ bk', bk' ≤ bk ∧ Rl mc bk' (hDays g n) (dEN s n) ∧ gOk (hDays g n).1 ∧ Iv B (D + n) mc bk' (dEN s n) ∧ (dEN s n 3).toInt = (s 3).toInt + n ∧ (∃ e, e ≤ 180 * n ∧ dEN s n 8 = s 8 + nI e) ∧ ∃ u, u ≤ 10 * n ∧ dEN s n 12 = s 12 + nI u
  | 0, _ => ⟨bk, Nat.le_refl _, h, ho, by rw [show D + ((0 : Nat) : Int) = D by omega]; exact i, by show (s 3).toInt = _; omega, ⟨0, Nat.zero_le _, (Int32.add_zero _).symm⟩, 0, Nat.zero_le _, (Int32.add_zero _).symm⟩
  | n + 1, hn => by
    obtain ⟨b, k1, k2, k3, k4, k5, ⟨e, he, e8⟩, u, hu, e12⟩ := days_sim h ho i n (by omega)
    obtain ⟨b', j1, j2, j3, j4, j5, ⟨e', he', e8'⟩, u', hu', e12'⟩ := day_sim k2 k3 k4 (by omega)
    have c1 := tk1
    have q3 := k4.2.2.2.1
    refine ⟨b', by omega, j2, j3, ?_, ?_, ⟨e + e', by omega, ?_⟩, u + u', by omega, ?_⟩
    · rw [show D + ((n + 1 : Nat) : Int) = D + n + 1 by omega]
      exact j4
    · rw [dEN_s', j5, tadd (by omega) (by omega)]
      omega
    · rw [dEN_s', e8', e8, Int32.add_assoc, nI_add]
    · rw [dEN_s', e12', e12, Int32.add_assoc, nI_add]
theorem Iv_mono {mc bk : Nat} {s : Nat → Int32} {B B' D D' : Int} (i : Iv B D mc bk s) (hB : B ≤ B') (hD : D ≤ D') : Iv B' D' mc bk s := by
  obtain ⟨a, b, c, ⟨d0, d1⟩, u, i6, j, k0⟩ := i
  exact ⟨a, b, c, ⟨d0, by omega⟩, u, i6, j, fun z => by have := k0 (by omega); omega⟩
/-- the hut of the class and the model's row, as they are at a call -/
def St (B : Int) (g : zGS) (s : Nat → Int32) : Prop := ∃ mc bk, Rl mc bk g s ∧ gOk g.1 ∧ Iv B 9999 mc bk s
def Chg (B : Int) (q : Int32 × zGS) (d : Int32 × Bool × (Nat → Int32)) : Prop := q.1 = d.1 ∧ (d.2.1 = true → ¬ q.1 < 0 ∧ St B q.2 d.2.2) ∧ (d.2.1 = false → q.1 < 0)
theorem Chg_fail {B : Int} {g : zGS} {s : Nat → Int32} {x : Int32} (h : x < 0) : Chg B (x, g) (x, false, s) := ⟨rfl, (fun q => Bool.noConfusion q), fun _ => h⟩
theorem chg_end {B : Int} {g : zGS} {s : Nat → Int32} {x : Int32} (h : St B g s) : Chg B (hEnd g x) (dEnd s x) := by
  obtain ⟨mc, bk, r, o, i⟩ := h
  have e3 : s 3 = g.2 3 := r.at (by decide)
  have e8 : s 8 = g.2 8 := r.at (by decide)
  have q3 := i.2.2.2.1
  unfold hEnd dEnd
  by_cases c1 : zwin x 1 60 = 0
  · rw [if_pos c1, if_pos c1]
    exact Chg_fail (x := -1000001) (g := g) (by decide)
  · rw [if_neg c1, if_neg c1, ← e3, ← e8]
    by_cases c2 : s 3 + x ≤ 9999
    · rw [if_pos c2, if_pos c2]
      have hx0 := zwin_nn c1 (by decide)
      have hx := zwin_hi c1 (by decide) (show (60 : Int32) = nI 60 from rfl) (by decide)
      have hxe := zix1 hx0
      revert hx hxe
      generalize x.toNatClampNeg = n
      intro hx hxe
      have tn := tnI (n := n) (by omega)
      have w := tle.mp c2
      have c9 := tk9999
      rw [hxe, tadd (by omega) (by omega), tn, c9] at w
      obtain ⟨b, k1, k2, k3, k4, k5, ⟨e, he, z8⟩, u, hu, z12⟩ := days_sim r o i n (by omega)
      have e8n : (hDays g n).2 8 = s 8 + nI e := (k2.at (by decide)).symm.trans z8
      have es : s 8 + nI e - s 8 = nI e := by
        rw [Int32.add_comm, Int32.add_sub_cancel]
      have te := tnI (n := e) (by omega)
      have q3n := k4.2.2.2.1
      refine ⟨?_, fun _ => ⟨?_, mc, b, k2, k3, ?_⟩, (fun q => Bool.noConfusion q)⟩
      · show (hDays g n).2 8 - s 8 = dEN s n 8 - s 8
        rw [e8n, z8]
      · show ¬ (hDays g n).2 8 - s 8 < 0
        rw [e8n, es]
        intro z
        have := tlt.mp z
        have := tk0
        omega
      · show Iv B 9999 mc b (dEN s n)
        obtain ⟨a, b9, c, ⟨d0, d1⟩, u9, i6, j, k⟩ := k4
        exact ⟨a, b9, c, ⟨d0, by omega⟩, u9, i6, j, k⟩
    · rw [if_neg c2, if_neg c2]
      exact Chg_fail (x := -1000003) (g := g) (by decide)
/-- what days need that are gone ahead of: the model's -/
theorem St_good {B : Int} {g : zGS} {s : Nat → Int32} (h : St B g s) (n : Nat) (hn : n ≤ 60) : dGood (dEN s n) := by
  obtain ⟨mc, bk, r, o, i⟩ := h
  obtain ⟨b, k1, k2, k3, k4, k5⟩ := days_sim r o i n (by omega)
  exact Iv_good k2 k4 (by omega)

