theorem gk_off {B : Int} {g : zGS} {s : Nat → Int32} {x : Int32} (h : St B g s) : gOk (qOff g x).2.1 := by
  obtain ⟨mc, bk, r, o, v⟩ := h
  have hb := r.s1.2
  have g1 : g.2 1 = nI bk := (r.at (by decide)).symm.trans r.s1.1
  have ec : (g.2 1).toNatClampNeg = bk := by rw [g1, nI_clamp (by omega)]
  unfold qOff hOff
  rw [ec]
  rcases pl_sim (x := x) r bk 0 (by omega) with ⟨q1, q2⟩ | ⟨j, -, hj, q1, q2⟩
  · rw [q1, if_neg (show ¬ (0 : Int32) ≤ -1 by decide)]
    exact o
  · have p : (0 : Int32) ≤ nI j := nI_pos' (by omega)
    rw [q1, if_pos p]
    exact gRem_ok (by omega) o
theorem gk_end {B : Int} {g : zGS} {s : Nat → Int32} {x : Int32} (h : St B g s) : gOk (hEnd g x).2.1 := by
  obtain ⟨mc, bk, r, o, v⟩ := h
  unfold hEnd
  by_cases c1 : zwin x 1 60 = 0
  · rw [if_pos c1]
    exact o
  · rw [if_neg c1]
    have hx := zwin_hi c1 (by decide) (show (60 : Int32) = nI 60 from rfl) (by decide)
    obtain ⟨b, k1, k2, k3, k4, k5⟩ := days_sim r o v x.toNatClampNeg (by omega)
    by_cases c2 : g.2 3 + x ≤ 9999
    · rw [if_pos c2]
      exact k3
    · rw [if_neg c2]
      exact o
/-- the history: the class's huts and the model's rows of what was -/
def Hs (B : Int) (s0 s1 : zGS) (hs : Nat → zGS) (δ : Nat → Nat) (k : Nat) (s P : Nat → Int32) : Prop := St B s0 s ∧ gOk s1.1 ∧ (∀ i, i < 4 → gOk (hs i).1) ∧ (∀ i j, i < 4 → j < 4 → δ i = δ j → i = j) ∧ (∀ i, i < 4 → δ i < 4) ∧ k ≤ 4 ∧ ∀ i, i < k → St B (hs (δ i)) (fun n => P (136 * i + n))
theorem zDr3 {δ : Nat → Nat} : zDr δ 3 0 = δ 1 ∧ zDr δ 3 1 = δ 2 ∧ zDr δ 3 2 = δ 3 ∧ zDr δ 3 3 = δ 0 := ⟨rfl, rfl, rfl, rfl⟩
theorem zDr3_lo {δ : Nat → Nat} {i : Nat} (h : i < 3) : zDr δ 3 i = δ (i + 1) := by
  obtain ⟨a, b, c, d⟩ := zDr3 (δ := δ)
  rcases (show i = 0 ∨ i = 1 ∨ i = 2 by omega) with e | e | e
  · rw [e, a]
  · rw [e, b]
  · rw [e, c]
theorem kpD_at {δ : Nat → Nat} {k : Nat} : ∀ i, i < 4 → ∃ i', i' < 4 ∧ kpD δ k i = δ i' ∧ i' = (if k < 4 then i else if i < 3 then i + 1 else 0) := by
  intro i hi
  unfold kpD
  by_cases q : k < 4
  · rw [if_pos q, if_pos q]
    exact ⟨i, hi, rfl, rfl⟩
  · rw [if_neg q, if_neg q]
    by_cases z : i < 3
    · rw [if_pos z, zDr3_lo z]
      exact ⟨i + 1, by omega, rfl, rfl⟩
    · rw [if_neg z, show i = 3 by omega, zDr3.2.2.2]
      exact ⟨0, by decide, rfl, rfl⟩
theorem kp_Hs {B : Int} {s0 s1 : zGS} {hs : Nat → zGS} {δ : Nat → Nat} {k : Nat} {s P : Nat → Int32} (h : Hs B s0 s1 hs δ k s P) : (∀ i, i < 4 → gOk (kpH hs δ k s0 i).1) ∧ (∀ i j, i < 4 → j < 4 → kpD δ k i = kpD δ k j → i = j) ∧ (∀ i, i < 4 → kpD δ k i < 4) ∧ kpJ k + 1 ≤ 4 ∧ ∀ i, i < kpJ k + 1 → St B (kpH hs δ k s0 (kpD δ k i)) (fun n => dPw (if k < 4 then P else dPs P 408) s (dPj k) 136 (136 * i + n)) := by
  obtain ⟨a, b, c, inj, lt, k4, past⟩ := h
  have ej : dPj k = kpJ k := rfl
  have hj : kpJ k < 4 := by
    unfold kpJ
    split <;> omega
  have dlt : ∀ i, i < 4 → kpD δ k i < 4 := fun i hi => by
    obtain ⟨i', h1, h2, h3⟩ := kpD_at (δ := δ) (k := k) i hi
    rw [h2]
    exact lt i' h1
  have dinj : ∀ i j, i < 4 → j < 4 → kpD δ k i = kpD δ k j → i = j := by
    intro i j hi hj hij
    obtain ⟨i', a1, a2, a3⟩ := kpD_at (δ := δ) (k := k) i hi
    obtain ⟨j', b1, b2, b3⟩ := kpD_at (δ := δ) (k := k) j hj
    rw [a2, b2] at hij
    have w := inj i' j' a1 b1 hij
    rw [a3, b3] at w
    clear a3 b3 a2 b2 hij
    by_cases q : k < 4
    · rw [if_pos q, if_pos q] at w
      exact w
    · rw [if_neg q, if_neg q] at w
      split at w <;> split at w <;> omega
  refine ⟨fun i hi => ?_, dinj, dlt, by omega, fun i hi => ?_⟩
  · unfold kpH
    by_cases e : i = kpD δ k (kpJ k)
    · rw [e, va_up_self]
      exact c _ (dlt _ hj)
    · rw [va_up_ne _ _ e]
      exact c i hi
  · unfold kpH
    by_cases e : i = kpJ k
    · rw [e, va_up_self]
      refine St_congr (fun n hn => ?_) (cp_St a (c _ (dlt _ hj)))
      show dPw _ s (dPj k) 136 (136 * kpJ k + n) = s n
      rw [ej]
      exact dPw_in 136 hn
    · have ne : kpD δ k i ≠ kpD δ k (kpJ k) := fun z => e (dinj i _ (by omega) hj z)
      rw [va_up_ne _ _ ne]
      by_cases q : k < 4
      · have ek : kpJ k = k := if_pos q
        have ed : kpD δ k = δ := if_pos q
        rw [ed]
        refine St_congr (fun n hn => ?_) (past i (by omega))
        show dPw (if k < 4 then P else dPs P 408) s (dPj k) 136 (136 * i + n) = P (136 * i + n)
        rw [if_pos q, dPw_out (by omega) 136 (Nat.le_refl _)]
      · have ek : kpJ k = 3 := if_neg q
        have ed : kpD δ k = zDr δ 3 := if_neg q
        rw [ed, zDr3_lo (by omega)]
        refine St_congr (fun n hn => ?_) (past (i + 1) (by omega))
        show dPw (if k < 4 then P else dPs P 408) s (dPj k) 136 (136 * i + n) = P (136 * (i + 1) + n)
        rw [if_neg q, dPw_out (by omega) 136 (Nat.le_refl _), dPs_lo 408 (by omega), show 136 * i + n + 136 = 136 * (i + 1) + n by omega]
theorem Hs_mono {B B' : Int} {s0 s1 : zGS} {hs : Nat → zGS} {δ : Nat → Nat} {k : Nat} {s P : Nat → Int32} (h : Hs B s0 s1 hs δ k s P) (hB : B ≤ B') : Hs B' s0 s1 hs δ k s P := by
  obtain ⟨a, b, c, inj, lt, k4, past⟩ := h
  exact ⟨St_mono a hB, b, c, inj, lt, k4, fun i hi => St_mono (past i hi) hB⟩
theorem Hs_trial {B : Int} {s0 s1 t : zGS} {hs : Nat → zGS} {δ : Nat → Nat} {k : Nat} {s P : Nat → Int32} (h : Hs B s0 s1 hs δ k s P) (ht : gOk t.1) : Hs B s0 t hs δ k s P := ⟨h.1, ht, h.2.2⟩
/-- behind a call that changes -/
theorem chg_Hs {B B' : Int} {s0 s1 : zGS} {hs : Nat → zGS} {δ : Nat → Nat} {k : Nat} {s P v : Nat → Int32} {q : Int32 × zGS} {d : Int32 × Bool × (Nat → Int32)} (h : Hs B s0 s1 hs δ k s P) (hB : B ≤ B') (hc : Chg B' q d) (hq : gOk q.2.1) (h1 : v 1 = 0) : q.1 = d.1 ∧ Hs B' (tkS q.1 s0 q.2) q.2 (tkH q.1 hs δ k s0) (tkD q.1 δ k) (tkN q.1 k) (if d.2.1 then d.2.2 else s) (if d.2.1 then dPa v P s k else P) ∧ (d.2.1 = true → ¬ q.1 < 0) ∧ (d.2.1 = false → q.1 < 0) := by
  obtain ⟨e, ht, hf⟩ := hc
  refine ⟨e, ?_, fun z => (ht z).1, hf⟩
  cases hd : d.2.1 with
  | false =>
    have n := hf hd
    rw [if_neg (by decide), if_neg (by decide)]
    unfold tkS tkH tkD tkN
    rw [if_pos n, if_pos n, if_pos n, if_pos n]
    exact Hs_trial (Hs_mono h hB) hq
  | true =>
    obtain ⟨n, st⟩ := ht hd
    rw [if_pos rfl, if_pos rfl]
    unfold tkS tkH tkD tkN dPa
    rw [if_neg n, if_neg n, if_neg n, if_neg n, if_pos h1]
    have h' := Hs_mono h hB
    obtain ⟨a1, a2, a3, a4, a5⟩ := kp_Hs h'
    have o0 : gOk s0.1 := by
      obtain ⟨mc, bk, r, o, v⟩ := h'.1
      exact o
    exact ⟨cp_St st o0, hq, a1, a2, a3, a4, a5⟩

