/-! WHAT HOLDS BESIDES, and a day of the law's hut -/
def jX (s : Nat → Int32) (m : Nat) : Prop := (s (19 + 9 * m + 2) = 0 → s (19 + 9 * m + 3) = 0) ∧ (s (19 + 9 * m + 2) ≠ 1 → s (19 + 9 * m + 4) = 0)
def jL (L : List (Nat → Int32)) (d : Int) : Prop := L.Pairwise (fun a c => (a 0).toInt < (c 0).toInt) ∧ ∀ a ∈ L, 0 ≤ (a 0).toInt ∧ (a 0).toInt < d
/-- all loaves there, eaten, thrown away, lost -/
def jP (s : Nat → Int32) : Int32 := dLF s 0 21 + s 8 + s 9 + s 10
def jC (s : Nat → Int32) (mc : Nat) : Prop := s 7 = jP s + dOt s mc ∧ s 5 = s 13 - s 14
def jM (s : Nat → Int32) : Prop := 0 ≤ (s 5).toInt ∧ (s 5).toInt ≤ 360 * (s 3).toInt
def Jn (mc bk : Nat) (s : Nat → Int32) : Prop := (∀ m, m < mc → jX s m) ∧ jL (gl s bk) (s 2).toInt ∧ jC s mc ∧ jM s
theorem jL_filter {L : List (Nat → Int32)} {d : Int} {p : (Nat → Int32) → Bool} (h : jL L d) : jL (L.filter p) d := ⟨h.1.filter p, fun a ha => h.2 a (List.mem_filter.mp ha).1⟩
theorem jL_sub {L M : List (Nat → Int32)} {d : Int} (h : jL L d) (hs : M.Sublist L) : jL M d := ⟨h.1.sublist hs, fun a ha => h.2 a (hs.subset ha)⟩
theorem dLF_upd {s : Nat → Int32} {i a : Nat} {x : Int32} : ∀ n, dLF (upd s (115 + i) x) a n = dLF s a n + (if a ≤ i ∧ i < a + n then x - s (115 + i) else 0)
  | 0 => by
    rw [if_neg (by omega)]
    rfl
  | n + 1 => by
    show dLF (upd s (115 + i) x) a n + (upd s (115 + i) x) (115 + (a + n)) = dLF s a n + s (115 + (a + n)) + _
    rw [dLF_upd n]
    by_cases e : i = a + n
    · subst e
      rw [upd_eq, if_neg (by omega), if_pos (by omega)]
      generalize dLF s a n = y
      generalize s (115 + (a + n)) = z
      grind
    · rw [upd_ne (by omega)]
      generalize dLF s a n = y
      generalize s (115 + (a + n)) = z
      by_cases q : a ≤ i ∧ i < a + n
      · rw [if_pos q, if_pos (by omega)]
        generalize s (115 + i) = v
        grind
      · rw [if_neg q, if_neg (by omega)]
        grind
theorem dOt_s {s : Nat → Int32} {n : Nat} : dOt s (n + 1) = dOt s n + s (19 + 9 * n + 4) := rfl
theorem dOt_cg {s t : Nat → Int32} : ∀ n, (∀ k, k < n → t (19 + 9 * k + 4) = s (19 + 9 * k + 4)) → dOt t n = dOt s n
  | 0, _ => rfl
  | n + 1, h => by rw [dOt_s, dOt_s, dOt_cg n (fun k hk => h k (by omega)), h n (Nat.lt_succ_self n)]
/-- one mule's loaves change -/
theorem dOt_up {s t : Nat → Int32} {k : Nat} : ∀ n, (∀ j, j < n → j ≠ k → t (19 + 9 * j + 4) = s (19 + 9 * j + 4)) → k < n → dOt t n = dOt s n + (t (19 + 9 * k + 4) - s (19 + 9 * k + 4))
  | 0, _, h => absurd h (Nat.not_lt_zero k)
  | n + 1, h, hk => by
    rw [dOt_s, dOt_s]
    by_cases e : k = n
    · subst e
      rw [dOt_cg (s := s) k (fun j hj => h j (by omega) (by omega))]
      generalize dOt s k = y
      generalize s (19 + 9 * k + 4) = z
      generalize t (19 + 9 * k + 4) = v
      grind
    · rw [dOt_up n (fun j hj hne => h j (by omega) hne) (by omega), h n (Nat.lt_succ_self n) (by omega)]
      generalize dOt s n = y
      generalize s (19 + 9 * k + 4) = z
      generalize t (19 + 9 * k + 4) = v
      generalize s (19 + 9 * n + 4) = u
      grind
theorem jP_lo {s : Nat → Int32} {i : Nat} {x : Int32} (h : i < 115) (h8 : i ≠ 8) (h9 : i ≠ 9) (h10 : i ≠ 10) : jP (upd s i x) = jP s := by
  unfold jP
  rw [dLF_lo h, upd_ne (Ne.symm h8), upd_ne (Ne.symm h9), upd_ne (Ne.symm h10)]
theorem jP_T1 {s : Nat → Int32} {i : Nat} (h : i < 21) : jP (lT1 s i) = jP s := by
  unfold jP lT1
  rw [dLF_lo (by decide), dLF_upd, if_pos (by omega), upd_eq, upd_ne (show 8 ≠ 115 + i by omega), upd_ne (show 9 ≠ 8 by decide), upd_ne (show 9 ≠ 115 + i by omega), upd_ne (show 10 ≠ 8 by decide), upd_ne (show 10 ≠ 115 + i by omega)]
  generalize dLF s 0 21 = y
  generalize s (115 + i) = z
  generalize s 8 = a
  generalize s 9 = b
  generalize s 10 = c
  grind
theorem jP_Tk {s : Nat → Int32} {e : Nat} : ∀ m, e + m ≤ 21 → jP (lTk s e m).1 = jP s
  | 0, _ => rfl
  | m + 1, h => by
    have eq : lTk s e (m + 1) = if s (115 + (e + m)) ≤ 0 then lTk s e m else (lT1 s (e + m), 1) := rfl
    rw [eq]
    split
    · exact jP_Tk m (by omega)
    · exact jP_T1 (by omega)
theorem jP_Ea {fr : Nat} (hf : fr ≤ 15) : ∀ m u, jP (lEa fr m u).1 = jP u
  | 0, u => rfl
  | m + 1, u => by
    have eq : lEa fr (m + 1) u = if (lTk u 0 (fr + 1 - 0)).2 = 0 then ((lTk u 0 (fr + 1 - 0)).1, m + 1) else lEa fr m (lTk u 0 (fr + 1 - 0)).1 := rfl
    rw [eq]
    split
    · exact jP_Tk _ (by omega)
    · exact (jP_Ea hf m _).trans (jP_Tk _ (by omega))
theorem jP_Eb {fr : Nat} (hf : fr ≤ 15) : ∀ m u b, jP (lEb fr m u b).1 = jP u
  | 0, u, b => rfl
  | m + 1, u, b => by
    have eq : lEb fr (m + 1) u b = if dLF u (fr + 1) (20 + 1 - (fr + 1)) ≤ 1 then (u, b, m + 1) else if (lT2 u fr).2 = 0 then lEb fr m (lT2 u fr).1 0 else if (lT2 (lT2 u fr).1 fr).2 = 0 then lEb fr m (lT2 (lT2 u fr).1 fr).1 0 else lEb fr m (lT2 (lT2 u fr).1 fr).1 1 := rfl
    rw [eq]
    split
    · rfl
    · split
      · exact (jP_Eb hf m _ _).trans (jP_Tk _ (by omega))
      · split
        · exact (jP_Eb hf m _ _).trans ((jP_Tk _ (by omega)).trans (jP_Tk _ (by omega)))
        · exact (jP_Eb hf m _ _).trans ((jP_Tk _ (by omega)).trans (jP_Tk _ (by omega)))
theorem jP_E3 {t : Nat → Int32} {k : Nat} {p h : Int32} (hk : k < 10) : jP (lE3 t k p h) = jP t := by
  unfold lE3
  dsimp only
  rw [jP_lo (by decide) (by decide) (by decide) (by decide), jP_lo (by decide) (by decide) (by decide) (by decide), jP_lo (by decide) (by decide) (by decide) (by decide), jP_lo (by omega) (by omega) (by omega) (by omega), jP_lo (by omega) (by omega) (by omega) (by omega)]
theorem jP_Eat {s : Nat → Int32} {k fr N : Nat} (hk : k < 10) (hf : fr ≤ 15) : jP (lEat s k fr N) = jP s := by
  have e : jP (lEB s fr N).1 = jP s := (jP_Eb hf _ _ _).trans (jP_Ea hf _ _)
  unfold lEat
  split
  · split
    · rw [jP_E3 hk, e]
    · rw [jP_E3 hk, e]
  · rw [jP_E3 hk, e]
/-- what a group pays -/
theorem lE3_m {t : Nat → Int32} {k : Nat} {x h : Int32} (hk : k < 10) : (lE3 t k x h) 5 = t 5 + t (55 + 6 * k + 1) * x ∧ (lE3 t k x h) 13 = t 13 + t (55 + 6 * k + 1) * x ∧ (lE3 t k x h) 14 = t 14 := by
  rw [lE3_eq hk, dE3_n hk]
  refine ⟨?_, ?_, ?_⟩
  · rw [upd_ne (by decide), upd_eq]
  · rw [upd_eq]
  · rw [upd_ne (by decide), upd_ne (by decide), upd_ne (by decide), upd_ne (by omega), upd_ne (by omega)]
theorem lEat_m {s : Nat → Int32} {k fr N : Nat} (hk : k < 10) (hp1 : 1 ≤ (s (55 + 6 * k + 1)).toInt) (hp2 : (s (55 + 6 * k + 1)).toInt ≤ 12) : ∃ p : Int32, 0 ≤ p.toInt ∧ p.toInt ≤ 36 ∧ lEat s k fr N 5 = s 5 + p ∧ lEat s k fr N 13 = s 13 + p ∧ lEat s k fr N 14 = s 14 := by
  have e : ∀ i, i < 115 → i ≠ 8 → (lEB s fr N).1 i = s i := fun i h h8 => (lEb_lo h h8 _ _ _).trans (lEa_lo h h8 _ _)
  have key : ∀ x h : Int32, 1 ≤ x.toInt → x.toInt ≤ 3 → ∃ p : Int32, 0 ≤ p.toInt ∧ p.toInt ≤ 36 ∧ lE3 (lEB s fr N).1 k x h 5 = s 5 + p ∧ lE3 (lEB s fr N).1 k x h 13 = s 13 + p ∧ lE3 (lEB s fr N).1 k x h 14 = s 14 := by
    intro x h x1 x2
    obtain ⟨a, b, c⟩ := lE3_m (t := (lEB s fr N).1) (k := k) (x := x) (h := h) hk
    rw [e 5 (by decide) (by decide), e _ (by omega) (by omega)] at a
    rw [e 13 (by decide) (by decide), e _ (by omega) (by omega)] at b
    rw [e 14 (by decide) (by decide)] at c
    have u1 : 0 ≤ (s (55 + 6 * k + 1)).toInt * x.toInt := Int.mul_nonneg (by omega) (by omega)
    have u2 : (s (55 + 6 * k + 1)).toInt * x.toInt ≤ 12 * 3 := Int.mul_le_mul hp2 x2 (by omega) (by omega)
    have u3 : (s (55 + 6 * k + 1) * x).toInt = (s (55 + 6 * k + 1)).toInt * x.toInt := tmul (by omega) (by omega)
    exact ⟨_, by omega, by omega, a, b, c⟩
  unfold lEat
  split
  · split
    · exact key 3 0 (by decide) (by decide)
    · exact key 2 0 (by decide) (by decide)
  · exact key 1 1 (by decide) (by decide)
/-- loaves that come -/
theorem jP_S1 {A : Int32} {t : Nat → Int32} : jP (lS1 A t) = jP t + 1 := by
  unfold lS1
  by_cases c : A ≤ 20
  · have hA := clamp20 c
    rw [if_pos c]
    split
    · unfold jP
      rw [dLF_lo (by decide), upd_ne (show 8 ≠ 10 by decide), upd_ne (show 9 ≠ 10 by decide), upd_eq]
      generalize dLF t 0 21 = y
      generalize t 8 = a
      generalize t 9 = b
      generalize t 10 = d
      grind
    · unfold jP
      rw [dLF_upd, if_pos (by omega), upd_ne (by omega), upd_ne (by omega), upd_ne (by omega)]
      generalize dLF t 0 21 = y
      generalize t 8 = a
      generalize t 9 = b
      generalize t 10 = d
      generalize t (115 + A.toNatClampNeg) = v
      grind
  · rw [if_neg c]
    unfold jP
    rw [dLF_lo (by decide), upd_ne (show 8 ≠ 9 by decide), upd_ne (show 10 ≠ 9 by decide), upd_eq]
    generalize dLF t 0 21 = y
    generalize t 8 = a
    generalize t 9 = b
    generalize t 10 = d
    grind
theorem jP_St {A : Int32} {t : Nat → Int32} : ∀ n, jP (lSt t A n) = jP t + nI n
  | 0 => (Int32.add_zero _).symm
  | n + 1 => by
    rw [lSt_s, jP_S1, jP_St n, Int32.add_assoc, show nI n + (1 : Int32) = nI (n + 1) from nI_1 n]
theorem lCo_j {s : Nat → Int32} {k N : Nat} (hk : k < 4) (hN : s (19 + 9 * k + 4) = nI N) : jP (lCo s k N) + (lCo s k N) (19 + 9 * k + 4) = jP s + s (19 + 9 * k + 4) := by
  have p1 : jP (dC1 s k) = jP s := jP_lo (by omega) (by omega) (by omega) (by omega)
  have q1 : dC1 s k (19 + 9 * k + 4) = s (19 + 9 * k + 4) := dC1_ne (by omega)
  have hm : jP (lHm s k) + lHm s k (19 + 9 * k + 4) = jP s + s (19 + 9 * k + 4) := by
    unfold lHm
    split
    · rw [jP_lo (by omega) (by omega) (by omega) (by omega), jP_lo (by omega) (by omega) (by omega) (by omega), p1, upd_ne (by omega), upd_ne (by omega), q1]
    · rw [jP_lo (by omega) (by omega) (by omega) (by omega), jP_lo (by omega) (by omega) (by omega) (by omega), p1, upd_ne (by omega), upd_ne (by omega), q1]
  unfold lCo
  split
  · split
    · unfold lUp
      rw [jP_lo (by omega) (by omega) (by omega) (by omega), jP_lo (by omega) (by omega) (by omega) (by omega), jP_lo (by omega) (by omega) (by omega) (by omega), jP_St, upd_ne (by omega), upd_ne (by omega), upd_eq]
      unfold lC2
      rw [jP_lo (by omega) (by omega) (by omega) (by omega), p1, hN, Int32.add_zero]
    · split
      · split
        · exact hm
        · unfold lLm
          rw [jP_lo (by omega) (by omega) (by omega) (by omega), jP_lo (by omega) (by omega) (by omega) (by omega), jP_lo (by omega) (by omega) (by omega) (by omega), p1, upd_ne (by omega), upd_ne (by omega), upd_ne (by omega), q1]
      · exact hm
  · rw [p1, q1]
theorem lCoN_j {s : Nat → Int32} {k : Nat} (hk : k < 4) (h : iMu s k) : jP (lCoN s k) + (lCoN s k) (19 + 9 * k + 4) = jP s + s (19 + 9 * k + 4) := by
  have hb := h.2.2.2.2.2.1
  have c0 := tk0
  exact lCo_j hk (zix1 (fun y => by have := tlt.mp y; omega))
theorem lMuS_j {s : Nat → Int32} {z : Int32} {k : Nat} (hk : k < 4) (h : iMu s k) : jP (lMuS z k s) + (lMuS z k s) (19 + 9 * k + 4) = jP s + s (19 + 9 * k + 4) := by
  unfold lMuS
  split
  · exact lCoN_j hk h
  · split
    · rfl
    · split
      · exact lCoN_j hk h
      · rfl
theorem dSft_T {t : Nat → Int32} : ∀ n, n ≤ 20 → dLF (dSft t) 0 (n + 1) = dLF t 0 n
  | 0, _ => by
    show (0 : Int32) + dSft t (115 + (0 + 0)) = 0
    rw [show dSft t (115 + (0 + 0)) = 0 from upd_eq]
    rfl
  | n + 1, hn => by
    show dLF (dSft t) 0 (n + 1) + dSft t (115 + (0 + (n + 1))) = dLF t 0 n + t (115 + (0 + n))
    rw [dSft_T n (by omega)]
    have e : dSft t (115 + (0 + (n + 1))) = t (115 + (0 + n)) := by
      have z := sft_at (t := t) (k := n + 1) (by omega)
      rw [show 0 + (n + 1) = n + 1 by omega, show 0 + n = n by omega, z, if_neg (by omega)]
      rfl
    rw [e]
theorem jP_sft {t : Nat → Int32} : jP (dSft t) = jP t := by
  have e9 : dSft t 9 = t 9 + t 135 := by
    unfold dSft
    rw [upd_ne (by decide), dSh_lo (by decide)]
    exact upd_eq
  have eT : dLF t 0 21 = dLF t 0 20 + t 135 := rfl
  unfold jP
  rw [dSft_T 20 (Nat.le_refl _), eT, e9, dSft_lo (by decide) (by decide), dSft_lo (by decide) (by decide)]
  generalize dLF t 0 20 = y
  generalize t 8 = a
  generalize t 9 = b
  generalize t 10 = d
  generalize t 135 = v
  grind
