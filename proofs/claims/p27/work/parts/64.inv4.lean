/-! sums of loaves as whole numbers -/
def aT (s : Nat → Int32) (a : Nat) : Nat → Int
  | 0 => 0
  | n + 1 => aT s a n + (s (115 + (a + n))).toInt
def aNN (s : Nat → Int32) : Prop := ∀ k, k < 21 → 0 ≤ (s (115 + k)).toInt
theorem aT_nn {s : Nat → Int32} (h : aNN s) (a : Nat) : ∀ n, a + n ≤ 21 → 0 ≤ aT s a n
  | 0, _ => Int.le_refl 0
  | n + 1, hn => by
    have h1 := aT_nn h a n (by omega)
    have h2 := h (a + n) (by omega)
    show 0 ≤ aT s a n + (s (115 + (a + n))).toInt
    omega
theorem aT_add {s : Nat → Int32} {a n : Nat} : ∀ m, aT s a (n + m) = aT s a n + aT s (a + n) m
  | 0 => (Int.add_zero _).symm
  | m + 1 => by
    show aT s a (n + m) + (s (115 + (a + (n + m)))).toInt = aT s a n + (aT s (a + n) m + (s (115 + (a + n + m))).toInt)
    rw [aT_add m, show a + (n + m) = a + n + m by omega]
    omega
theorem aT_front {s : Nat → Int32} {a n : Nat} : aT s a (n + 1) = (s (115 + a)).toInt + aT s (a + 1) n := by
  have h := aT_add (s := s) (a := a) (n := 1) n
  rw [show n + 1 = 1 + n by omega, h]
  show 0 + (s (115 + (a + 0))).toInt + aT s (a + 1) n = _
  rw [show a + 0 = a by omega]
  omega
theorem aT_le {s : Nat → Int32} {a n : Nat} (h : aNN s) (hn : a + n ≤ 21) : aT s a n ≤ aT s 0 21 := by
  have h1 := aT_add (s := s) (a := 0) (n := a) (21 - a)
  have h2 := aT_add (s := s) (a := a) (n := n) (21 - a - n)
  rw [show a + (21 - a) = 21 by omega, show 0 + a = a by omega] at h1
  rw [show n + (21 - a - n) = 21 - a by omega] at h2
  have h3 := aT_nn h 0 a (by omega)
  have h4 := aT_nn h (a + n) (21 - a - n) (by omega)
  omega
theorem dLF_t {s : Nat → Int32} (h : aNN s) (ht : aT s 0 21 ≤ 80) (a : Nat) : ∀ n, a + n ≤ 21 → (dLF s a n).toInt = aT s a n
  | 0, _ => tk0
  | n + 1, hn => by
    have h1 := dLF_t h ht a n (by omega)
    have h2 := h (a + n) (by omega)
    have h3 := aT_le (n := n + 1) h hn
    have h4 := aT_nn h a n (by omega)
    have e : aT s a (n + 1) = aT s a n + (s (115 + (a + n))).toInt := rfl
    show (dLF s a n + s (115 + (a + n))).toInt = _
    rw [tadd (by omega) (by omega)]
    omega
theorem aT_lo {s : Nat → Int32} {i a : Nat} {x : Int32} (h : i < 115) : ∀ n, aT (upd s i x) a n = aT s a n
  | 0 => rfl
  | n + 1 => by
    show aT (upd s i x) a n + ((upd s i x) (115 + (a + n))).toInt = aT s a n + (s (115 + (a + n))).toInt
    rw [aT_lo h n, upd_ne (by omega)]
theorem aT_upd {s : Nat → Int32} {i a : Nat} {x : Int32} : ∀ n, aT (upd s (115 + i) x) a n = aT s a n + (if a ≤ i ∧ i < a + n then x.toInt - (s (115 + i)).toInt else 0)
  | 0 => by
    rw [if_neg (by omega)]
    rfl
  | n + 1 => by
    show aT (upd s (115 + i) x) a n + ((upd s (115 + i) x) (115 + (a + n))).toInt = aT s a n + (s (115 + (a + n))).toInt + _
    rw [aT_upd n]
    by_cases e : i = a + n
    · subst e
      rw [upd_eq, if_neg (by omega), if_pos (by omega)]
      omega
    · rw [upd_ne (by omega)]
      by_cases q : a ≤ i ∧ i < a + n
      · rw [if_pos q, if_pos (by omega)]
        omega
      · rw [if_neg q, if_neg (by omega)]
        omega
theorem aT_mono {s t : Nat → Int32} (h : ∀ k, k < 21 → (t (115 + k)).toInt ≤ (s (115 + k)).toInt) (a : Nat) : ∀ n, a + n ≤ 21 → aT t a n ≤ aT s a n
  | 0, _ => Int.le_refl 0
  | n + 1, hn => by
    have h1 := aT_mono h a n (by omega)
    have h2 := h (a + n) (by omega)
    show aT t a n + (t (115 + (a + n))).toInt ≤ aT s a n + (s (115 + (a + n))).toInt
    omega
theorem aT_congr {s t : Nat → Int32} (h : ∀ k, k < 21 → s (115 + k) = t (115 + k)) (a : Nat) : ∀ n, a + n ≤ 21 → aT s a n = aT t a n
  | 0, _ => rfl
  | n + 1, hn => by
    show aT s a n + (s (115 + (a + n))).toInt = aT t a n + (t (115 + (a + n))).toInt
    rw [aT_congr h a n (by omega), h _ (by omega)]
/-- what the model's take leaves -/
def tkV (s : Nat → Int32) (g : Nat) (x : Int) (k : Nat) : Int := (s (115 + (g - k))).toInt - min (max 0 (x - aT s (g + 1 - k) k)) (s (115 + (g - k))).toInt
theorem dTk_v {s : Nat → Int32} {g : Nat} {x : Int32} (hg : g ≤ 20) (h : aNN s) (hx : 0 ≤ x.toInt) : ∀ n, n ≤ g + 1 → (dTk s g x n).2.toInt = max 0 (x.toInt - aT s (g + 1 - n) n) ∧ (∀ k, k < n → ((dTk s g x n).1 (115 + (g - k))).toInt = tkV s g x.toInt k) ∧ (∀ i, (i < 115 + (g + 1 - n) ∨ 115 + g < i) → (dTk s g x n).1 i = s i)
  | 0, _ => by
    refine ⟨?_, fun k hk => absurd hk (Nat.not_lt_zero k), fun i _ => rfl⟩
    show x.toInt = max 0 (x.toInt - 0)
    omega
  | n + 1, hn => by
    obtain ⟨h1, h2, h3⟩ := dTk_v hg h hx n (by omega)
    have hp : (dTk s g x n).1 (115 + (g - n)) = s (115 + (g - n)) := h3 _ (by omega)
    have hpn := h (g - n) (by omega)
    have hpb := tbd (s (115 + (g - n)))
    have hxb := tbd x
    have eD : aT s (g + 1 - (n + 1)) (n + 1) = (s (115 + (g - n))).toInt + aT s (g + 1 - n) n := by
      rw [show g + 1 - (n + 1) = g - n by omega, aT_front, show g - n + 1 = g + 1 - n by omega]
    have hDn := aT_nn h (g + 1 - n) n (by omega)
    have em := tmin (a := (dTk s g x n).2) (b := s (115 + (g - n)))
    refine ⟨?_, fun k hk => ?_, fun i hi => ?_⟩
    · rw [dTk_s]
      show ((dTk s g x n).2 - zmin (dTk s g x n).2 ((dTk s g x n).1 (115 + (g - n)))).toInt = _
      rw [hp, tsub (by omega) (by omega)]
      omega
    · rw [dTk_s]
      show (upd (dTk s g x n).1 (115 + (g - n)) ((dTk s g x n).1 (115 + (g - n)) - zmin (dTk s g x n).2 ((dTk s g x n).1 (115 + (g - n)))) (115 + (g - k))).toInt = _
      by_cases e : k = n
      · subst e
        rw [upd_eq, hp, tsub (by omega) (by omega)]
        unfold tkV
        omega
      · rw [upd_ne (by omega)]
        exact h2 k (by omega)
    · rw [dTk_s]
      show upd (dTk s g x n).1 (115 + (g - n)) _ i = _
      rw [upd_ne (by omega)]
      exact h3 i (by omega)
/-- to take more than there is, is to take all -/
theorem tk_cap {s : Nat → Int32} {g n : Nat} {x y : Int32} (hg : g ≤ 20) (h : aNN s) (hx : 0 ≤ x.toInt) (hn : n ≤ g + 1) (hy : y.toInt = min x.toInt (aT s (g + 1 - n) n)) : (dTk s g x n).1 = (dTk s g y n).1 ∧ (dTk s g x n).2 = x - y ∧ (dTk s g y n).2 = 0 := by
  have hDn := aT_nn h (g + 1 - n) n (by omega)
  have hxb := tbd x
  obtain ⟨a1, a2, a3⟩ := dTk_v hg h hx n hn
  obtain ⟨b1, b2, b3⟩ := dTk_v (x := y) hg h (by omega) n hn
  refine ⟨?_, tinj ?_, tinj ?_⟩
  · funext i
    by_cases q : i < 115 + (g + 1 - n) ∨ 115 + g < i
    · rw [a3 i q, b3 i q]
    · obtain ⟨k, hk, rfl⟩ : ∃ k, k < n ∧ i = 115 + (g - k) := ⟨g - (i - 115), by omega, by omega⟩
      apply tinj
      rw [a2 k hk, b2 k hk]
      unfold tkV
      have e1 := aT_add (s := s) (a := g + 1 - n) (n := n - (k + 1)) (k + 1)
      rw [show n - (k + 1) + (k + 1) = n by omega, show g + 1 - n + (n - (k + 1)) = g - k by omega] at e1
      have e2 : aT s (g - k) (k + 1) = (s (115 + (g - k))).toInt + aT s (g + 1 - k) k := by
        rw [aT_front, show g - k + 1 = g + 1 - k by omega]
      have e3 := aT_nn h (g + 1 - n) (n - (k + 1)) (by omega)
      have e4 := h (g - k) (by omega)
      have e5 := aT_nn h (g + 1 - k) k (by omega)
      omega
  · rw [a1, tsub (by omega) (by omega)]
    omega
  · rw [b1, tk0]
    omega
theorem tk_nn {s : Nat → Int32} {g n : Nat} {x : Int32} (hg : g ≤ 20) (h : aNN s) (hx : 0 ≤ x.toInt) (hn : n ≤ g + 1) : aNN (dTk s g x n).1 ∧ ∀ k, k < 21 → ((dTk s g x n).1 (115 + k)).toInt ≤ (s (115 + k)).toInt := by
  obtain ⟨a1, a2, a3⟩ := dTk_v hg h hx n hn
  have z : ∀ k, k < 21 → 0 ≤ ((dTk s g x n).1 (115 + k)).toInt ∧ ((dTk s g x n).1 (115 + k)).toInt ≤ (s (115 + k)).toInt := by
    intro k hk
    have e4 := h k hk
    by_cases q : 115 + k < 115 + (g + 1 - n) ∨ 115 + g < 115 + k
    · rw [a3 _ q]
      omega
    · have e := a2 (g - k) (by omega)
      rw [show g - (g - k) = k by omega] at e
      rw [e]
      unfold tkV
      rw [show g - (g - k) = k by omega]
      omega
  exact ⟨fun k hk => (z k hk).1, fun k hk => (z k hk).2⟩

