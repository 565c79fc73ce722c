/-! THE ORDERS' cells, which stand still here -/
def eOrdL (w : zW) (v : Nat → Int32) : List Value := [.ref (w.2 130), .ref (w.2 131), .int (v 0), .int (v 1), .int (v 2), .int (v 3), .int (v 4)]
abbrev eOrd (w : zW) (v : Nat → Int32) : va_E := .inr (5, eOrdL w v)
theorem eOrd_set (w : zW) (v : Nat → Int32) (x : Int32) : ∀ i, i < 5 → (eOrdL w v).set (2 + i) (.int x) = eOrdL w (upd v i x)
  | 0, _ => rfl
  | 1, _ => rfl
  | 2, _ => rfl
  | 3, _ => rfl
  | 4, _ => rfl
  | i + 5, h => absurd h (by omega)
theorem upd_self (v : Nat → Int32) (k : Nat) : upd v k (v k) = v := by
  funext j
  unfold upd
  by_cases h : j = k
  · rw [if_pos h, h]
  · rw [if_neg h]
theorem upd_upd {v : Nat → Int32} {k : Nat} {x y : Int32} : upd (upd v k x) k y = upd v k y := by
  funext j
  unfold upd
  split <;> rfl
theorem upd_id9 {v : Nat → Int32} {i : Nat} {x : Int32} (h : v i = x) : v = upd v i x := by rw [← h, upd_self]
theorem hSend_lo {σ : Nat → Int32} {x n : Int32} {i : Nat} (h : i < 5) : (hSend σ x n).2 i = σ i := by
  unfold hSend
  split
  · rfl
  · split
    · unfold hSend2 hSend1
      show upd (upd _ 7 _) 6 _ i = σ i
      rw [upd_ne (by omega), upd_ne (by omega), setR_out (by omega)]
    · rfl
theorem hPay_lo {σ : Nat → Int32} {m : Int32} {i : Nat} (h : i < 5) : (hPay σ m).2 i = σ i := by
  unfold hPay
  split
  · rfl
  · split
    · rfl
    · split
      · show upd (upd (upd σ 5 _) 6 _) 14 _ i = σ i
        rw [upd_ne (by omega), upd_ne (by omega), upd_ne (by omega)]
      · rfl
theorem hBook1_lo {γ : Nat → Nat} {bk : Nat} {σ : Nat → Int32} {p d n : Int32} : hBook1 γ bk σ p d n 0 = σ 0 ∧ hBook1 γ bk σ p d n 1 = σ 1 + 1 := by
  unfold hBook1
  constructor
  · rw [setR_out (by omega), upd_ne (by decide), upd_ne (by decide)]
  · rw [setR_out (by omega), upd_ne (by decide), upd_eq]
theorem hPlace_in {γ : Nat → Nat} {σ : Nat → Int32} {x : Int32} : ∀ m k : Nat, hPlace γ σ x m k = -1 ∨ ∃ j, k ≤ j ∧ j < k + m ∧ hPlace γ σ x m k = nI j
  | 0, k => Or.inl rfl
  | m + 1, k => by
    by_cases h : σ (55 + 6 * γ k + 0) = x
    · exact Or.inr ⟨k, Nat.le_refl _, by omega, by simp only [hPlace, if_pos h]⟩
    · rcases hPlace_in (γ := γ) (σ := σ) (x := x) m (k + 1) with q | ⟨j, q1, q2, q3⟩
      · exact Or.inl (by simp only [hPlace, if_neg h]; exact q)
      · exact Or.inr ⟨j, by omega, by omega, by simp only [hPlace, if_neg h]; exact q3⟩
theorem hEnd_ok {mc : Nat} {s : zGS} {d : Int32} (hmc : mc ≤ 4) (h : zOk mc s) : zOk mc (hEnd s d).2 := by
  unfold hEnd
  split
  · exact h
  · split
    · exact hDays_ok hmc h _
    · exact h
theorem nI_pred' {n : Nat} (h : 0 < n) : nI n - 1 = nI (n - 1) := by
  obtain ⟨k, rfl⟩ : ∃ k, n = k + 1 := ⟨n - 1, by omega⟩
  exact nI_pred k
def qSend (s : zGS) (x n : Int32) : Int32 × zGS := ((hSend s.2 x n).1, s.1, (hSend s.2 x n).2)
theorem qSend_ok {mc : Nat} {s : zGS} {x n : Int32} (h : zOk mc s) : zOk mc (qSend s x n).2 := by
  obtain ⟨a, b, c, d, e⟩ := h
  exact ⟨a, (hSend_lo (by decide)).trans b, c, d, (hSend_lo (by decide)).trans e⟩
def qPay (s : zGS) (m : Int32) : Int32 × zGS := ((hPay s.2 m).1, s.1, (hPay s.2 m).2)
theorem qPay_ok {mc : Nat} {s : zGS} {m : Int32} (h : zOk mc s) : zOk mc (qPay s m).2 := by
  obtain ⟨a, b, c, d, e⟩ := h
  exact ⟨a, (hPay_lo (by decide)).trans b, c, d, (hPay_lo (by decide)).trans e⟩
def qBook (s : zGS) (p d n : Int32) : Int32 × zGS := ((hBook (s.2 1).toNatClampNeg s.1 s.2 p d n).1, s.1, (hBook (s.2 1).toNatClampNeg s.1 s.2 p d n).2)
theorem qBook_ok {mc : Nat} {s : zGS} {p d n : Int32} (h : zOk mc s) : zOk mc (qBook s p d n).2 := by
  obtain ⟨a, b, c, d9, e⟩ := h
  have key : zOk mc (s.1, (hBook (s.2 1).toNatClampNeg s.1 s.2 p d n).2) := by
    unfold hBook
    split
    · exact ⟨a, b, c, d9, e⟩
    · split
      · exact ⟨a, b, c, d9, e⟩
      · split
        · exact ⟨a, b, c, d9, e⟩
        · split
          · rename_i h4
            rw [e] at h4
            have hc : c < 10 := (nI_ltI (by omega) (show 10 < 2147483648 by decide)).mp h4
            exact ⟨a, hBook1_lo.1.trans b, c + 1, by omega, by rw [nI_succ, ← e]; exact hBook1_lo.2⟩
          · exact ⟨a, b, c, d9, e⟩
  exact key
def qOff (s : zGS) (x : Int32) : Int32 × zGS := hOff (s.2 1).toNatClampNeg s.1 s.2 x
theorem qOff_ok {mc : Nat} {s : zGS} {x : Int32} (h : zOk mc s) : zOk mc (qOff s x).2 := by
  obtain ⟨a, b, c, d, e⟩ := h
  unfold qOff hOff
  split
  · rename_i h4
    rw [e, nI_clamp (by omega)] at h4 ⊢
    have hc : 0 < c := by
      rcases hPlace_in (γ := s.1) (σ := s.2) (x := x) c 0 with q | ⟨j, q1, q2, q3⟩
      · rw [q] at h4; exact absurd h4 (by decide)
      · omega
    exact ⟨gRem_lt a 9 (Nat.le_refl _), (show upd s.2 1 (nI c - 1) 0 = nI mc from (upd_ne (show 0 ≠ 1 by decide)).trans b), c - 1, by omega, (show upd s.2 1 (nI c - 1) 1 = nI (c - 1) from upd_eq.trans (nI_pred' hc))⟩
  · exact ⟨a, b, c, d, e⟩
def ov (l s a r c : Int32) : Nat → Int32
  | 0 => l
  | 1 => s
  | 2 => a
  | 3 => r
  | 4 => c
  | _ + 5 => 0
def zOs (w : zW) (cy : Nat → ClassId) (f : zF) (l0 : Int32) (tx : Nat → Int32) : Prop := f 130 = eChars cy 60 tx ∧ ∃ p a r c nu, f 129 = eOrd w (ov l0 p a r c) ∧ f 131 = eInts cy 3 nu
