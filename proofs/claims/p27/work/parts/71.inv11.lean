/-- everything a day older: the class's shelf and the model's row -/
theorem sft_sim {mc bk : Nat} {γ : Nat → Nat} {σ t : Nat → Int32} (h : Rl mc bk (γ, σ) t) (hγ : ∀ j, j < bk → γ j < 10) : Rl mc bk (γ, upd (setA σ (shGrow (fun k9 => σ (115 + k9)) 21).1) 9 (σ 9 + (shGrow (fun k9 => σ (115 + k9)) 21).2)) (dSft t) := by
  have e2 : (shGrow (fun k9 => σ (115 + k9)) 21).2 = σ 135 := (shGrow_at 21 0).2
  have d135 : t 135 = σ 135 := h.ag (a := 20) (by decide)
  have d9 : t 9 = σ 9 := h.at (i := 9) (by decide)
  have e9 : dSft t 9 = t 9 + t 135 := by
    unfold dSft
    rw [upd_ne (by decide), dSh_lo (by decide)]
    exact upd_eq
  rw [e2]
  obtain ⟨a, b, c, d, e1, e2', e3, e4⟩ := h
  refine ⟨fun i hi => ?_, fun m hm i hi => ?_, fun j hj i hi => ?_, fun k hk => ?_, ?_, e2', ?_, e4⟩
  · by_cases q : i = 9
    · rw [q, e9, d9, d135]
      show _ = upd (setA σ (shGrow (fun k9 => σ (115 + k9)) 21).1) 9 (σ 9 + σ 135) 9
      exact upd_eq.symm
    · rw [dSft_lo (by omega) q]
      show t i = upd (setA σ _) 9 _ i
      rw [upd_ne q, setA_lo (by omega)]
      exact a i hi
  · rw [dSft_lo (by omega) (by omega)]
    show _ = upd (setA σ _) 9 _ _
    rw [upd_ne (by omega), setA_lo (by omega)]
    exact b m hm i hi
  · have := hγ j hj
    rw [dSft_lo (by omega) (by omega)]
    show _ = upd (setA σ _) 9 _ (55 + 6 * γ j + i)
    rw [upd_ne (by omega), setA_lo (by omega)]
    exact c j hj i hi
  · show _ = upd (setA σ _) 9 _ (115 + k)
    rw [upd_ne (by omega), setA_hi, (shGrow_at 21 k).1, if_pos hk]
    unfold dSft
    by_cases q : k = 0
    · rw [q, if_pos rfl, upd_eq]
    · rw [if_neg q, upd_ne (by omega), dSh_at 20 (by decide) k hk, if_pos (by omega)]
      show upd t 9 _ _ = _
      rw [upd_ne (by omega)]
      exact d (k - 1) (by omega)
  · rw [dSft_lo (by decide) (by decide)]
    exact e1
  · rw [dSft_lo (by decide) (by decide)]
    exact e3
theorem sft_at {t : Nat → Int32} {k : Nat} (hk : k < 21) : dSft t (115 + k) = if k = 0 then 0 else t (115 + (k - 1)) := by
  unfold dSft
  by_cases q : k = 0
  · rw [q, if_pos rfl, upd_eq]
  · rw [if_neg q, upd_ne (by omega), dSh_at 20 (by decide) k hk, if_pos (by omega)]
    exact upd_ne (by omega)
theorem aT_shift {s t : Nat → Int32} (h : ∀ k, k < 20 → s (115 + (k + 1)) = t (115 + k)) : ∀ n, n ≤ 20 → aT s 1 n = aT t 0 n
  | 0, _ => rfl
  | n + 1, hn => by
    show aT s 1 n + (s (115 + (1 + n))).toInt = aT t 0 n + (t (115 + (0 + n))).toInt
    rw [aT_shift h n (by omega), show 1 + n = n + 1 by omega, h n (by omega), Nat.zero_add]
theorem sft_ag {t : Nat → Int32} (h : iAg t) : iAg (dSft t) ∧ dSft t 115 = 0 := by
  have z : dSft t 115 = 0 := upd_eq
  have c0 := tk0
  refine ⟨⟨fun k hk => ?_, ?_⟩, z⟩
  · rw [sft_at hk]
    by_cases q : k = 0
    · rw [if_pos q]
      decide
    · rw [if_neg q]
      exact h.1 (k - 1) (by omega)
  · have e1 : aT (dSft t) 0 21 = (dSft t 115).toInt + aT (dSft t) 1 20 := aT_front (n := 20) (a := 0)
    have e2 := aT_shift (s := dSft t) (t := t) (fun k hk => (sft_at (by omega)).trans (if_neg (by omega))) 20 (by decide)
    have e3 : aT t 0 21 = aT t 0 20 + (t (115 + (0 + 20))).toInt := rfl
    have e4 := h.1 20 (by decide)
    have e5 := h.2
    rw [show 115 + (0 + 20) = 115 + 20 by omega] at e3
    rw [z, c0] at e1
    omega
theorem dGo_u3 {t : Nat → Int32} {k b : Nat} {x : Int32} : dGo (upd t 3 x) k b = upd (dGo t k b) 3 x := by
  funext i
  by_cases q : 55 ≤ i
  · rw [upd_ne (by omega)]
    unfold dGo
    rw [dGoL_at _ _ q, dGoL_at _ _ q, upd_ne (by omega), upd_ne (by omega)]
  · by_cases q1 : i = 1
    · rw [q1, dGo_1, upd_ne (by decide), dGo_1]
    · rw [dGo_lo (by omega) q1]
      by_cases q3 : i = 3
      · rw [q3, upd_eq, upd_eq]
      · rw [upd_ne q3, upd_ne q3, dGo_lo (by omega) q1]
theorem gRem_ok {γ : Nat → Nat} {q : Nat} (hq : q < 10) (h : gOk γ) : gOk (gRem γ (nI q) 9) := by
  have e : ∀ k, k < 10 → ∃ k', k' < 10 ∧ gRem γ (nI q) 9 k = γ k' ∧ k' = (if q ≤ k ∧ k < 9 then k + 1 else if k = 9 ∧ q ≤ 9 then q else k) := by
    intro k hk
    rw [gRem_at hq 9 (by decide)]
    by_cases z1 : q ≤ k ∧ k < 9
    · rw [if_pos z1, if_pos z1]
      exact ⟨k + 1, by omega, rfl, rfl⟩
    · rw [if_neg z1, if_neg z1]
      by_cases z2 : k = 9 ∧ q ≤ 9
      · rw [if_pos z2, if_pos z2]
        exact ⟨q, hq, rfl, rfl⟩
      · rw [if_neg z2, if_neg z2]
        exact ⟨k, hk, rfl, rfl⟩
  refine ⟨fun k hk => ?_, fun i j hi hj hij => ?_⟩
  · obtain ⟨k', h1, h2, h3⟩ := e k hk
    rw [h2]
    exact h.1 k' h1
  · obtain ⟨i', a1, a2, a3⟩ := e i hi
    obtain ⟨j', b1, b2, b3⟩ := e j hj
    rw [a2, b2] at hij
    have w := h.2 i' j' a1 b1 hij
    rw [a3, b3] at w
    clear a3 b3 a2 b2 hij
    split at w <;> split at w <;> first | omega | (split at w <;> first | omega | (split at w <;> omega))

