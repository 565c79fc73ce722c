/-- the groups that have gone by: the class and the model -/
theorem gz_phase {mc : Nat} : ∀ n b (γ : Nat → Nat) (σ t : Nat → Int32), n ≤ b → Rl mc b (γ, σ) (upd t 3 (t 3 + 1)) → gOk γ → 0 ≤ (t 3).toInt → (t 3).toInt ≤ 20000 → (∀ j, j < b → iGr t j) → (∀ j, j < n → (t 3).toInt < (t (55 + 6 * j + 2)).toInt + (t (55 + 6 * j + 3)).toInt) → (∀ j, n ≤ j → j < b → (t 3).toInt + 1 < (t (55 + 6 * j + 2)).toInt + (t (55 + 6 * j + 3)).toInt) → ∃ b', b' ≤ b ∧ Rl mc b' (hGone n (γ, σ)) (upd (dGz n b t) 3 (t 3 + 1)) ∧ gOk (hGone n (γ, σ)).1 ∧ (∀ j, j < b' → iGr (dGz n b t) j ∧ (t 3).toInt + 1 < (dGz n b t (55 + 6 * j + 2)).toInt + (dGz n b t (55 + 6 * j + 3)).toInt) ∧ (∀ i, i < 55 → i ≠ 1 → dGz n b t i = t i) ∧ ∀ k, k < 21 → dGz n b t (115 + k) = t (115 + k)
  | 0, b, γ, σ, t, _, h, ho, _, _, hG, _, h2 => ⟨b, Nat.le_refl _, h, ho, fun j hj => ⟨hG j hj, h2 j (Nat.zero_le _) hj⟩, fun i _ _ => rfl, fun k _ => rfl⟩
  | n + 1, b, γ, σ, t, hn, h, ho, t0, t1, hG, h1, h2 => by
    have hb := h.s1.2
    have c1 := tk1
    have gn := hG n (by omega)
    have hn1 := h1 n (by omega)
    have x2 : (t 3 + 1).toInt = (t 3).toInt + (1 : Int32).toInt := tadd (by omega) (by omega)
    obtain ⟨gp, gf, gl⟩ := gn
    have s3 : t 3 + 1 = σ 3 := by
      have z : (upd t 3 (t 3 + 1)) 3 = σ 3 := h.at (by decide)
      rw [upd_eq] at z
      exact z
    have sf : t (55 + 6 * n + 2) = σ (55 + 6 * γ n + 2) := by
      have z : (upd t 3 (t 3 + 1)) (55 + 6 * n + 2) = σ (55 + 6 * γ n + 2) := h.gr (by omega) (by decide)
      rw [upd_ne (by omega)] at z
      exact z
    have sn : t (55 + 6 * n + 3) = σ (55 + 6 * γ n + 3) := by
      have z : (upd t 3 (t 3 + 1)) (55 + 6 * n + 3) = σ (55 + 6 * γ n + 3) := h.gr (by omega) (by decide)
      rw [upd_ne (by omega)] at z
      exact z
    have a1 : (t (55 + 6 * n + 2) + t (55 + 6 * n + 3)).toInt = (t (55 + 6 * n + 2)).toInt + (t (55 + 6 * n + 3)).toInt := tadd (by omega) (by omega)
    have a2 : (t (55 + 6 * n + 2) + t (55 + 6 * n + 3) - 1).toInt = (t (55 + 6 * n + 2) + t (55 + 6 * n + 3)).toInt - (1 : Int32).toInt := tsub (by omega) (by omega)
    have gg : gGone (fun i9 => σ (55 + 6 * γ n + i9)) (σ 3) = if t 3 + 1 < t (55 + 6 * n + 2) + t (55 + 6 * n + 3) then 0 else 1 := by
      rw [s3, sf, sn]
      rfl
    have eC : hGone (n + 1) (γ, σ) = hGone n (if gGone (fun i9 => σ (55 + 6 * γ n + i9)) (σ 3) = 0 then (γ, σ) else (gRem γ (nI n) 9, upd σ 1 (σ 1 - 1))) := rfl
    rw [eC, gg, dGz_s]
    by_cases q : t 3 + 1 < t (55 + 6 * n + 2) + t (55 + 6 * n + 3)
    · have q' := tlt.mp q
      rw [if_pos q, if_pos rfl, if_neg (show ¬ t (55 + 6 * n + 2) + t (55 + 6 * n + 3) - 1 = t 3 from fun z => by rw [z] at a2; omega)]
      exact gz_phase n b γ σ t (by omega) h ho t0 t1 hG (fun j hj => h1 j (by omega)) (fun j hj hj2 => by
        by_cases e : j = n
        · rw [e]
          omega
        · exact h2 j (by omega) hj2)
    · have q' : ¬ (t 3 + 1).toInt < (t (55 + 6 * n + 2) + t (55 + 6 * n + 3)).toInt := fun z => q (tlt.mpr z)
      rw [if_neg q, if_neg (show ¬ (1 : Int32) = 0 by decide), if_pos (show t (55 + 6 * n + 2) + t (55 + 6 * n + 3) - 1 = t 3 from tinj (by omega))]
      have s1 : σ 1 = nI b := by
        have z : (upd t 3 (t 3 + 1)) 1 = σ 1 := h.at (by decide)
        exact z.symm.trans h.s1.1
      have s1' : σ 1 - 1 = nI (b - 1) := by
        rw [s1]
        exact nI_pred' (by omega)
      have g1 := sim_goes (q := n) h (by omega)
      rw [dGo_u3] at g1
      have d3 : dGo t n (b - 1) 3 = t 3 := dGo_lo (by decide) (by decide)
      have at' : ∀ j i, j < b - 1 → i < 6 → dGo t n (b - 1) (55 + 6 * j + i) = if n ≤ j then t (55 + 6 * (j + 1) + i) else t (55 + 6 * j + i) := fun j i hj hi => dGo_at (by omega) hj hi
      rw [s1']
      obtain ⟨b', k1, k2, k3, k4, k5, k6⟩ := gz_phase n (b - 1) (gRem γ (nI n) 9) (upd σ 1 (nI (b - 1))) (dGo t n (b - 1)) (by omega) (by rw [d3]; exact g1) (gRem_ok (by omega) ho) (by rw [d3]; exact t0) (by rw [d3]; exact t1) (fun j hj => by
        unfold iGr
        rw [at' j 1 hj (by decide), at' j 2 hj (by decide), at' j 3 hj (by decide)]
        by_cases z : n ≤ j
        · rw [if_pos z, if_pos z, if_pos z]
          exact hG (j + 1) (by omega)
        · rw [if_neg z, if_neg z, if_neg z]
          exact hG j (by omega)) (fun j hj => by
        rw [d3, at' j 2 (by omega) (by decide), at' j 3 (by omega) (by decide), if_neg (by omega), if_neg (by omega)]
        exact h1 j (by omega)) (fun j hj hj2 => by
        rw [d3, at' j 2 (by omega) (by decide), at' j 3 (by omega) (by decide), if_pos hj, if_pos hj]
        exact h2 (j + 1) (by omega) (by omega))
      rw [d3] at k2 k4
      refine ⟨b', by omega, k2, k3, k4, fun i i1 i2 => ?_, fun k hk => ?_⟩
      · rw [k5 i i1 i2, dGo_lo i1 i2]
      · rw [k6 k hk]
        unfold dGo
        rw [dGoL_at _ _ (by omega), if_neg (by omega)]

