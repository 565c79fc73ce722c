theorem cp3_lo {σ σ2 : Nat → Int32} {i : Nat} (hi : i < 19) : hCp3 σ σ2 i = σ2 i := by
  by_cases q : i < 5
  · exact hCp3_lo i q
  · unfold hCp3
    by_cases q2 : i < 15
    · obtain ⟨j, rfl⟩ : ∃ j, i = 5 + j := ⟨i - 5, by omega⟩
      rw [setR_out (by omega), setR_in (by omega)]
    · obtain ⟨j, rfl⟩ : ∃ j, i = 15 + j := ⟨i - 15, by omega⟩
      rw [setR_in (by omega)]
theorem shCopy_in {a a2 : Nat → Int32} {k : Nat} : ∀ n, shCopy a a2 n k = if k < n then a2 k else a k
  | 0 => rfl
  | n + 1 => by
    show upd (shCopy a a2 n) n (a2 n) k = _
    by_cases e : k = n
    · rw [e, upd_eq, if_pos (by omega)]
    · rw [upd_ne e, shCopy_in n]
      by_cases q : k < n
      · rw [if_pos q, if_pos (by omega)]
      · rw [if_neg q, if_neg (by omega)]
theorem cp3_hi {σ σ2 : Nat → Int32} {k : Nat} (hk : k < 21) : hCp3 σ σ2 (115 + k) = σ2 (115 + k) := by
  unfold hCp3
  rw [setR_out (by omega), setR_out (by omega)]
  unfold hCp2
  rw [setA_hi, shCopy_in, if_pos hk]
theorem cpM_out {σ σ2 : Nat → Int32} {i : Nat} (h : i < 19 ∨ 55 ≤ i) : ∀ n, n ≤ 4 → hCpM σ σ2 n i = hCp3 σ σ2 i
  | 0, _ => rfl
  | n + 1, hn => by
    show setR (hCpM σ σ2 n) (19 + 9 * n) 9 (fun i9 => σ2 (19 + 9 * n + i9)) i = _
    rw [setR_out (by omega)]
    exact cpM_out h n (by omega)
theorem cpM_in {σ σ2 : Nat → Int32} {m i : Nat} (hi : i < 9) : ∀ n, m < n → hCpM σ σ2 n (19 + 9 * m + i) = σ2 (19 + 9 * m + i)
  | 0, h => absurd h (Nat.not_lt_zero m)
  | n + 1, h => by
    show setR (hCpM σ σ2 n) (19 + 9 * n) 9 (fun i9 => σ2 (19 + 9 * n + i9)) (19 + 9 * m + i) = _
    by_cases e : m = n
    · rw [e, setR_in hi]
    · rw [setR_out (by omega)]
      exact cpM_in hi n (by omega)
theorem cpG_out {mc : Nat} {γ γ2 : Nat → Nat} {σ σ2 : Nat → Int32} {i : Nat} (hγ : ∀ k, k < 10 → γ k < 10) (h : i < 55 ∨ 115 ≤ i) : ∀ n, n ≤ 10 → hCpG mc γ γ2 σ σ2 n i = hCpM σ σ2 mc i
  | 0, _ => rfl
  | n + 1, hn => by
    have := hγ n (by omega)
    show setR (hCpG mc γ γ2 σ σ2 n) (55 + 6 * γ n) 6 (fun i9 => σ2 (55 + 6 * γ2 n + i9)) i = _
    rw [setR_out (by omega)]
    exact cpG_out hγ h n (by omega)
theorem cpG_in {mc : Nat} {γ γ2 : Nat → Nat} {σ σ2 : Nat → Int32} {j i : Nat} (ho : gOk γ) (hi : i < 6) : ∀ n, n ≤ 10 → j < n → hCpG mc γ γ2 σ σ2 n (55 + 6 * γ j + i) = σ2 (55 + 6 * γ2 j + i)
  | 0, _, h => absurd h (Nat.not_lt_zero j)
  | n + 1, hn, h => by
    show setR (hCpG mc γ γ2 σ σ2 n) (55 + 6 * γ n) 6 (fun i9 => σ2 (55 + 6 * γ2 n + i9)) (55 + 6 * γ j + i) = _
    by_cases e : j = n
    · rw [e, setR_in hi]
    · have : γ j ≠ γ n := fun z => e (ho.2 j n (by omega) (by omega) z)
      rw [setR_out (by omega)]
      exact cpG_in ho hi n (by omega) (by omega)
theorem cp_Rl {mc bk : Nat} {g a : zGS} {s : Nat → Int32} (h : Rl mc bk g s) (ho : gOk a.1) : Rl mc bk (cp a g) s := by
  have hmc := h.s0.2
  have hbk := h.s1.2
  have e0 : (g.2 0).toNatClampNeg = mc := by rw [← h.at (i := 0) (by decide), h.s0.1]; exact nI_clamp (by omega)
  have e1 : (g.2 1).toNatClampNeg = bk := by rw [← h.at (i := 1) (by decide), h.s1.1]; exact nI_clamp (by omega)
  have e : cp a g = (a.1, hCpG mc a.1 g.1 a.2 g.2 bk) := by
    show (a.1, hCpG (g.2 0).toNatClampNeg a.1 g.1 a.2 g.2 (g.2 1).toNatClampNeg) = _
    rw [e0, e1]
  rw [e]
  refine ⟨fun i hi => ?_, fun m hm i hi => ?_, fun j hj i hi => ?_, fun k hk => ?_, h.s0.1, hmc, h.s1.1, hbk⟩
  · show s i = hCpG mc a.1 g.1 a.2 g.2 bk i
    rw [cpG_out ho.1 (.inl (by omega)) bk hbk, cpM_out (.inl hi) mc hmc, cp3_lo hi]
    exact h.at hi
  · show _ = hCpG mc a.1 g.1 a.2 g.2 bk (19 + 9 * m + i)
    rw [cpG_out ho.1 (.inl (by omega)) bk hbk, cpM_in hi mc hm]
    exact h.mu hm hi
  · show _ = hCpG mc a.1 g.1 a.2 g.2 bk (55 + 6 * a.1 j + i)
    rw [cpG_in ho hi bk hbk hj]
    exact h.gr hj hi
  · show _ = hCpG mc a.1 g.1 a.2 g.2 bk (115 + k)
    rw [cpG_out ho.1 (.inr (by omega)) bk hbk, cpM_out (.inr (by omega)) mc hmc, cp3_hi hk]
    exact h.ag hk
theorem cp_St {B : Int} {g a : zGS} {s : Nat → Int32} (h : St B g s) (ho : gOk a.1) : St B (cp a g) s := by
  obtain ⟨mc, bk, r, o, i⟩ := h
  exact ⟨mc, bk, cp_Rl r ho, ho, i⟩
theorem St_ok {B : Int} {g : zGS} {s : Nat → Int32} (h : St B g s) : zOkE g := by
  obtain ⟨mc, bk, r, o, i⟩ := h
  exact ⟨mc, r.s0.2, o.1, (r.at (i := 0) (by decide)).symm.trans r.s0.1, bk, r.s1.2, (r.at (i := 1) (by decide)).symm.trans r.s1.1⟩
theorem St_mono {B B' : Int} {g : zGS} {s : Nat → Int32} (h : St B g s) (hB : B ≤ B') : St B' g s := by
  obtain ⟨mc, bk, r, o, i⟩ := h
  exact ⟨mc, bk, r, o, Iv_mono i hB (Int.le_refl _)⟩
theorem Rl_congr {mc bk : Nat} {g : zGS} {s t : Nat → Int32} (h : ∀ i, i < 136 → t i = s i) (r : Rl mc bk g s) : Rl mc bk g t := by
  obtain ⟨a, b, c, d, e1, e2, e3, e4⟩ := r
  refine ⟨fun i hi => ?_, fun m hm i hi => ?_, fun j hj i hi => ?_, fun k hk => ?_, ?_, e2, ?_, e4⟩
  · rw [h i (by omega)]
    exact a i hi
  · rw [h _ (by omega)]
    exact b m hm i hi
  · rw [h _ (by omega)]
    exact c j hj i hi
  · rw [h _ (by omega)]
    exact d k hk
  · rw [h 0 (by omega)]
    exact e1
  · rw [h 1 (by omega)]
    exact e3
theorem iGr_congr {s t : Nat → Int32} {j : Nat} (h : ∀ i, i < 4 → t (55 + 6 * j + i) = s (55 + 6 * j + i)) (i : iGr s j) : iGr t j := by
  unfold iGr
  rw [h 1 (by decide), h 2 (by decide), h 3 (by decide)]
  exact i
theorem Iv_congr {mc bk : Nat} {s t : Nat → Int32} {B D : Int} (h : ∀ i, i < 136 → t i = s i) (hmc : mc ≤ 4) (hbk : bk ≤ 10) (v : Iv B D mc bk s) : Iv B D mc bk t := by
  obtain ⟨a, b, ⟨c1, c2⟩, d, u, i6, j, k⟩ := v
  unfold Iv
  rw [h 3 (by decide), h 12 (by decide), h 6 (by decide), h 15 (by decide), h 16 (by decide), h 17 (by decide), h 18 (by decide), h 2 (by decide), h 115 (by decide)]
  refine ⟨fun m hm => iMu_congr (fun i hi => h _ (by omega)) (h 3 (by decide)) (a m hm), fun x hx => ?_, ⟨iAg_congr (fun k hk => h _ (by omega)) c1, c2⟩, d, u, i6, j, k⟩
  rw [h _ (by omega), h _ (by omega)]
  exact ⟨iGr_congr (fun i hi => h _ (by omega)) (b x hx).1, (b x hx).2⟩
theorem St_congr {B : Int} {g : zGS} {s t : Nat → Int32} (h : ∀ i, i < 136 → t i = s i) (v : St B g s) : St B g t := by
  obtain ⟨mc, bk, r, o, i⟩ := v
  exact ⟨mc, bk, Rl_congr h r, o, Iv_congr h r.s0.2 r.s1.2 i⟩

