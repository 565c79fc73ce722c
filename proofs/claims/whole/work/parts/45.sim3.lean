theorem setR_self {σ : Nat → Int32} {c n : Nat} : setR σ c n (fun i => σ (c + i)) = σ := by
  funext j
  by_cases q : c ≤ j ∧ j < c + n
  · obtain ⟨i, rfl⟩ : ∃ i, j = c + i := ⟨j - c, by omega⟩
    exact setR_in (by omega)
  · exact setR_out (by omega)
theorem setR_upd {σ v : Nat → Int32} {c n i : Nat} {x : Int32} (hi : i < n) : setR σ c n (upd v i x) = upd (setR σ c n v) (c + i) x := by
  funext j
  by_cases q : c ≤ j ∧ j < c + n
  · obtain ⟨k, rfl⟩ : ∃ k, j = c + k := ⟨j - c, by omega⟩
    rw [setR_in (by omega)]
    by_cases e : k = i
    · subst e
      rw [upd_eq, upd_eq]
    · rw [upd_ne e, upd_ne (by omega), setR_in (by omega)]
  · rw [setR_out (by omega), upd_ne (by omega), setR_out (by omega)]
/-- the same number of the same mule in both -/
theorem Rl_upm {mc bk : Nat} {g : zGS} {s : Nat → Int32} {k i9 : Nat} {x : Int32} (h : Rl mc bk g s) (hk : k < mc) (hi9 : i9 < 9) : Rl mc bk (g.1, upd g.2 (19 + 9 * k + i9) x) (upd s (19 + 9 * k + i9) x) := by
  obtain ⟨a, b, c, d, e1, e2, e3, e4⟩ := h
  refine ⟨fun i hi => ?_, fun m hm i hi => ?_, fun j hj i hi => ?_, fun q hq => ?_, ?_, e2, ?_, e4⟩
  · rw [upd_ne (by omega)]
    exact (a i hi).trans (upd_ne (by omega)).symm
  · by_cases e : 19 + 9 * m + i = 19 + 9 * k + i9
    · rw [e, upd_eq]
      exact upd_eq.symm
    · rw [upd_ne e]
      exact (b m hm i hi).trans (upd_ne e).symm
  · rw [upd_ne (by omega)]
    exact (c j hj i hi).trans (upd_ne (by omega)).symm
  · rw [upd_ne (by omega)]
    exact (d q hq).trans (upd_ne (by omega)).symm
  · rw [upd_ne (by omega)]
    exact e1
  · rw [upd_ne (by omega)]
    exact e3
theorem hSend1_eq {σ : Nat → Int32} {k : Nat} {n : Int32} : hSend1 σ k n = upd (upd (upd (upd (upd σ (19 + 9 * k + 2) 1) (19 + 9 * k + 3) 2) (19 + 9 * k + 4) n) (19 + 9 * k + 5) (σ 3)) (19 + 9 * k + 6) (σ (19 + 9 * k + 6) + 1) := by
  unfold hSend1 mLeave
  rw [setR_upd (by decide), setR_upd (by decide), setR_upd (by decide), setR_upd (by decide), setR_upd (by decide), setR_self]
