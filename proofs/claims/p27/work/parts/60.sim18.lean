theorem sim_set1 {mc bk : Nat} {g : zGS} {s : Nat → Int32} {y : Int32} {j : Nat} (h : Rl mc bk g s) (hj : j < 4) : Rl mc bk (g.1, setR g.2 15 4 (upd (fun i9 => g.2 (15 + i9)) j y)) (upd s (15 + j) y) := by
  rw [setR_upd hj, setR_self]
  exact Rl_upd h (by omega) (by omega) (by omega)
theorem zwin_c {x : Int32} {n : Nat} (hn : n < 2147483647) : zwin x 0 (nI n) = 0 ↔ (x < 0 ∨ nI (n + 1) ≤ x) := by
  unfold zwin
  by_cases c : x < 0
  · rw [if_pos c]
    exact ⟨fun _ => .inl c, fun _ => rfl⟩
  · rw [if_neg c]
    obtain ⟨j, hj, rfl⟩ := nI_of c
    by_cases d : nI n < nI j
    · rw [if_pos d]
      exact ⟨fun _ => .inr ((nI_leI (by omega) hj).mpr ((nI_ltI (by omega) hj).mp d)), fun _ => rfl⟩
    · rw [if_neg d]
      refine ⟨fun q => absurd q (by decide), fun q => ?_⟩
      rcases q with q | q
      · exact absurd q c
      · exact absurd ((nI_ltI (by omega) hj).mpr ((nI_leI (by omega) hj).mp q)) d
theorem sim_set {mc bk : Nat} {g : zGS} {s : Nat → Int32} {x y : Int32} (h : Rl mc bk g s) : Sim mc bk (qSet g x y) (dSet s x y) := by
  have hz : zwin x 0 3 = 0 ↔ (x < 0 ∨ 4 ≤ x) := zwin_c (x := x) (n := 3) (by decide)
  have fail : ∀ z : Int32, z < 0 → Sim mc bk (z, g.1, setR g.2 15 4 (fun i9 => g.2 (15 + i9))) (z, false, s) := fun z h9 => by
    rw [setR_self]
    exact Sim_fail (x := z) (g := g) h9
  unfold qSet dSet sChg
  by_cases c1 : x < 0
  · rw [if_pos c1, if_pos (hz.mpr (.inl c1))]
    exact fail (-1000001) (by decide)
  · rw [if_neg c1]
    by_cases c2 : 4 ≤ x
    · rw [if_pos c2, if_pos (hz.mpr (.inr c2))]
      exact fail (-1000001) (by decide)
    · rw [if_neg c2, if_neg (fun q => (hz.mp q).elim c1 c2)]
      obtain ⟨j, hj, rfl⟩ := nI_of c1
      have h4 : j < 4 := by
        rcases Nat.lt_or_ge j 4 with q | q
        · exact q
        · exact absurd ((nI_leI (by decide) hj).mpr q) c2
      rw [nI_clamp hj]
      have key : ∀ (lo hi : Int32), dMay (nI j) y = zwin y lo hi → zLowI j = lo → zHighI j = hi → sTell (fun i9 => g.2 (15 + i9)) (nI j) = g.2 (15 + j) → sChgV (fun i9 => g.2 (15 + i9)) (nI j) y = upd (fun i9 => g.2 (15 + i9)) j y → Sim mc bk ((if zwin y (zLowI j) (zHighI j) = 0 then ((-1000001 : Int32), (fun i9 => g.2 (15 + i9))) else (sTell (fun i9 => g.2 (15 + i9)) (nI j), sChgV (fun i9 => g.2 (15 + i9)) (nI j) y)).1, g.1, setR g.2 15 4 (if zwin y (zLowI j) (zHighI j) = 0 then ((-1000001 : Int32), (fun i9 => g.2 (15 + i9))) else (sTell (fun i9 => g.2 (15 + i9)) (nI j), sChgV (fun i9 => g.2 (15 + i9)) (nI j) y)).2) (if dMay (nI j) y = 0 then (-1000001, false, s) else (s (15 + j), true, upd s (15 + j) y)) := by
        intro lo hi m1 m2 m3 m4 m5
        rw [m1, m2, m3, m4, m5]
        by_cases c3 : zwin y lo hi = 0
        · rw [if_pos c3, if_pos c3]
          exact fail (-1000001) (by decide)
        · rw [if_neg c3, if_neg c3]
          exact ⟨(h.at (by omega)).symm, fun _ => sim_set1 h h4, (fun q => Bool.noConfusion q)⟩
      match j, h4 with
      | 0, _ => exact key 1 9 rfl rfl rfl rfl rfl
      | 1, _ => exact key 10 500 rfl rfl rfl rfl rfl
      | 2, _ => exact key 0 15 rfl rfl rfl rfl rfl
      | 3, _ => exact key 0 90 rfl rfl rfl rfl rfl

