theorem dMz_eq {s : Nat → Int32} {mc i : Nat} : ∀ n, dMz s mc n i = if 19 + 9 * mc ≤ i ∧ i < 19 + 9 * mc + n then 0 else s i
  | 0 => by
    rw [if_neg (by omega)]
    rfl
  | n + 1 => by
    show upd (dMz s mc n) (19 + 9 * mc + n) 0 i = _
    by_cases e : i = 19 + 9 * mc + n
    · rw [e, upd_eq, if_pos (by omega)]
    · rw [upd_ne e, dMz_eq n]
      by_cases q : 19 + 9 * mc ≤ i ∧ i < 19 + 9 * mc + n
      · rw [if_pos q, if_pos (by omega)]
      · rw [if_neg q, if_neg (by omega)]
/-- what a new mule's numbers are in the hut -/
theorem mBegin_at {v : Nat → Int32} {a c : Int32} {i : Nat} (hi : i < 9) : mBegin v a c i = if i = 0 then a else if i = 1 then c else 0 := by
  match i, hi with
  | 0, _ => rfl
  | 1, _ => rfl
  | 2, _ => rfl
  | 3, _ => rfl
  | 4, _ => rfl
  | 5, _ => rfl
  | 6, _ => rfl
  | 7, _ => rfl
  | 8, _ => rfl
theorem dMn_at {s : Nat → Int32} {mc : Nat} {a c : Int32} {i : Nat} (hi : i < 9) : dMn s mc a c (19 + 9 * mc + i) = if i = 0 then a else if i = 1 then c else 0 := by
  unfold dMn
  by_cases h1 : i = 1
  · subst h1
    rw [upd_eq]
    rfl
  · rw [upd_ne (by omega)]
    by_cases h0 : i = 0
    · subst h0
      rw [upd_eq]
      rfl
    · rw [upd_ne (by omega), dMz_eq, if_pos (by omega), if_neg h0, if_neg h1]
theorem dMn_out {s : Nat → Int32} {mc : Nat} {a c : Int32} {i : Nat} (h : i < 19 + 9 * mc ∨ 19 + 9 * mc + 9 ≤ i) : dMn s mc a c i = s i := by
  unfold dMn
  rw [upd_ne (by omega), upd_ne (by omega), dMz_eq, if_neg (by omega)]
theorem sim_mule {mc bk : Nat} {g : zGS} {s : Nat → Int32} {a c : Int32} (h : Rl mc bk g s) : Sim (mc + 1) bk (qAdd g a c) (dMule s mc a c) := by
  obtain ⟨h0, hm4⟩ := h.s0
  have g0 : g.2 0 = nI mc := (h.at (by decide)).symm.trans h0
  have ec : (g.2 0).toNatClampNeg = mc := by rw [g0, nI_clamp (by omega)]
  unfold qAdd dMule
  rw [ec]
  unfold hAddMule
  by_cases c1 : (zwin a 1 30) = 0
  · rw [if_pos c1, if_pos c1]
    exact Sim_fail (x := -1000001) (g := g) (mc := mc + 1) (bk := bk) (by decide)
  · rw [if_neg c1, if_neg c1]
    by_cases c2 : (zwin c 1 9) = 0
    · rw [if_pos c2, if_pos c2]
      exact Sim_fail (x := -1000001) (g := g) (mc := mc + 1) (bk := bk) (by decide)
    · rw [if_neg c2, if_neg c2, h0, g0]
      by_cases c3 : mc = 4
      · subst c3
        rw [if_neg (show ¬ nI 4 < 4 by decide), if_pos (show nI 4 = 4 by decide)]
        exact Sim_fail (x := -1000003) (g := g) (mc := 4 + 1) (bk := bk) (by decide)
      · have hm : mc < 4 := by omega
        rw [if_pos (show nI mc < 4 from nI_lt (b := 4) hm (by decide)), if_neg (show ¬ nI mc = 4 from nI_ne4 hm)]
        refine ⟨rfl, fun _ => ?_, (fun q => Bool.noConfusion q)⟩
        show Rl (mc + 1) bk (g.1, hAddMule1 mc g.2 a c) (upd (dMn s mc a c) 0 ((dMn s mc a c) 0 + 1))
        obtain ⟨r1, r2, r3, r4, e1, e2, e3, e4⟩ := h
        have t0 : dMn s mc a c 0 = nI mc := (dMn_out (by omega)).trans e1
        unfold hAddMule1
        refine ⟨fun i hi => ?_, fun m hm9 i hi => ?_, fun j hj i hi => ?_, fun q hq => ?_, ?_, by omega, ?_, e4⟩
        · dsimp only
          rw [setR_out (by omega)]
          by_cases e : i = 0
          · subst e
            rw [upd_eq, upd_eq, t0, g0]
          · rw [upd_ne e, upd_ne e, dMn_out (by omega)]
            exact r1 i hi
        · dsimp only
          rw [upd_ne (by omega)]
          by_cases e : m = mc
          · subst e
            rw [dMn_at hi, setR_in hi, mBegin_at hi]
          · rw [dMn_out (by omega), setR_out (by omega), upd_ne (by omega)]
            exact r2 m (by omega) i hi
        · dsimp only
          rw [upd_ne (by omega), dMn_out (by omega), setR_out (by omega), upd_ne (by omega)]
          exact r3 j hj i hi
        · dsimp only
          rw [upd_ne (by omega), dMn_out (by omega), setR_out (by omega), upd_ne (by omega)]
          exact r4 q hq
        · rw [upd_eq, t0, nI_1]
        · rw [upd_ne (by decide), dMn_out (by omega)]
          exact e3

