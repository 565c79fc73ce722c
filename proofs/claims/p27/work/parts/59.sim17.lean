theorem sim_group {mc bk : Nat} {g : zGS} {s : Nat → Int32} {p d n : Int32} (h : Rl mc bk g s) (hγ : ∀ k, k < 10 → g.1 k < 10) (hinj : ∀ i j, i < 10 → j < 10 → g.1 i = g.1 j → i = j) : Sim mc (bk + 1) (qBook g p d n) (dGroup s bk p d n) := by
  obtain ⟨h1, hb⟩ := h.s1
  have g1 : g.2 1 = nI bk := (h.at (by decide)).symm.trans h1
  have h2 : s 2 = g.2 2 := h.at (by decide)
  have h3 : s 3 = g.2 3 := h.at (by decide)
  have ec : (g.2 1).toNatClampNeg = bk := by rw [g1, nI_clamp (by omega)]
  unfold qBook dGroup
  rw [ec]
  unfold hBook
  by_cases c1 : (zwin p 1 12) = 0
  · rw [if_pos c1, if_pos c1]
    exact Sim_fail (x := -1000001) (g := g) (mc := mc) (bk := bk + 1) (by decide)
  · rw [if_neg c1, if_neg c1]
    by_cases c2 : (zwin d 0 60) = 0
    · rw [if_pos c2, if_pos c2]
      exact Sim_fail (x := -1000001) (g := g) (mc := mc) (bk := bk + 1) (by decide)
    · rw [if_neg c2, if_neg c2]
      by_cases c3 : (zwin n 1 9) = 0
      · rw [if_pos c3, if_pos c3]
        exact Sim_fail (x := -1000001) (g := g) (mc := mc) (bk := bk + 1) (by decide)
      · rw [if_neg c3, if_neg c3, h1, g1]
        by_cases c4 : bk = 10
        · subst c4
          rw [if_neg (show ¬ nI 10 < 10 by decide), if_pos (show nI 10 = 10 by decide)]
          exact Sim_fail (x := -1000003) (g := g) (mc := mc) (bk := 10 + 1) (by decide)
        · have hlt : bk < 10 := by omega
          rw [if_pos (show nI bk < 10 from nI_lt (b := 10) hlt (by decide)), if_neg (show ¬ nI bk = 10 from fun z => c4 ((nI_eq (a := bk) (b := 10) (by omega) (by decide)).mp z))]
          refine ⟨?_, fun _ => ?_, (fun q => Bool.noConfusion q)⟩
          · show g.2 2 = dGr s bk p d n 2 - 1
            rw [dGr_1.2, Int32.add_sub_cancel, h2]
          · show Rl mc (bk + 1) (g.1, hBook1 g.1 bk g.2 p d n) (dGr s bk p d n)
            obtain ⟨r1, r2, r3, r4, e1, e2, e3, e4⟩ := h
            have hgb := hγ bk hlt
            unfold hBook1
            refine ⟨fun i hi => ?_, fun m hm i hi => ?_, fun j hj i hi => ?_, fun q hq => ?_, ?_, e2, ?_, by omega⟩
            · dsimp only
              rw [setR_out (by omega)]
              by_cases z2 : i = 2
              · rw [z2, dGr_1.2, upd_eq, h2]
              · by_cases z1 : i = 1
                · rw [z1, dGr_1.1, upd_ne (by decide), upd_eq, h1, g1]
                · rw [dGr_out (by omega) z1 z2, upd_ne z2, upd_ne z1]
                  exact r1 i hi
            · dsimp only
              rw [setR_out (by omega), dGr_out (by omega) (by omega) (by omega), upd_ne (by omega), upd_ne (by omega)]
              exact r2 m hm i hi
            · dsimp only
              by_cases z : j = bk
              · subst z
                rw [dGr_in hi, setR_in hi, gBegin_at hi, h2, h3]
              · have hne : g.1 j ≠ g.1 bk := fun w9 => z (hinj j bk (by omega) hlt w9)
                rw [dGr_out (by omega) (by omega) (by omega), setR_out (by omega), upd_ne (by omega), upd_ne (by omega)]
                exact r3 j (by omega) i hi
            · dsimp only
              rw [dGr_out (by omega) (by omega) (by omega), setR_out (by omega), upd_ne (by omega), upd_ne (by omega)]
              exact r4 q hq
            · rw [dGr_out (by omega) (by decide) (by decide)]
              exact e1
            · rw [dGr_1.1, h1, nI_1]

