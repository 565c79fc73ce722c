theorem pyw {v : Nat → Int32} {o r c : Int32} {p2 : Nat} : dPyW (dPyV v o p2) r c 2 = v 2 ∧ dPyW (dPyV v o p2) r c 3 = nI p2 ∧ dPyW (dPyV v o p2) r c 4 = v 3 ∧ dPyW (dPyV v o p2) r c 5 = r ∧ dPyW (dPyV v o p2) r c 6 = c ∧ dPyW (dPyV v o p2) r c 7 = v 7 + 1 := by
  unfold dPyW dPyV
  refine ⟨?_, ?_, ?_, ?_, ?_, ?_⟩
  · rw [upd_ne (by decide), upd_ne (by decide), upd_ne (by decide), upd_ne (by decide), upd_ne (by decide), upd_ne (by decide)]
  · rw [upd_ne (by decide), upd_ne (by decide), upd_ne (by decide), upd_eq]
  · rw [upd_ne (by decide), upd_ne (by decide), upd_ne (by decide), upd_ne (by decide), upd_ne (by decide), upd_eq]
  · rw [upd_ne (by decide), upd_ne (by decide), upd_eq]
  · rw [upd_ne (by decide), upd_eq]
  · rw [upd_eq, upd_ne (by decide), upd_ne (by decide), upd_ne (by decide)]
theorem dPg_stop {tx : Nat → Int32} {n m : Nat} {a : dSt9} (h : a.1 = 0) : dPg tx n (m + 1) a = a := by
  rw [dPg_s]
  by_cases q : a.2.2.1 2 ≤ a.2.2.1 3
  · rw [if_pos q]
  · rw [if_neg q, if_pos h]
theorem reh_sim {tx tx2 : Nat → Int32} {n : Nat} (hn : n ≤ 60) (ht : ∀ i, i < n → tx i = tx2 i) : ∀ (m k p : Nat) (a : Int32) (nu nu2 : Nat → Int32) (g : zGS) (s v : Nat → Int32) (B : Int), k + m = 60 → k ≤ p → p ≤ n → St B g s → B + (m : Int) ≤ 2000000000 → v 2 = nI n → v 3 = nI p → v 7 = nI k → ((oReh tx (nI n) m k (nI p) a nu g).2.2.2.1 = 0 ∧ (dPg tx2 n (m + 1) (1, p, v, nu2, s)).1 = 1 ∧ (∃ k', k' ≤ 60 ∧ (oReh tx (nI n) m k (nI p) a nu g).1 = nI k' ∧ (dPg tx2 n (m + 1) (1, p, v, nu2, s)).2.2.1 7 = nI k') ∧ St (B + (m : Int)) (oReh tx (nI n) m k (nI p) a nu g).2.2.2.2.2.2 (dPg tx2 n (m + 1) (1, p, v, nu2, s)).2.2.2.2) ∨ (¬ (oReh tx (nI n) m k (nI p) a nu g).2.2.2.1 = 0 ∧ (dPg tx2 n (m + 1) (1, p, v, nu2, s)).1 = 0 ∧ (oReh tx (nI n) m k (nI p) a nu g).2.1 = (dPg tx2 n (m + 1) (1, p, v, nu2, s)).2.2.1 4 ∧ (oReh tx (nI n) m k (nI p) a nu g).2.2.2.1 = (dPg tx2 n (m + 1) (1, p, v, nu2, s)).2.2.1 5 ∧ (oReh tx (nI n) m k (nI p) a nu g).2.2.2.2.1 = (dPg tx2 n (m + 1) (1, p, v, nu2, s)).2.2.1 6 ∧ gOk (oReh tx (nI n) m k (nI p) a nu g).2.2.2.2.2.2.1) := by
  intro m
  induction m with
  | zero =>
    intro k p a nu nu2 g s v B hk hkp hp hS hB h2 h3 h7
    have ep : p = n := by omega
    have e : dPg tx2 n (0 + 1) (1, p, v, nu2, s) = (1, p, v, nu2, s) := by
      rw [dPg_s, if_pos]
      show v 2 ≤ v 3
      rw [h2, h3, ep]
      exact tle.mpr (Int.le_refl _)
    rw [e]
    exact .inl ⟨rfl, rfl, ⟨k, by omega, rfl, h7⟩, St_mono hS (by omega)⟩
  | succ m ih =>
    intro k p a nu nu2 g s v B hk hkp hp hS hB h2 h3 h7
    have l1 : nI n ≤ nI p ↔ n ≤ p := by
      rw [tle, tnI (by omega), tnI (by omega)]
      omega
    have eC : oReh tx (nI n) (m + 1) k (nI p) a nu g = if nI n ≤ nI p then (nI k, nI p, a, 0, 0, nu, g) else if (oRead tx (nI n) (nI p) nu).1 = 0 then (nI k, nI p, (oRead tx (nI n) (nI p) nu).2.1, 1, (oRead tx (nI n) (nI p) nu).2.1 - nI p, (oRead tx (nI n) (nI p) nu).2.2, g) else if 0 ≤ (oPerf (oSign tx (nI n) (nI p)) (oRead tx (nI n) (nI p) nu).2.2 g).1 then oReh tx (nI n) m (k + 1) (oRead tx (nI n) (nI p) nu).2.1 (oRead tx (nI n) (nI p) nu).2.1 (oRead tx (nI n) (nI p) nu).2.2 (oPerf (oSign tx (nI n) (nI p)) (oRead tx (nI n) (nI p) nu).2.2 g).2 else (nI k, nI p, (oRead tx (nI n) (nI p) nu).2.1, 2, (oPerf (oSign tx (nI n) (nI p)) (oRead tx (nI n) (nI p) nu).2.2 g).1, (oRead tx (nI n) (nI p) nu).2.2, (oPerf (oSign tx (nI n) (nI p)) (oRead tx (nI n) (nI p) nu).2.2 g).2) := rfl
    have og : gOk g.1 := by
      obtain ⟨mc, bk, r, o, i⟩ := hS
      exact o
    by_cases z : n ≤ p
    · have e : dPg tx2 n (m + 1 + 1) (1, p, v, nu2, s) = (1, p, v, nu2, s) := by
        rw [dPg_s, if_pos]
        show v 2 ≤ v 3
        rw [h2, h3]
        exact l1.mpr z
      rw [eC, if_pos (l1.mpr z), e]
      exact .inl ⟨rfl, rfl, ⟨k, by omega, rfl, h7⟩, St_mono hS (by omega)⟩
    · have e : dPg tx2 n (m + 1 + 1) (1, p, v, nu2, s) = dPg tx2 n (m + 1) (dPyS tx2 n (1, p, v, nu2, s)) := by
        rw [dPg_s, if_neg, if_neg]
        · show ¬ (1 : Int32) = 0
          decide
        · show ¬ v 2 ≤ v 3
          rw [h2, h3]
          exact fun w => z (l1.mp w)
      obtain ⟨r1, r2, r3, r4⟩ := read_sim (nu := nu) (nu2 := nu2) hn (show p < n by omega) ht
      have hle : (dReads tx2 n p nu2).2.1 ≤ n := dReads_le hn hp
      rw [eC, if_neg (fun w => z (l1.mp w)), e, r1]
      by_cases c1 : (dReads tx2 n p nu2).1 = 0
      · have eS : dPyS tx2 n (1, p, v, nu2, s) = (0, (dReads tx2 n p nu2).2.1, dPyW (dPyV v (dOr tx2 n p) (dReads tx2 n p nu2).2.1) 1 (nI (dReads tx2 n p nu2).2.1 - v 3), (dReads tx2 n p nu2).2.2, s) := if_pos c1
        obtain ⟨w2, w3, w4, w5, w6, w7⟩ := pyw (v := v) (o := dOr tx2 n p) (r := 1) (c := nI (dReads tx2 n p nu2).2.1 - v 3) (p2 := (dReads tx2 n p nu2).2.1)
        rw [if_pos c1, eS, dPg_stop rfl]
        dsimp only
        rw [w4, w5, w6, h3, r2]
        exact .inr ⟨by decide, rfl, rfl, rfl, rfl, og⟩
      · obtain ⟨q1, q2, K, k0, k3, q3, q4⟩ := r4 c1
        obtain ⟨pc, po⟩ := perf_chg (o := dOr tx2 n p) (nu := (oRead tx (nI n) (nI p) nu).2.2) (nu2 := (dReads tx2 n p nu2).2.2) hS (by omega) q3 q4 k0 k3
        have eS : dPyS tx2 n (1, p, v, nu2, s) = ((if (dCall s (dOr tx2 n p) (dReads tx2 n p nu2).2.2).1 < 0 then 0 else 1), (dReads tx2 n p nu2).2.1, dPyW (dPyV v (dOr tx2 n p) (dReads tx2 n p nu2).2.1) 2 (dCall s (dOr tx2 n p) (dReads tx2 n p nu2).2.2).1, (dReads tx2 n p nu2).2.2, (dCall s (dOr tx2 n p) (dReads tx2 n p nu2).2.2).2.2) := if_neg c1
        rw [if_neg c1, eS, q2, r2]
        obtain ⟨x1, x2, x3⟩ := pc
        obtain ⟨w2, w3, w4, w5, w6, w7⟩ := pyw (v := v) (o := dOr tx2 n p) (r := 2) (c := (dCall s (dOr tx2 n p) (dReads tx2 n p nu2).2.2).1) (p2 := (dReads tx2 n p nu2).2.1)
        have t0 := tk0
        cases hd : (dCall s (dOr tx2 n p) (dReads tx2 n p nu2).2.2).2.1 with
        | true =>
          obtain ⟨y1, y2⟩ := x2 hd
          have nn : 0 ≤ (oPerf (dOr tx2 n p) (oRead tx (nI n) (nI p) nu).2.2 g).1 := by
            apply tle.mpr
            have : ¬ (oPerf (dOr tx2 n p) (oRead tx (nI n) (nI p) nu).2.2 g).1.toInt < (0 : Int32).toInt := fun w => y1 (tlt.mpr w)
            omega
          rw [if_pos nn, ← x1, if_neg y1]
          have q := ih (k + 1) (dReads tx2 n p nu2).2.1 (nI (dReads tx2 n p nu2).2.1) (oRead tx (nI n) (nI p) nu).2.2 (dReads tx2 n p nu2).2.2 (oPerf (dOr tx2 n p) (oRead tx (nI n) (nI p) nu).2.2 g).2 (dCall s (dOr tx2 n p) (dReads tx2 n p nu2).2.2).2.2 (dPyW (dPyV v (dOr tx2 n p) (dReads tx2 n p nu2).2.1) 2 (oPerf (dOr tx2 n p) (oRead tx (nI n) (nI p) nu).2.2 g).1) (B + 1) (by omega) (by omega) hle y2 (by omega) (by rw [x1, w2, h2]) (by rw [x1, w3]) (by rw [x1, w7, h7]; exact nI_add k 1)
          rw [show B + ((m + 1 : Nat) : Int) = B + 1 + (m : Int) by omega]
          exact q
        | false =>
          have y1 := x3 hd
          have nn : ¬ 0 ≤ (oPerf (dOr tx2 n p) (oRead tx (nI n) (nI p) nu).2.2 g).1 := fun w => by
            have a1 := tle.mp w
            have a2 := tlt.mp y1
            omega
          rw [if_neg nn, if_pos (by rw [← x1]; exact y1), dPg_stop rfl]
          dsimp only
          rw [w4, w5, w6, h3, x1]
          exact .inr ⟨by decide, rfl, rfl, rfl, rfl, po⟩
