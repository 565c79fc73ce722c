theorem zw_one {x c : Int32} : zwin x c c = 0 ↔ x ≠ c := by
  constructor
  · intro h e
    rw [e] at h
    unfold zwin at h
    rw [if_neg (fun z => by have := tlt.mp z; omega), if_neg (fun z => by have := tlt.mp z; omega)] at h
    exact absurd h (by decide)
  · intro h
    apply Classical.byContradiction
    intro q
    have w := zw_t q
    exact h (tinj (by omega))
theorem sep_sim {tx tx2 : Nat → Int32} {n q : Nat} {c : Int32} (hn : n ≤ 60) (hq : q ≤ 200) (ht : ∀ i, i < n → tx i = tx2 i) (hc : c ≠ -1) : oSign tx (nI n) (nI q) = c ↔ ¬ dAt tx2 n q c c = 0 := by
  rw [sg_at hn hq ht, at_at hn hq]
  by_cases z : n ≤ q
  · rw [if_pos z, if_pos z]
    exact ⟨fun h => absurd h.symm hc, fun h => absurd rfl h⟩
  · rw [if_neg z, if_neg z, zw_one]
    exact ⟨fun h w => w h, fun h => Classical.byContradiction h⟩
theorem ord_sim {tx tx2 : Nat → Int32} {n Pn : Nat} (hn : n ≤ 60) (hP : Pn ≤ 3) (ht : ∀ i, i < n → tx i = tx2 i) : ∀ m k p (nu nu2 : Nat → Int32), k + m + 1 = Pn → p ≤ n → (∀ i, i < k → nu i = nu2 i) → (oOrd tx (nI n) (nI Pn) (m + 1) k (nI p) nu).1 = (dRd tx2 n m (k + 1) (dNum tx2 n k p nu2)).1 ∧ (oOrd tx (nI n) (nI Pn) (m + 1) k (nI p) nu).2.1 = nI (dRd tx2 n m (k + 1) (dNum tx2 n k p nu2)).2.1 ∧ (¬ (dRd tx2 n m (k + 1) (dNum tx2 n k p nu2)).1 = 0 → ∀ i, i < Pn → (oOrd tx (nI n) (nI Pn) (m + 1) k (nI p) nu).2.2 i = (dRd tx2 n m (k + 1) (dNum tx2 n k p nu2)).2.2 i) ∧ p ≤ (dRd tx2 n m (k + 1) (dNum tx2 n k p nu2)).2.1 := by
  intro m
  induction m with
  | zero =>
    intro k p nu nu2 hk hp hnu
    obtain ⟨j, hj, r1, r2, r3, r4⟩ := rd_sim hn (show p ≤ 60 by omega) ht k nu2
    have hle : (dNum tx2 n k p nu2).2.1 ≤ n := dNum_le hn hp
    have e1 : oOrd tx (nI n) (nI Pn) (0 + 1) k (nI p) nu = if oDig (oRd tx (nI n) (nI p)).2.2 = 0 then (0, (oRd tx (nI n) (nI p)).2.1, upd nu k (oRd tx (nI n) (nI p)).1) else if oSign tx (nI n) (oRd tx (nI n) (nI p)).2.1 = oSep (nI Pn) k then (1, (oRd tx (nI n) (nI p)).2.1 + 1, upd nu k (oRd tx (nI n) (nI p)).1) else (0, (oRd tx (nI n) (nI p)).2.1, upd nu k (oRd tx (nI n) (nI p)).1) := rfl
    have es : oSep (nI Pn) k = 59 := by
      unfold oSep
      rw [if_pos]
      rw [nI_pred' (by omega), show Pn - 1 = k by omega]
    have agree : ∀ i, i < Pn → upd nu k (oRd tx (nI n) (nI p)).1 i = (dNum tx2 n k p nu2).2.2 i := by
      intro i hi
      rw [r4]
      by_cases e : i = k
      · rw [e, upd_eq, upd_eq]
      · rw [upd_ne e, upd_ne e]
        exact hnu i (by omega)
    rw [e1, dRd_0, es, r1, r3]
    by_cases c1 : (dNum tx2 n k p nu2).1 = 0
    · rw [if_pos c1, if_pos c1]
      exact ⟨rfl, by show nI (p + j) = nI (dNum tx2 n k p nu2).2.1; rw [r2], fun z => absurd rfl z, by show p ≤ (dNum tx2 n k p nu2).2.1; omega⟩
    · rw [if_neg c1, if_neg c1]
      have sp := sep_sim (c := 59) hn (show p + j ≤ 200 by omega) ht (by decide)
      rw [← r2] at sp ⊢
      by_cases c2 : dAt tx2 n (dNum tx2 n k p nu2).2.1 59 59 = 0
      · rw [if_pos c2, if_neg (fun z => absurd c2 (sp.mp z))]
        exact ⟨rfl, rfl, fun z => absurd rfl z, by show p ≤ (dNum tx2 n k p nu2).2.1; omega⟩
      · rw [if_neg c2, if_pos (sp.mpr c2)]
        exact ⟨rfl, nI_add _ 1, fun _ => agree, by show p ≤ (dNum tx2 n k p nu2).2.1 + 1; omega⟩
  | succ m ih =>
    intro k p nu nu2 hk hp hnu
    obtain ⟨j, hj, r1, r2, r3, r4⟩ := rd_sim hn (show p ≤ 60 by omega) ht k nu2
    have hle : (dNum tx2 n k p nu2).2.1 ≤ n := dNum_le hn hp
    have e1 : oOrd tx (nI n) (nI Pn) (m + 1 + 1) k (nI p) nu = if oDig (oRd tx (nI n) (nI p)).2.2 = 0 then (0, (oRd tx (nI n) (nI p)).2.1, upd nu k (oRd tx (nI n) (nI p)).1) else if oSign tx (nI n) (oRd tx (nI n) (nI p)).2.1 = oSep (nI Pn) k then oOrd tx (nI n) (nI Pn) (m + 1) (k + 1) ((oRd tx (nI n) (nI p)).2.1 + 1) (upd nu k (oRd tx (nI n) (nI p)).1) else (0, (oRd tx (nI n) (nI p)).2.1, upd nu k (oRd tx (nI n) (nI p)).1) := rfl
    have es : oSep (nI Pn) k = 44 := by
      unfold oSep
      rw [if_neg]
      rw [nI_pred' (by omega)]
      exact fun z => by have := nI_inj4 z (by omega) (by omega); omega
    rw [e1, dRd_s, es, r1, r3]
    by_cases c1 : (dNum tx2 n k p nu2).1 = 0
    · rw [if_pos c1, if_pos c1]
      exact ⟨rfl, by show nI (p + j) = nI (dNum tx2 n k p nu2).2.1; rw [r2], fun z => absurd rfl z, by show p ≤ (dNum tx2 n k p nu2).2.1; omega⟩
    · rw [if_neg c1, if_neg c1]
      have sp := sep_sim (c := 44) hn (show p + j ≤ 200 by omega) ht (by decide)
      rw [← r2] at sp ⊢
      by_cases c2 : dAt tx2 n (dNum tx2 n k p nu2).2.1 44 44 = 0
      · rw [if_pos c2, if_neg (fun z => absurd c2 (sp.mp z))]
        exact ⟨rfl, rfl, fun z => absurd rfl z, by show p ≤ (dNum tx2 n k p nu2).2.1; omega⟩
      · rw [if_neg c2, if_pos (sp.mpr c2)]
        have lt : (dNum tx2 n k p nu2).2.1 < n := by
          rw [at_at hn (by omega)] at c2
          by_cases z : n ≤ (dNum tx2 n k p nu2).2.1
          · rw [if_pos z] at c2
            exact absurd rfl c2
          · omega
        have q := ih (k + 1) ((dNum tx2 n k p nu2).2.1 + 1) (upd nu k (oRd tx (nI n) (nI p)).1) (dNum tx2 n k p nu2).2.2 (by omega) (by omega) (fun i hi => by
          rw [r4]
          by_cases e : i = k
          · rw [e, upd_eq, upd_eq]
          · rw [upd_ne e, upd_ne e]
            exact hnu i (by omega))
        rw [show nI (dNum tx2 n k p nu2).2.1 + 1 = nI ((dNum tx2 n k p nu2).2.1 + 1) from nI_add _ 1]
        exact ⟨q.1, q.2.1, q.2.2.1, by have := q.2.2.2; omega⟩
theorem parts_no (c : Int32) : oParts c = dNo c := rfl
theorem parts_out {c : Int32} (h : zwin c 33 126 = 0) : dNo c = 0 := by
  unfold dNo
  rw [if_neg (fun z => by rw [z] at h; exact absurd h (by decide)), if_neg (fun z => by rw [z] at h; exact absurd h (by decide)), if_neg (fun z => by rw [z] at h; exact absurd h (by decide)), if_neg (fun z => by rw [z] at h; exact absurd h (by decide)), if_neg (fun z => by rw [z] at h; exact absurd h (by decide))]
/-- one order is read: the class as the model -/
theorem read_sim {tx tx2 : Nat → Int32} {n p : Nat} {nu nu2 : Nat → Int32} (hn : n ≤ 60) (hp : p < n) (ht : ∀ i, i < n → tx i = tx2 i) : (oRead tx (nI n) (nI p) nu).1 = (dReads tx2 n p nu2).1 ∧ (oRead tx (nI n) (nI p) nu).2.1 = nI (dReads tx2 n p nu2).2.1 ∧ p ≤ (dReads tx2 n p nu2).2.1 ∧ (¬ (dReads tx2 n p nu2).1 = 0 → p + 1 ≤ (dReads tx2 n p nu2).2.1 ∧ oSign tx (nI n) (nI p) = dOr tx2 n p ∧ ∃ K, 0 < K ∧ K ≤ 3 ∧ dNo (dOr tx2 n p) = nI K ∧ ∀ i, i < K → (oRead tx (nI n) (nI p) nu).2.2 i = (dReads tx2 n p nu2).2.2 i) := by
  have es : oSign tx (nI n) (nI p) = tx2 p := by
    rw [sg_at hn (by omega) ht, if_neg (by omega)]
  have ed : dNo (dOr tx2 n p) = dNo (tx2 p) ∧ (¬ dNo (tx2 p) = 0 → dOr tx2 n p = tx2 p) := by
    unfold dOr
    rw [at_at hn (by omega), if_neg (show ¬ n ≤ p by omega)]
    by_cases z : zwin (tx2 p) 33 126 = 0
    · rw [if_pos z, parts_out z]
      exact ⟨by decide, fun w => absurd rfl w⟩
    · rw [if_neg z]
      exact ⟨rfl, fun _ => rfl⟩
  unfold oRead dReads
  rw [parts_no, es, ed.1]
  by_cases c1 : dNo (tx2 p) = 0
  · rw [if_pos c1, if_pos c1]
    exact ⟨rfl, rfl, Nat.le_refl _, fun z => absurd rfl z⟩
  · rw [if_neg c1, if_neg c1]
    obtain ⟨K, k0, k3, ek⟩ : ∃ K, 0 < K ∧ K ≤ 3 ∧ dNo (tx2 p) = nI K := by
      rcases dNo_3 c1 with e | e | e
      · exact ⟨1, by decide, by decide, e⟩
      · exact ⟨2, by decide, by decide, e⟩
      · exact ⟨3, by decide, by decide, e⟩
    rw [ek, nI_clamp (by omega), show nI p + 1 = nI (p + 1) from nI_add p 1]
    obtain ⟨m, rfl⟩ : ∃ m, K = m + 1 := ⟨K - 1, by omega⟩
    have q := ord_sim (Pn := m + 1) hn k3 ht m 0 (p + 1) nu nu2 (by omega) (by omega) (fun i hi => absurd hi (Nat.not_lt_zero i))
    rw [show m + 1 - 1 = m by omega]
    rw [show (0 : Nat) + 1 = 1 from rfl] at q
    exact ⟨q.1, q.2.1, by have := q.2.2.2; omega, fun z => ⟨q.2.2.2, (ed.2 c1).symm, m + 1, k0, k3, rfl, q.2.2.1 z⟩⟩
