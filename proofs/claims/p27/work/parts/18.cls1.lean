def zBl (w : zW) (cy : Nat → ClassId) (f : zF) (b : Nat) (s : zGS) : Prop := ∀ o, o < 21 → f (b + o) = zHut w cy b s.1 s.2 o
def zOkE (s : zGS) : Prop := ∃ m, m ≤ 4 ∧ zOk m s
abbrev eHL (w : zW) : va_E := .inr (8, [.ref (w.2 1), .ref (w.2 22), .ref (w.2 43), .ref (w.2 129)])
/-- the class's world but for its orders: now, trial, the history's huts, which one stands where, how many -/
def zCl (w : zW) (cy : Nat → ClassId) (f : zF) (s0 s1 : zGS) (hs : Nat → zGS) (δ : Nat → Nat) (k : Nat) : Prop := f 0 = eHL w ∧ zBl w cy f 1 s0 ∧ zBl w cy f 22 s1 ∧ f 43 = eHis w (nI k) ∧ f 44 = eHra w cy δ ∧ zHB w cy f hs
def zInv (s0 s1 : zGS) (hs : Nat → zGS) (δ : Nat → Nat) (k : Nat) : Prop := zOkE s0 ∧ zOkE s1 ∧ (∀ i, i < 4 → zOkE (hs i)) ∧ (∀ j, j < 4 → δ j < 4) ∧ k ≤ 4
theorem zOkE.g {s : zGS} (h : zOkE s) : ∀ k, k < 10 → s.1 k < 10 := by
  obtain ⟨m, _, a, _⟩ := h
  exact a
theorem cp_ok {a s : zGS} (ha : ∀ k, k < 10 → a.1 k < 10) (hs : zOkE s) : zOkE (cp a s) := by
  obtain ⟨m, hm, _, h2, c, h3, h4⟩ := hs
  rw [cp_eq h2 hm h4 h3]
  exact ⟨m, hm, ha, (hCpG_lo c 0 (by decide)).trans h2, c, h3, (hCpG_lo c 1 (by decide)).trans h4⟩
theorem k_copy {l : Launch} {D : va_G} {cy : Nat → ClassId} {w : zW} {f : zF} {b b2 : Nat} {a s : zGS} (hb : b + 21 ≤ w.1) (hb2 : b2 + 21 ≤ w.1) (hd : b2 + 21 ≤ b ∨ b + 21 ≤ b2) (hO1 : zBl w cy f b a) (hO : zBl w cy f b2 s) (ha : ∀ k, k < 10 → a.1 k < 10) (ok : zOkE s) : zSd l D cy yX2_copyFrom cX2_copyFrom 5 none 1 22 [.ref (w.2 b), .ref (w.2 b2)] w f none (zPut f b (zHut w cy b (cp a s).1 (cp a s).2)) := by
  obtain ⟨m, hm, h1, h2, c, h3, h4⟩ := ok
  rw [cp_eq h2 hm h4 h3]
  exact k_Hut_copyFromF hO1 hb hb2 hd hO h2 hm h4 h3 ha h1
def qAdd (s : zGS) (a c : Int32) : Int32 × zGS := ((hAddMule (s.2 0).toNatClampNeg s.2 a c).1, s.1, (hAddMule (s.2 0).toNatClampNeg s.2 a c).2)
theorem k_qAdd {l : Launch} {D : va_G} {cy : Nat → ClassId} {w : zW} {f : zF} {b : Nat} {s : zGS} {a : Int32} {c : Int32} (hb : b + 21 ≤ w.1) (hO : zBl w cy f b s) (ok : zOkE s) : zSd l D cy yX2_addMule cX2_addMule 5 (some .int) 1 22 [.ref (w.2 b), .int a, .int c] w f (some (.int (qAdd s a c).1)) (zPut f b (zHut w cy b (qAdd s a c).2.1 (qAdd s a c).2.2)) := by
  obtain ⟨m9, hm9, h1, h2, c9, h3, h4⟩ := ok
  have r := k_addMuleF (l := l) (D := D) (cy := cy) (w := w) (f := f) (γ := s.1) (σ := s.2) (a := a) (c := c) hO hb h2 hm9 h4 h3 h1
  unfold qAdd; rw [h2, nI_clamp (by omega)]
  exact r
theorem k_qSend {l : Launch} {D : va_G} {cy : Nat → ClassId} {w : zW} {f : zF} {b : Nat} {s : zGS} {x : Int32} {n : Int32} (hb : b + 21 ≤ w.1) (hO : zBl w cy f b s) (ok : zOkE s) : zSd l D cy yX2_sendMule cX2_sendMule 5 (some .int) 2 45 [.ref (w.2 b), .int x, .int n] w f (some (.int (qSend s x n).1)) (zPut f b (zHut w cy b (qSend s x n).2.1 (qSend s x n).2.2)) := by
  obtain ⟨m9, hm9, h1, h2, c9, h3, h4⟩ := ok
  have r := k_sendMuleF (l := l) (D := D) (cy := cy) (w := w) (f := f) (γ := s.1) (σ := s.2) (x := x) (n := n) hO hb h2 hm9 h4 h3 h1
  
  exact r
def qRest (s : zGS) (x : Int32) : Int32 × zGS := ((hRest s.2 x).1, s.1, (hRest s.2 x).2)
theorem k_qRest {l : Launch} {D : va_G} {cy : Nat → ClassId} {w : zW} {f : zF} {b : Nat} {s : zGS} {x : Int32} (hb : b + 21 ≤ w.1) (hO : zBl w cy f b s) (ok : zOkE s) : zSd l D cy yX2_restMule cX2_restMule 4 (some .int) 1 21 [.ref (w.2 b), .int x] w f (some (.int (qRest s x).1)) (zPut f b (zHut w cy b (qRest s x).2.1 (qRest s x).2.2)) := by
  obtain ⟨m9, hm9, h1, h2, c9, h3, h4⟩ := ok
  have r := k_restMuleF (l := l) (D := D) (cy := cy) (w := w) (f := f) (γ := s.1) (σ := s.2) (x := x) hO hb h2 hm9 h4 h3 h1
  
  exact r
theorem k_qPay {l : Launch} {D : va_G} {cy : Nat → ClassId} {w : zW} {f : zF} {b : Nat} {s : zGS} {m : Int32} (hb : b + 21 ≤ w.1) (hO : zBl w cy f b s) (ok : zOkE s) : zSd l D cy yX2_payBaker cX2_payBaker 2 (some .int) 1 22 [.ref (w.2 b), .int m] w f (some (.int (qPay s m).1)) (zPut f b (zHut w cy b (qPay s m).2.1 (qPay s m).2.2)) := by
  obtain ⟨m9, hm9, h1, h2, c9, h3, h4⟩ := ok
  have r := k_payBakerF (l := l) (D := D) (cy := cy) (w := w) (f := f) (γ := s.1) (σ := s.2) (m := m) hO hb h2 hm9 h4 h3 h1
  
  exact r
theorem k_qBook {l : Launch} {D : va_G} {cy : Nat → ClassId} {w : zW} {f : zF} {b : Nat} {s : zGS} {p : Int32} {d : Int32} {n : Int32} (hb : b + 21 ≤ w.1) (hO : zBl w cy f b s) (ok : zOkE s) : zSd l D cy yX2_bookGroup cX2_bookGroup 6 (some .int) 1 24 [.ref (w.2 b), .int p, .int d, .int n] w f (some (.int (qBook s p d n).1)) (zPut f b (zHut w cy b (qBook s p d n).2.1 (qBook s p d n).2.2)) := by
  obtain ⟨m9, hm9, h1, h2, c9, h3, h4⟩ := ok
  have r := k_bookGroupF (l := l) (D := D) (cy := cy) (w := w) (f := f) (γ := s.1) (σ := s.2) (p := p) (d := d) (n := n) hO hb h2 hm9 h4 h3 h1
  unfold qBook; rw [h4, nI_clamp (by omega)]
  exact r
theorem k_qOff {l : Launch} {D : va_G} {cy : Nat → ClassId} {w : zW} {f : zF} {b : Nat} {s : zGS} {x : Int32} (hb : b + 21 ≤ w.1) (hO : zBl w cy f b s) (ok : zOkE s) : zSd l D cy yX2_callOff cX2_callOff 3 (some .int) 2 44 [.ref (w.2 b), .int x] w f (some (.int (qOff s x).1)) (zPut f b (zHut w cy b (qOff s x).2.1 (qOff s x).2.2)) := by
  obtain ⟨m9, hm9, h1, h2, c9, h3, h4⟩ := ok
  have r := k_callOffF (l := l) (D := D) (cy := cy) (w := w) (f := f) (γ := s.1) (σ := s.2) (x := x) hO hb h2 hm9 h4 h3 h1
  unfold qOff; rw [h4, nI_clamp (by omega)]
  exact r
theorem k_qEnd {l : Launch} {D : va_G} {cy : Nat → ClassId} {w : zW} {f : zF} {b : Nat} {s : zGS} {d : Int32} (hb : b + 21 ≤ w.1) (hO : zBl w cy f b s) (ok : zOkE s) : zSd l D cy yX2_endDays cX2_endDays 4 (some .int) 3 77 [.ref (w.2 b), .int d] w f (some (.int (hEnd s d).1)) (zPut f b (zHut w cy b (hEnd s d).2.1 (hEnd s d).2.2)) := by
  obtain ⟨m9, hm9, h1, h2, c9, h3, h4⟩ := ok
  have r := k_endDaysF (l := l) (D := D) (cy := cy) (w := w) (f := f) (γ := s.1) (σ := s.2) (d := d) hO hb h2 hm9 h4 h3 h1
  
  exact r
theorem k_qDay {l : Launch} {D : va_G} {cy : Nat → ClassId} {w : zW} {f : zF} {b : Nat} {s : zGS} (hb : b + 21 ≤ w.1) (hO : zBl w cy f b s) (ok : zOkE s) : zSd l D cy yX2_endDay cX2_endDay 4 none 2 54 [.ref (w.2 b)] w f none (zPut f b (zHut w cy b (hDay s).1 (hDay s).2)) := by
  obtain ⟨m9, hm9, h1, h2, c9, h3, h4⟩ := ok
  rw [hDay_eq h2 hm9 h4 h3]
  exact k_endDayF (γ := s.1) (σ := s.2) hO hb h2 hm9 h4 h3 h1
theorem hDay_ok {s : zGS} (h : zOkE s) : zOkE (hDay s) := by
  obtain ⟨m, hm, h⟩ := h
  exact ⟨m, hm, hDays_ok hm h 1⟩
theorem qEnd_ok {s : zGS} {d : Int32} (h : zOkE s) : zOkE (hEnd s d).2 := by
  obtain ⟨m, hm, h⟩ := h
  exact ⟨m, hm, hEnd_ok hm h⟩
theorem hRest_lo {σ : Nat → Int32} {x : Int32} {i : Nat} (h : i < 5) : (hRest σ x).2 i = σ i := by
  unfold hRest
  split
  · rfl
  · split
    · rfl
    · split
      · exact upd_ne (by omega)
      · rfl
theorem qRest_ok {s : zGS} {x : Int32} (h : zOkE s) : zOkE (qRest s x).2 := by
  obtain ⟨m, hm, a, b, c, d, e⟩ := h
  exact ⟨m, hm, a, (hRest_lo (by decide)).trans b, c, d, (hRest_lo (by decide)).trans e⟩
theorem qAdd_ok {s : zGS} {a c : Int32} (h : zOkE s) : zOkE (qAdd s a c).2 := by
  obtain ⟨m, hm, h1, h2, k, h3, h4⟩ := h
  have key : zOkE (s.1, (hAddMule (s.2 0).toNatClampNeg s.2 a c).2) := by
    unfold hAddMule
    split
    · exact ⟨m, hm, h1, h2, k, h3, h4⟩
    · split
      · exact ⟨m, hm, h1, h2, k, h3, h4⟩
      · split
        · rename_i q
          rw [h2] at q
          have q4 : m < 4 := (nI_ltI (by omega) (show 4 < 2147483648 by decide)).mp q
          refine ⟨m + 1, by omega, h1, ?_, k, h3, ?_⟩
          · show setR (upd s.2 0 (s.2 0 + 1)) _ 9 _ 0 = _
            rw [setR_out (by omega), upd_eq, h2, nI_succ]
          · show setR (upd s.2 0 (s.2 0 + 1)) _ 9 _ 1 = _
            rw [setR_out (by omega), upd_ne (by decide), h4]
        · exact ⟨m, hm, h1, h2, k, h3, h4⟩
  exact key
def qSet (s : zGS) (x y : Int32) : Int32 × zGS := ((sChg (fun i9 => s.2 (15 + i9)) x y).1, s.1, setR s.2 15 4 (sChg (fun i9 => s.2 (15 + i9)) x y).2)
theorem qSet_lo {s : zGS} {x y : Int32} {i : Nat} (h : i < 15) : (qSet s x y).2.2 i = s.2 i := by
  unfold qSet
  exact setR_out (by omega)
theorem qSet_ok {s : zGS} {x y : Int32} (h : zOkE s) : zOkE (qSet s x y).2 := by
  obtain ⟨m, hm, a, b, c, d, e⟩ := h
  refine ⟨m, hm, a, ?_, c, d, ?_⟩
  · exact (qSet_lo (by decide)).trans b
  · exact (qSet_lo (by decide)).trans e
/-! the history's new state -/
def kpJ (k : Nat) : Nat := if k < 4 then k else 3
def kpD (δ : Nat → Nat) (k : Nat) : Nat → Nat := if k < 4 then δ else zDr δ 3
def kpH (hs : Nat → zGS) (δ : Nat → Nat) (k : Nat) (s : zGS) : Nat → zGS := va_up hs (kpD δ k (kpJ k)) (cp (hs (kpD δ k (kpJ k))) s)
theorem zHB_put {w : zW} {cy : Nat → ClassId} {f : zF} {hs : Nat → zGS} {j : Nat} {q : zGS} (hj : j < 4) (h : zHB w cy f hs) : zHB w cy (zPut f (45 + 21 * j) (zHut w cy (45 + 21 * j) q.1 q.2)) (va_up hs j q) := by
  intro i hi o ho
  by_cases e : i = j
  · subst e
    rw [va_up_self]
    exact zPut_in ho
  · rw [va_up_ne _ _ e, zPut_out (by omega)]
    exact h i hi o ho
theorem zHB_fr {w : zW} {cy : Nat → ClassId} {f g : zF} {hs : Nat → zGS} (h : zHB w cy f hs) (hg : ∀ t, 45 ≤ t → t < 129 → g t = f t) : zHB w cy g hs := fun i hi o ho => (hg _ (by omega) (by omega)).trans (h i hi o ho)
theorem k_keep {l : Launch} {D : va_G} {cy : Nat → ClassId} {w : zW} {f : zF} {k : Nat} {hs : Nat → zGS} {δ : Nat → Nat} {s : zGS} (hw : w.1 = 136) (h43 : f 43 = eHis w (nI k)) (h44 : f 44 = eHra w cy δ) (hH : zHB w cy f hs) (hδ : ∀ j, j < 4 → δ j < 4) (h1 : zBl w cy f 1 s) (ok : zOkE s) (okh : ∀ i, i < 4 → zOkE (hs i)) (hk : k ≤ 4) : zSp l D cy yX1_keep cX1_keep 3 none 2 46 [.ref (w.2 43), .ref (w.2 1)] w f (fun r g => r = none ∧ (g 43 = eHis w (nI (kpJ k + 1)) ∧ g 44 = eHra w cy (kpD δ k) ∧ zHB w cy g (kpH hs δ k s)) ∧ ∀ t, (t < 43 ∨ 129 ≤ t) → g t = f t) := by
  obtain ⟨m9, hm9, a1, a2, c9, a3, a4⟩ := ok
  have hγh : ∀ i, i < 4 → ∀ k, k < 10 → (hs i).1 k < 10 := fun i hi => (okh i hi).g
  by_cases h : k < 4
  · have ej : kpJ k = k := if_pos h
    have ed : kpD δ k = δ := if_pos h
    unfold kpH
    rw [ej, ed]
    refine (k_keepA hw h43 h44 hH hδ h1 a2 hm9 a4 a3 a1 hγh h).sp ⟨rfl, ⟨?_, ?_, ?_⟩, ?_⟩
    · rw [va_up_self, nI_succ]
    · rw [va_up_ne _ _ (by decide), zPut_out (by omega)]
      exact h44
    · rw [cp_eq a2 hm9 a4 a3]
      exact zHB_fr (zHB_put (q := ((hs (δ k)).1, hCpG m9 (hs (δ k)).1 s.1 (hs (δ k)).2 s.2 c9)) (hδ k h) hH) (fun t h1 h2 => va_up_ne _ _ (by omega))
    · intro t ht
      have := hδ k h
      rw [va_up_ne _ _ (by omega), zPut_out (by omega)]
  · have e4 : k = 4 := by omega
    subst e4
    have ej : kpJ 4 = 3 := if_neg h
    have ed : kpD δ 4 = zDr δ 3 := if_neg h
    unfold kpH
    rw [ej, ed]
    have hq := zDr_lt hδ 3 (Nat.le_refl _) 3 (by decide)
    refine (k_keepB hw h43 h44 hH hδ h1 a2 hm9 a4 a3 a1 hγh).sp ⟨rfl, ⟨?_, ?_, ?_⟩, ?_⟩
    · rw [va_up_self]
      rfl
    · rw [va_up_ne _ _ (by decide), zPut_out (by omega), va_up_ne _ _ (by decide), va_up_self]
    · rw [cp_eq a2 hm9 a4 a3]
      refine zHB_fr (zHB_put (q := ((hs ((zDr δ 3) 3)).1, hCpG m9 (hs ((zDr δ 3) 3)).1 s.1 (hs ((zDr δ 3) 3)).2 s.2 c9)) hq (zHB_fr hH (fun t h1 h2 => ?_))) (fun t h1 h2 => va_up_ne _ _ (by omega))
      rw [va_up_ne _ _ (by omega), va_up_ne _ _ (by omega)]
    · intro t ht
      rw [va_up_ne _ _ (by omega), zPut_out (by omega), va_up_ne _ _ (by omega), va_up_ne _ _ (by omega)]
def tkS (x : Int32) (s0 s1 : zGS) : zGS := if x < 0 then s0 else cp s0 s1
def tkH (x : Int32) (hs : Nat → zGS) (δ : Nat → Nat) (k : Nat) (s : zGS) : Nat → zGS := if x < 0 then hs else kpH hs δ k s
def tkD (x : Int32) (δ : Nat → Nat) (k : Nat) : Nat → Nat := if x < 0 then δ else kpD δ k
def tkN (x : Int32) (k : Nat) : Nat := if x < 0 then k else kpJ k + 1
set_option maxHeartbeats 4000000 in
set_option maxRecDepth 100000 in
theorem k_takeOver {l : Launch} {D : va_G} {cy : Nat → ClassId} {w : zW} {f : zF} {s0 s1 : zGS} {hs : Nat → zGS} {δ : Nat → Nat} {k : Nat} {x : Int32} (hw : w.1 = 136) (hc : zCl w cy f s0 s1 hs δ k) (hi : zInv s0 s1 hs δ k) : zSp l D cy yX8_takeOver cX8_takeOver 2 (some .int) 3 68 [.ref (w.2 (0)), .int (x)] w f (fun r g => r = some (.int x) ∧ zCl w cy g (tkS x s0 s1) s1 (tkH x hs δ k s0) (tkD x δ k) (tkN x k) ∧ ∀ t, 129 ≤ t → g t = f t) := by
  refine zSp.intro (by decide) (Nat.le_of_ble_eq_true rfl) (fun G X E => ?_)
  show G (w, 0, 0) f [(0, .ref (w.2 (0))), (1, .int (x))] 0 []
  refine zr_iload_n X 1 dX8_takeOver_0 rfl rfl ?_
  refine zr_if_lt X (tgt := 26) dX8_takeOver_1 (by decide) (fun h1 => ?_) (fun h2 => ?_)
  · refine zr_iload_n X 1 dX8_takeOver_26 rfl rfl ?_
    refine zretp_i E rfl dX8_takeOver_27 ⟨rfl, ?_, fun _ _ => rfl⟩
    unfold tkS tkH tkD tkN
    rw [if_pos h1, if_pos h1, if_pos h1, if_pos h1]
    exact hc
  · refine zr_aload_n X 0 dX8_takeOver_4 rfl rfl ?_
    refine zr_get X zfd_RX8_22 (0) (show 0 < w.1 by rw [hw]; omega) hc.1 (v := .ref (w.2 (43))) rfl dX8_takeOver_5 ?_
    refine zr_aload_n X 0 dX8_takeOver_8 rfl rfl ?_
    refine zr_get X zfd_RX8_10 (0) (show 0 < w.1 by rw [hw]; omega) hc.1 (v := .ref (w.2 (1))) rfl dX8_takeOver_9 ?_
    refine zr_cVp X (As := [.ref (w.2 (1))]) (rest := []) zc_X1_keep (43) (show 43 < w.1 by rw [hw]; omega) hc.2.2.2.1 (q9 := _) rfl rfl (k_keep hw hc.2.2.2.1 hc.2.2.2.2.1 hc.2.2.2.2.2 hi.2.2.2.1 hc.2.1 hi.1 hi.2.2.1 hi.2.2.2.2) ⟨Nat.le_of_ble_eq_true rfl, Nat.le_of_ble_eq_true rfl⟩ ⟨Nat.le_refl _, Nat.le_refl _⟩ rfl (Nat.le_of_ble_eq_true rfl) zm_2_115 rfl dX8_takeOver_12 (fun r1 g1 hp => ?_)
    obtain ⟨rfl, p2, p3⟩ := hp
    show G (w, 0, 0) (g1) [(0, .ref (w.2 (0))), (1, .int (x))] 15 []
    refine zr_aload_n X 0 dX8_takeOver_15 rfl rfl ?_
    refine zr_get X zfd_RX8_10 (0) (show 0 < w.1 by rw [hw]; omega) ((p3 0 (by decide)).trans hc.1) (v := .ref (w.2 (1))) rfl dX8_takeOver_16 ?_
    refine zr_aload_n X 0 dX8_takeOver_19 rfl rfl ?_
    refine zr_get X zfd_RX8_16 (0) (show 0 < w.1 by rw [hw]; omega) ((p3 0 (by decide)).trans hc.1) (v := .ref (w.2 (22))) rfl dX8_takeOver_20 ?_
    refine zr_cV X (As := [.ref (w.2 (22))]) (rest := []) (f' := zPut g1 (1) (zHut w cy (1) ((cp s0 s1).1) ((cp s0 s1).2))) (st' := []) zc_X2_copyFrom (1) (show 1 < w.1 by rw [hw]; omega) ((fun o ho => (p3 _ (by omega)).trans (hc.2.1 o ho)) (0) (by omega)) (q9 := _) rfl rfl (k_copy (show 1 + 21 ≤ w.1 by rw [hw]; omega) (show 22 + 21 ≤ w.1 by rw [hw]; omega) (by omega) (fun o ho => ((fun o ho => (p3 _ (by omega)).trans (hc.2.1 o ho)) o ho)) (fun o ho => ((fun o ho => (p3 _ (by omega)).trans (hc.2.2.1 o ho)) o ho)) (hi.1).g hi.2.1) ⟨Nat.le_of_ble_eq_true rfl, Nat.le_of_ble_eq_true rfl⟩ ⟨Nat.le_refl _, Nat.le_refl _⟩ rfl (Nat.le_of_ble_eq_true rfl) zm_2_74 rfl dX8_takeOver_23 rfl ?_
    refine zr_iload_n X 1 dX8_takeOver_26 rfl rfl ?_
    refine zretp_i E rfl dX8_takeOver_27 ⟨rfl, ?_, fun t ht => (zPut_out (by omega)).trans (p3 t (by omega))⟩
    unfold tkS tkH tkD tkN
    rw [if_neg h2, if_neg h2, if_neg h2, if_neg h2]
    exact ⟨((zPut_out (by omega)).trans ((p3 0 (by decide)).trans hc.1)), fun o ho => (zPut_in ho), fun o ho => ((zPut_out (by omega)).trans ((fun o ho => (p3 _ (by omega)).trans (hc.2.2.1 o ho)) o ho)), ((zPut_out (by omega)).trans p2.1), ((zPut_out (by omega)).trans p2.2.1), zHB_fr p2.2.2 (fun t h1 h2 => zPut_out (by omega))⟩
/-- behind a change: q is the answer and the trial hut then -/
def zChg (w : zW) (cy : Nat → ClassId) (f : zF) (s0 : zGS) (hs : Nat → zGS) (δ : Nat → Nat) (k : Nat) (q : Int32 × zGS) : Option Value → zF → Prop := fun r g => r = some (.int q.1) ∧ zCl w cy g (tkS q.1 s0 q.2) q.2 (tkH q.1 hs δ k s0) (tkD q.1 δ k) (tkN q.1 k) ∧ ∀ t, 129 ≤ t → g t = f t
theorem qSendE {s : zGS} {x n : Int32} (h : zOkE s) : zOkE (qSend s x n).2 := by
  obtain ⟨m, hm, h⟩ := h
  exact ⟨m, hm, qSend_ok h⟩
theorem qPayE {s : zGS} {m : Int32} (h : zOkE s) : zOkE (qPay s m).2 := by
  obtain ⟨m, hm, h⟩ := h
  exact ⟨m, hm, qPay_ok h⟩
theorem qBookE {s : zGS} {p d n : Int32} (h : zOkE s) : zOkE (qBook s p d n).2 := by
  obtain ⟨m, hm, h⟩ := h
  exact ⟨m, hm, qBook_ok h⟩
theorem qOffE {s : zGS} {x : Int32} (h : zOkE s) : zOkE (qOff s x).2 := by
  obtain ⟨m, hm, h⟩ := h
  exact ⟨m, hm, qOff_ok h⟩
set_option maxHeartbeats 4000000 in
set_option maxRecDepth 100000 in
theorem k_mule {l : Launch} {D : va_G} {cy : Nat → ClassId} {w : zW} {f : zF} {s0 s1 : zGS} {hs : Nat → zGS} {δ : Nat → Nat} {k : Nat} {a : Int32} {c : Int32} (hw : w.1 = 136) (hc : zCl w cy f s0 s1 hs δ k) (hi : zInv s0 s1 hs δ k) : zSp l D cy yX8_mule cX8_mule 3 (some .int) 4 89 [.ref (w.2 (0)), .int (a), .int (c)] w f (zChg w cy f s0 hs δ k (qAdd (cp s1 s0) a c)) := by
  refine zSp.intro (by decide) (Nat.le_of_ble_eq_true rfl) (fun G X E => ?_)
  show G (w, 0, 0) f [(0, .ref (w.2 (0))), (1, .int (a)), (2, .int (c))] 0 []
  refine zr_aload_n X 0 dX8_mule_0 rfl rfl ?_
  refine zr_get X zfd_RX8_16 (0) (show 0 < w.1 by rw [hw]; omega) hc.1 (v := .ref (w.2 (22))) rfl dX8_mule_1 ?_
  refine zr_aload_n X 0 dX8_mule_4 rfl rfl ?_
  refine zr_get X zfd_RX8_10 (0) (show 0 < w.1 by rw [hw]; omega) hc.1 (v := .ref (w.2 (1))) rfl dX8_mule_5 ?_
  refine zr_cV X (As := [.ref (w.2 (1))]) (rest := []) (f' := zPut f (22) (zHut w cy (22) ((cp s1 s0).1) ((cp s1 s0).2))) (st' := []) zc_X2_copyFrom (22) (show 22 < w.1 by rw [hw]; omega) (hc.2.2.1 (0) (by omega)) (q9 := _) rfl rfl (k_copy (show 22 + 21 ≤ w.1 by rw [hw]; omega) (show 1 + 21 ≤ w.1 by rw [hw]; omega) (by omega) (fun o ho => (hc.2.2.1 o ho)) (fun o ho => (hc.2.1 o ho)) (hi.2.1).g hi.1) ⟨Nat.le_of_ble_eq_true rfl, Nat.le_of_ble_eq_true rfl⟩ ⟨Nat.le_refl _, Nat.le_refl _⟩ rfl (Nat.le_of_ble_eq_true rfl) zm_2_74 rfl dX8_mule_8 rfl ?_
  refine zr_aload_n X 0 dX8_mule_11 rfl rfl ?_
  refine zr_aload_n X 0 dX8_mule_12 rfl rfl ?_
  refine zr_get X zfd_RX8_16 (0) (show 0 < w.1 by rw [hw]; omega) ((zPut_out (by omega)).trans hc.1) (v := .ref (w.2 (22))) rfl dX8_mule_13 ?_
  refine zr_iload_n X 1 dX8_mule_16 rfl rfl ?_
  refine zr_iload_n X 2 dX8_mule_17 rfl rfl ?_
  refine zr_cV X (As := [.int (a), .int (c)]) (rest := [.ref (w.2 (0))]) (f' := zPut (zPut f (22) (zHut w cy (22) ((cp s1 s0).1) ((cp s1 s0).2))) (22) (zHut w cy (22) ((qAdd (cp s1 s0) a c).2.1) ((qAdd (cp s1 s0) a c).2.2))) (st' := [.int ((qAdd (cp s1 s0) a c).1), .ref (w.2 (0))]) zc_X2_addMule (22) (show 22 < w.1 by rw [hw]; omega) (zPut_in (o := 0) (by omega)) (q9 := _) rfl rfl (k_qAdd (show 22 + 21 ≤ w.1 by rw [hw]; omega) (fun o ho => (zPut_in ho)) (cp_ok hi.2.1.g hi.1)) ⟨Nat.le_of_ble_eq_true rfl, Nat.le_of_ble_eq_true rfl⟩ ⟨Nat.le_refl _, Nat.le_refl _⟩ rfl (Nat.le_of_ble_eq_true rfl) zm_2_102 rfl dX8_mule_18 rfl ?_
  rw [zPut_put]
  refine zr_cVp X (As := [.int ((qAdd (cp s1 s0) a c).1)]) (rest := []) zc_X8_takeOver (0) (show 0 < w.1 by rw [hw]; omega) ((zPut_out (by omega)).trans hc.1) (q9 := _) rfl rfl (k_takeOver (s1 := (qAdd (cp s1 s0) a c).2) hw ⟨((zPut_out (by omega)).trans hc.1), fun o ho => ((zPut_out (by omega)).trans (hc.2.1 o ho)), fun o ho => (zPut_in ho), ((zPut_out (by omega)).trans hc.2.2.2.1), ((zPut_out (by omega)).trans hc.2.2.2.2.1), (fun i hi9 o ho => ((zPut_out (by omega)).trans (hc.2.2.2.2.2 i hi9 o ho)))⟩ ⟨hi.1, (qAdd_ok (cp_ok hi.2.1.g hi.1)), hi.2.2⟩) ⟨Nat.le_of_ble_eq_true rfl, Nat.le_of_ble_eq_true rfl⟩ ⟨Nat.le_refl _, Nat.le_refl _⟩ rfl (Nat.le_of_ble_eq_true rfl) zm_2_111 rfl dX8_mule_21 (fun r1 g1 hp => ?_)
  obtain ⟨rfl, p2, p3⟩ := hp
  show G (w, 0, 0) (g1) [(0, .ref (w.2 (0))), (1, .int (a)), (2, .int (c))] 24 [.int ((qAdd (cp s1 s0) a c).1)]
  exact zretp_i E rfl dX8_mule_24 ⟨rfl, p2, fun t ht => (p3 t ht).trans (zPut_out (by omega))⟩
set_option maxHeartbeats 4000000 in
set_option maxRecDepth 100000 in
theorem k_send {l : Launch} {D : va_G} {cy : Nat → ClassId} {w : zW} {f : zF} {s0 s1 : zGS} {hs : Nat → zGS} {δ : Nat → Nat} {k : Nat} {x : Int32} {n : Int32} (hw : w.1 = 136) (hc : zCl w cy f s0 s1 hs δ k) (hi : zInv s0 s1 hs δ k) : zSp l D cy yX8_send cX8_send 3 (some .int) 4 89 [.ref (w.2 (0)), .int (x), .int (n)] w f (zChg w cy f s0 hs δ k (qSend (cp s1 s0) x n)) := by
  refine zSp.intro (by decide) (Nat.le_of_ble_eq_true rfl) (fun G X E => ?_)
  show G (w, 0, 0) f [(0, .ref (w.2 (0))), (1, .int (x)), (2, .int (n))] 0 []
  refine zr_aload_n X 0 dX8_send_0 rfl rfl ?_
  refine zr_get X zfd_RX8_16 (0) (show 0 < w.1 by rw [hw]; omega) hc.1 (v := .ref (w.2 (22))) rfl dX8_send_1 ?_
  refine zr_aload_n X 0 dX8_send_4 rfl rfl ?_
  refine zr_get X zfd_RX8_10 (0) (show 0 < w.1 by rw [hw]; omega) hc.1 (v := .ref (w.2 (1))) rfl dX8_send_5 ?_
  refine zr_cV X (As := [.ref (w.2 (1))]) (rest := []) (f' := zPut f (22) (zHut w cy (22) ((cp s1 s0).1) ((cp s1 s0).2))) (st' := []) zc_X2_copyFrom (22) (show 22 < w.1 by rw [hw]; omega) (hc.2.2.1 (0) (by omega)) (q9 := _) rfl rfl (k_copy (show 22 + 21 ≤ w.1 by rw [hw]; omega) (show 1 + 21 ≤ w.1 by rw [hw]; omega) (by omega) (fun o ho => (hc.2.2.1 o ho)) (fun o ho => (hc.2.1 o ho)) (hi.2.1).g hi.1) ⟨Nat.le_of_ble_eq_true rfl, Nat.le_of_ble_eq_true rfl⟩ ⟨Nat.le_refl _, Nat.le_refl _⟩ rfl (Nat.le_of_ble_eq_true rfl) zm_2_74 rfl dX8_send_8 rfl ?_
  refine zr_aload_n X 0 dX8_send_11 rfl rfl ?_
  refine zr_aload_n X 0 dX8_send_12 rfl rfl ?_
  refine zr_get X zfd_RX8_16 (0) (show 0 < w.1 by rw [hw]; omega) ((zPut_out (by omega)).trans hc.1) (v := .ref (w.2 (22))) rfl dX8_send_13 ?_
  refine zr_iload_n X 1 dX8_send_16 rfl rfl ?_
  refine zr_iload_n X 2 dX8_send_17 rfl rfl ?_
  refine zr_cV X (As := [.int (x), .int (n)]) (rest := [.ref (w.2 (0))]) (f' := zPut (zPut f (22) (zHut w cy (22) ((cp s1 s0).1) ((cp s1 s0).2))) (22) (zHut w cy (22) ((qSend (cp s1 s0) x n).2.1) ((qSend (cp s1 s0) x n).2.2))) (st' := [.int ((qSend (cp s1 s0) x n).1), .ref (w.2 (0))]) zc_X2_sendMule (22) (show 22 < w.1 by rw [hw]; omega) (zPut_in (o := 0) (by omega)) (q9 := _) rfl rfl (k_qSend (show 22 + 21 ≤ w.1 by rw [hw]; omega) (fun o ho => (zPut_in ho)) (cp_ok hi.2.1.g hi.1)) ⟨Nat.le_of_ble_eq_true rfl, Nat.le_of_ble_eq_true rfl⟩ ⟨Nat.le_refl _, Nat.le_refl _⟩ rfl (Nat.le_of_ble_eq_true rfl) zm_2_129 rfl dX8_send_18 rfl ?_
  rw [zPut_put]
  refine zr_cVp X (As := [.int ((qSend (cp s1 s0) x n).1)]) (rest := []) zc_X8_takeOver (0) (show 0 < w.1 by rw [hw]; omega) ((zPut_out (by omega)).trans hc.1) (q9 := _) rfl rfl (k_takeOver (s1 := (qSend (cp s1 s0) x n).2) hw ⟨((zPut_out (by omega)).trans hc.1), fun o ho => ((zPut_out (by omega)).trans (hc.2.1 o ho)), fun o ho => (zPut_in ho), ((zPut_out (by omega)).trans hc.2.2.2.1), ((zPut_out (by omega)).trans hc.2.2.2.2.1), (fun i hi9 o ho => ((zPut_out (by omega)).trans (hc.2.2.2.2.2 i hi9 o ho)))⟩ ⟨hi.1, (qSendE (cp_ok hi.2.1.g hi.1)), hi.2.2⟩) ⟨Nat.le_of_ble_eq_true rfl, Nat.le_of_ble_eq_true rfl⟩ ⟨Nat.le_refl _, Nat.le_refl _⟩ rfl (Nat.le_of_ble_eq_true rfl) zm_2_111 rfl dX8_send_21 (fun r1 g1 hp => ?_)
  obtain ⟨rfl, p2, p3⟩ := hp
  show G (w, 0, 0) (g1) [(0, .ref (w.2 (0))), (1, .int (x)), (2, .int (n))] 24 [.int ((qSend (cp s1 s0) x n).1)]
  exact zretp_i E rfl dX8_send_24 ⟨rfl, p2, fun t ht => (p3 t ht).trans (zPut_out (by omega))⟩
set_option maxHeartbeats 4000000 in
set_option maxRecDepth 100000 in
theorem k_rest {l : Launch} {D : va_G} {cy : Nat → ClassId} {w : zW} {f : zF} {s0 s1 : zGS} {hs : Nat → zGS} {δ : Nat → Nat} {k : Nat} {x : Int32} (hw : w.1 = 136) (hc : zCl w cy f s0 s1 hs δ k) (hi : zInv s0 s1 hs δ k) : zSp l D cy yX8_rest cX8_rest 2 (some .int) 4 89 [.ref (w.2 (0)), .int (x)] w f (zChg w cy f s0 hs δ k (qRest (cp s1 s0) x)) := by
  refine zSp.intro (by decide) (Nat.le_of_ble_eq_true rfl) (fun G X E => ?_)
  show G (w, 0, 0) f [(0, .ref (w.2 (0))), (1, .int (x))] 0 []
  refine zr_aload_n X 0 dX8_rest_0 rfl rfl ?_
  refine zr_get X zfd_RX8_16 (0) (show 0 < w.1 by rw [hw]; omega) hc.1 (v := .ref (w.2 (22))) rfl dX8_rest_1 ?_
  refine zr_aload_n X 0 dX8_rest_4 rfl rfl ?_
  refine zr_get X zfd_RX8_10 (0) (show 0 < w.1 by rw [hw]; omega) hc.1 (v := .ref (w.2 (1))) rfl dX8_rest_5 ?_
  refine zr_cV X (As := [.ref (w.2 (1))]) (rest := []) (f' := zPut f (22) (zHut w cy (22) ((cp s1 s0).1) ((cp s1 s0).2))) (st' := []) zc_X2_copyFrom (22) (show 22 < w.1 by rw [hw]; omega) (hc.2.2.1 (0) (by omega)) (q9 := _) rfl rfl (k_copy (show 22 + 21 ≤ w.1 by rw [hw]; omega) (show 1 + 21 ≤ w.1 by rw [hw]; omega) (by omega) (fun o ho => (hc.2.2.1 o ho)) (fun o ho => (hc.2.1 o ho)) (hi.2.1).g hi.1) ⟨Nat.le_of_ble_eq_true rfl, Nat.le_of_ble_eq_true rfl⟩ ⟨Nat.le_refl _, Nat.le_refl _⟩ rfl (Nat.le_of_ble_eq_true rfl) zm_2_74 rfl dX8_rest_8 rfl ?_
  refine zr_aload_n X 0 dX8_rest_11 rfl rfl ?_
  refine zr_aload_n X 0 dX8_rest_12 rfl rfl ?_
  refine zr_get X zfd_RX8_16 (0) (show 0 < w.1 by rw [hw]; omega) ((zPut_out (by omega)).trans hc.1) (v := .ref (w.2 (22))) rfl dX8_rest_13 ?_
  refine zr_iload_n X 1 dX8_rest_16 rfl rfl ?_
  refine zr_cV X (As := [.int (x)]) (rest := [.ref (w.2 (0))]) (f' := zPut (zPut f (22) (zHut w cy (22) ((cp s1 s0).1) ((cp s1 s0).2))) (22) (zHut w cy (22) ((qRest (cp s1 s0) x).2.1) ((qRest (cp s1 s0) x).2.2))) (st' := [.int ((qRest (cp s1 s0) x).1), .ref (w.2 (0))]) zc_X2_restMule (22) (show 22 < w.1 by rw [hw]; omega) (zPut_in (o := 0) (by omega)) (q9 := _) rfl rfl (k_qRest (show 22 + 21 ≤ w.1 by rw [hw]; omega) (fun o ho => (zPut_in ho)) (cp_ok hi.2.1.g hi.1)) ⟨Nat.le_of_ble_eq_true rfl, Nat.le_of_ble_eq_true rfl⟩ ⟨Nat.le_refl _, Nat.le_refl _⟩ rfl (Nat.le_of_ble_eq_true rfl) zm_2_147 rfl dX8_rest_17 rfl ?_
  rw [zPut_put]
  refine zr_cVp X (As := [.int ((qRest (cp s1 s0) x).1)]) (rest := []) zc_X8_takeOver (0) (show 0 < w.1 by rw [hw]; omega) ((zPut_out (by omega)).trans hc.1) (q9 := _) rfl rfl (k_takeOver (s1 := (qRest (cp s1 s0) x).2) hw ⟨((zPut_out (by omega)).trans hc.1), fun o ho => ((zPut_out (by omega)).trans (hc.2.1 o ho)), fun o ho => (zPut_in ho), ((zPut_out (by omega)).trans hc.2.2.2.1), ((zPut_out (by omega)).trans hc.2.2.2.2.1), (fun i hi9 o ho => ((zPut_out (by omega)).trans (hc.2.2.2.2.2 i hi9 o ho)))⟩ ⟨hi.1, (qRest_ok (cp_ok hi.2.1.g hi.1)), hi.2.2⟩) ⟨Nat.le_of_ble_eq_true rfl, Nat.le_of_ble_eq_true rfl⟩ ⟨Nat.le_refl _, Nat.le_refl _⟩ rfl (Nat.le_of_ble_eq_true rfl) zm_2_111 rfl dX8_rest_20 (fun r1 g1 hp => ?_)
  obtain ⟨rfl, p2, p3⟩ := hp
  show G (w, 0, 0) (g1) [(0, .ref (w.2 (0))), (1, .int (x))] 23 [.int ((qRest (cp s1 s0) x).1)]
  exact zretp_i E rfl dX8_rest_23 ⟨rfl, p2, fun t ht => (p3 t ht).trans (zPut_out (by omega))⟩
set_option maxHeartbeats 4000000 in
set_option maxRecDepth 100000 in
theorem k_pay {l : Launch} {D : va_G} {cy : Nat → ClassId} {w : zW} {f : zF} {s0 s1 : zGS} {hs : Nat → zGS} {δ : Nat → Nat} {k : Nat} {m : Int32} (hw : w.1 = 136) (hc : zCl w cy f s0 s1 hs δ k) (hi : zInv s0 s1 hs δ k) : zSp l D cy yX8_pay cX8_pay 2 (some .int) 4 89 [.ref (w.2 (0)), .int (m)] w f (zChg w cy f s0 hs δ k (qPay (cp s1 s0) m)) := by
  refine zSp.intro (by decide) (Nat.le_of_ble_eq_true rfl) (fun G X E => ?_)
  show G (w, 0, 0) f [(0, .ref (w.2 (0))), (1, .int (m))] 0 []
  refine zr_aload_n X 0 dX8_pay_0 rfl rfl ?_
  refine zr_get X zfd_RX8_16 (0) (show 0 < w.1 by rw [hw]; omega) hc.1 (v := .ref (w.2 (22))) rfl dX8_pay_1 ?_
  refine zr_aload_n X 0 dX8_pay_4 rfl rfl ?_
  refine zr_get X zfd_RX8_10 (0) (show 0 < w.1 by rw [hw]; omega) hc.1 (v := .ref (w.2 (1))) rfl dX8_pay_5 ?_
  refine zr_cV X (As := [.ref (w.2 (1))]) (rest := []) (f' := zPut f (22) (zHut w cy (22) ((cp s1 s0).1) ((cp s1 s0).2))) (st' := []) zc_X2_copyFrom (22) (show 22 < w.1 by rw [hw]; omega) (hc.2.2.1 (0) (by omega)) (q9 := _) rfl rfl (k_copy (show 22 + 21 ≤ w.1 by rw [hw]; omega) (show 1 + 21 ≤ w.1 by rw [hw]; omega) (by omega) (fun o ho => (hc.2.2.1 o ho)) (fun o ho => (hc.2.1 o ho)) (hi.2.1).g hi.1) ⟨Nat.le_of_ble_eq_true rfl, Nat.le_of_ble_eq_true rfl⟩ ⟨Nat.le_refl _, Nat.le_refl _⟩ rfl (Nat.le_of_ble_eq_true rfl) zm_2_74 rfl dX8_pay_8 rfl ?_
  refine zr_aload_n X 0 dX8_pay_11 rfl rfl ?_
  refine zr_aload_n X 0 dX8_pay_12 rfl rfl ?_
  refine zr_get X zfd_RX8_16 (0) (show 0 < w.1 by rw [hw]; omega) ((zPut_out (by omega)).trans hc.1) (v := .ref (w.2 (22))) rfl dX8_pay_13 ?_
  refine zr_iload_n X 1 dX8_pay_16 rfl rfl ?_
  refine zr_cV X (As := [.int (m)]) (rest := [.ref (w.2 (0))]) (f' := zPut (zPut f (22) (zHut w cy (22) ((cp s1 s0).1) ((cp s1 s0).2))) (22) (zHut w cy (22) ((qPay (cp s1 s0) m).2.1) ((qPay (cp s1 s0) m).2.2))) (st' := [.int ((qPay (cp s1 s0) m).1), .ref (w.2 (0))]) zc_X2_payBaker (22) (show 22 < w.1 by rw [hw]; omega) (zPut_in (o := 0) (by omega)) (q9 := _) rfl rfl (k_qPay (show 22 + 21 ≤ w.1 by rw [hw]; omega) (fun o ho => (zPut_in ho)) (cp_ok hi.2.1.g hi.1)) ⟨Nat.le_of_ble_eq_true rfl, Nat.le_of_ble_eq_true rfl⟩ ⟨Nat.le_refl _, Nat.le_refl _⟩ rfl (Nat.le_of_ble_eq_true rfl) zm_2_190 rfl dX8_pay_17 rfl ?_
  rw [zPut_put]
  refine zr_cVp X (As := [.int ((qPay (cp s1 s0) m).1)]) (rest := []) zc_X8_takeOver (0) (show 0 < w.1 by rw [hw]; omega) ((zPut_out (by omega)).trans hc.1) (q9 := _) rfl rfl (k_takeOver (s1 := (qPay (cp s1 s0) m).2) hw ⟨((zPut_out (by omega)).trans hc.1), fun o ho => ((zPut_out (by omega)).trans (hc.2.1 o ho)), fun o ho => (zPut_in ho), ((zPut_out (by omega)).trans hc.2.2.2.1), ((zPut_out (by omega)).trans hc.2.2.2.2.1), (fun i hi9 o ho => ((zPut_out (by omega)).trans (hc.2.2.2.2.2 i hi9 o ho)))⟩ ⟨hi.1, (qPayE (cp_ok hi.2.1.g hi.1)), hi.2.2⟩) ⟨Nat.le_of_ble_eq_true rfl, Nat.le_of_ble_eq_true rfl⟩ ⟨Nat.le_refl _, Nat.le_refl _⟩ rfl (Nat.le_of_ble_eq_true rfl) zm_2_111 rfl dX8_pay_20 (fun r1 g1 hp => ?_)
  obtain ⟨rfl, p2, p3⟩ := hp
  show G (w, 0, 0) (g1) [(0, .ref (w.2 (0))), (1, .int (m))] 23 [.int ((qPay (cp s1 s0) m).1)]
  exact zretp_i E rfl dX8_pay_23 ⟨rfl, p2, fun t ht => (p3 t ht).trans (zPut_out (by omega))⟩
set_option maxHeartbeats 4000000 in
set_option maxRecDepth 100000 in
theorem k_group {l : Launch} {D : va_G} {cy : Nat → ClassId} {w : zW} {f : zF} {s0 s1 : zGS} {hs : Nat → zGS} {δ : Nat → Nat} {k : Nat} {p : Int32} {d : Int32} {n : Int32} (hw : w.1 = 136) (hc : zCl w cy f s0 s1 hs δ k) (hi : zInv s0 s1 hs δ k) : zSp l D cy yX8_group cX8_group 4 (some .int) 4 89 [.ref (w.2 (0)), .int (p), .int (d), .int (n)] w f (zChg w cy f s0 hs δ k (qBook (cp s1 s0) p d n)) := by
  refine zSp.intro (by decide) (Nat.le_of_ble_eq_true rfl) (fun G X E => ?_)
  show G (w, 0, 0) f [(0, .ref (w.2 (0))), (1, .int (p)), (2, .int (d)), (3, .int (n))] 0 []
  refine zr_aload_n X 0 dX8_group_0 rfl rfl ?_
  refine zr_get X zfd_RX8_16 (0) (show 0 < w.1 by rw [hw]; omega) hc.1 (v := .ref (w.2 (22))) rfl dX8_group_1 ?_
  refine zr_aload_n X 0 dX8_group_4 rfl rfl ?_
  refine zr_get X zfd_RX8_10 (0) (show 0 < w.1 by rw [hw]; omega) hc.1 (v := .ref (w.2 (1))) rfl dX8_group_5 ?_
  refine zr_cV X (As := [.ref (w.2 (1))]) (rest := []) (f' := zPut f (22) (zHut w cy (22) ((cp s1 s0).1) ((cp s1 s0).2))) (st' := []) zc_X2_copyFrom (22) (show 22 < w.1 by rw [hw]; omega) (hc.2.2.1 (0) (by omega)) (q9 := _) rfl rfl (k_copy (show 22 + 21 ≤ w.1 by rw [hw]; omega) (show 1 + 21 ≤ w.1 by rw [hw]; omega) (by omega) (fun o ho => (hc.2.2.1 o ho)) (fun o ho => (hc.2.1 o ho)) (hi.2.1).g hi.1) ⟨Nat.le_of_ble_eq_true rfl, Nat.le_of_ble_eq_true rfl⟩ ⟨Nat.le_refl _, Nat.le_refl _⟩ rfl (Nat.le_of_ble_eq_true rfl) zm_2_74 rfl dX8_group_8 rfl ?_
  refine zr_aload_n X 0 dX8_group_11 rfl rfl ?_
  refine zr_aload_n X 0 dX8_group_12 rfl rfl ?_
  refine zr_get X zfd_RX8_16 (0) (show 0 < w.1 by rw [hw]; omega) ((zPut_out (by omega)).trans hc.1) (v := .ref (w.2 (22))) rfl dX8_group_13 ?_
  refine zr_iload_n X 1 dX8_group_16 rfl rfl ?_
  refine zr_iload_n X 2 dX8_group_17 rfl rfl ?_
  refine zr_iload_n X 3 dX8_group_18 rfl rfl ?_
  refine zr_cV X (As := [.int (p), .int (d), .int (n)]) (rest := [.ref (w.2 (0))]) (f' := zPut (zPut f (22) (zHut w cy (22) ((cp s1 s0).1) ((cp s1 s0).2))) (22) (zHut w cy (22) ((qBook (cp s1 s0) p d n).2.1) ((qBook (cp s1 s0) p d n).2.2))) (st' := [.int ((qBook (cp s1 s0) p d n).1), .ref (w.2 (0))]) zc_X2_bookGroup (22) (show 22 < w.1 by rw [hw]; omega) (zPut_in (o := 0) (by omega)) (q9 := _) rfl rfl (k_qBook (show 22 + 21 ≤ w.1 by rw [hw]; omega) (fun o ho => (zPut_in ho)) (cp_ok hi.2.1.g hi.1)) ⟨Nat.le_of_ble_eq_true rfl, Nat.le_of_ble_eq_true rfl⟩ ⟨Nat.le_refl _, Nat.le_refl _⟩ rfl (Nat.le_of_ble_eq_true rfl) zm_2_159 rfl dX8_group_19 rfl ?_
  rw [zPut_put]
  refine zr_cVp X (As := [.int ((qBook (cp s1 s0) p d n).1)]) (rest := []) zc_X8_takeOver (0) (show 0 < w.1 by rw [hw]; omega) ((zPut_out (by omega)).trans hc.1) (q9 := _) rfl rfl (k_takeOver (s1 := (qBook (cp s1 s0) p d n).2) hw ⟨((zPut_out (by omega)).trans hc.1), fun o ho => ((zPut_out (by omega)).trans (hc.2.1 o ho)), fun o ho => (zPut_in ho), ((zPut_out (by omega)).trans hc.2.2.2.1), ((zPut_out (by omega)).trans hc.2.2.2.2.1), (fun i hi9 o ho => ((zPut_out (by omega)).trans (hc.2.2.2.2.2 i hi9 o ho)))⟩ ⟨hi.1, (qBookE (cp_ok hi.2.1.g hi.1)), hi.2.2⟩) ⟨Nat.le_of_ble_eq_true rfl, Nat.le_of_ble_eq_true rfl⟩ ⟨Nat.le_refl _, Nat.le_refl _⟩ rfl (Nat.le_of_ble_eq_true rfl) zm_2_111 rfl dX8_group_22 (fun r1 g1 hp => ?_)
  obtain ⟨rfl, p2, p3⟩ := hp
  show G (w, 0, 0) (g1) [(0, .ref (w.2 (0))), (1, .int (p)), (2, .int (d)), (3, .int (n))] 25 [.int ((qBook (cp s1 s0) p d n).1)]
  exact zretp_i E rfl dX8_group_25 ⟨rfl, p2, fun t ht => (p3 t ht).trans (zPut_out (by omega))⟩
set_option maxHeartbeats 4000000 in
set_option maxRecDepth 100000 in
theorem k_off {l : Launch} {D : va_G} {cy : Nat → ClassId} {w : zW} {f : zF} {s0 s1 : zGS} {hs : Nat → zGS} {δ : Nat → Nat} {k : Nat} {x : Int32} (hw : w.1 = 136) (hc : zCl w cy f s0 s1 hs δ k) (hi : zInv s0 s1 hs δ k) : zSp l D cy yX8_off cX8_off 2 (some .int) 4 89 [.ref (w.2 (0)), .int (x)] w f (zChg w cy f s0 hs δ k (qOff (cp s1 s0) x)) := by
  refine zSp.intro (by decide) (Nat.le_of_ble_eq_true rfl) (fun G X E => ?_)
  show G (w, 0, 0) f [(0, .ref (w.2 (0))), (1, .int (x))] 0 []
  refine zr_aload_n X 0 dX8_off_0 rfl rfl ?_
  refine zr_get X zfd_RX8_16 (0) (show 0 < w.1 by rw [hw]; omega) hc.1 (v := .ref (w.2 (22))) rfl dX8_off_1 ?_
  refine zr_aload_n X 0 dX8_off_4 rfl rfl ?_
  refine zr_get X zfd_RX8_10 (0) (show 0 < w.1 by rw [hw]; omega) hc.1 (v := .ref (w.2 (1))) rfl dX8_off_5 ?_
  refine zr_cV X (As := [.ref (w.2 (1))]) (rest := []) (f' := zPut f (22) (zHut w cy (22) ((cp s1 s0).1) ((cp s1 s0).2))) (st' := []) zc_X2_copyFrom (22) (show 22 < w.1 by rw [hw]; omega) (hc.2.2.1 (0) (by omega)) (q9 := _) rfl rfl (k_copy (show 22 + 21 ≤ w.1 by rw [hw]; omega) (show 1 + 21 ≤ w.1 by rw [hw]; omega) (by omega) (fun o ho => (hc.2.2.1 o ho)) (fun o ho => (hc.2.1 o ho)) (hi.2.1).g hi.1) ⟨Nat.le_of_ble_eq_true rfl, Nat.le_of_ble_eq_true rfl⟩ ⟨Nat.le_refl _, Nat.le_refl _⟩ rfl (Nat.le_of_ble_eq_true rfl) zm_2_74 rfl dX8_off_8 rfl ?_
  refine zr_aload_n X 0 dX8_off_11 rfl rfl ?_
  refine zr_aload_n X 0 dX8_off_12 rfl rfl ?_
  refine zr_get X zfd_RX8_16 (0) (show 0 < w.1 by rw [hw]; omega) ((zPut_out (by omega)).trans hc.1) (v := .ref (w.2 (22))) rfl dX8_off_13 ?_
  refine zr_iload_n X 1 dX8_off_16 rfl rfl ?_
  refine zr_cV X (As := [.int (x)]) (rest := [.ref (w.2 (0))]) (f' := zPut (zPut f (22) (zHut w cy (22) ((cp s1 s0).1) ((cp s1 s0).2))) (22) (zHut w cy (22) ((qOff (cp s1 s0) x).2.1) ((qOff (cp s1 s0) x).2.2))) (st' := [.int ((qOff (cp s1 s0) x).1), .ref (w.2 (0))]) zc_X2_callOff (22) (show 22 < w.1 by rw [hw]; omega) (zPut_in (o := 0) (by omega)) (q9 := _) rfl rfl (k_qOff (show 22 + 21 ≤ w.1 by rw [hw]; omega) (fun o ho => (zPut_in ho)) (cp_ok hi.2.1.g hi.1)) ⟨Nat.le_of_ble_eq_true rfl, Nat.le_of_ble_eq_true rfl⟩ ⟨Nat.le_refl _, Nat.le_refl _⟩ rfl (Nat.le_of_ble_eq_true rfl) zm_2_171 rfl dX8_off_17 rfl ?_
  rw [zPut_put]
  refine zr_cVp X (As := [.int ((qOff (cp s1 s0) x).1)]) (rest := []) zc_X8_takeOver (0) (show 0 < w.1 by rw [hw]; omega) ((zPut_out (by omega)).trans hc.1) (q9 := _) rfl rfl (k_takeOver (s1 := (qOff (cp s1 s0) x).2) hw ⟨((zPut_out (by omega)).trans hc.1), fun o ho => ((zPut_out (by omega)).trans (hc.2.1 o ho)), fun o ho => (zPut_in ho), ((zPut_out (by omega)).trans hc.2.2.2.1), ((zPut_out (by omega)).trans hc.2.2.2.2.1), (fun i hi9 o ho => ((zPut_out (by omega)).trans (hc.2.2.2.2.2 i hi9 o ho)))⟩ ⟨hi.1, (qOffE (cp_ok hi.2.1.g hi.1)), hi.2.2⟩) ⟨Nat.le_of_ble_eq_true rfl, Nat.le_of_ble_eq_true rfl⟩ ⟨Nat.le_refl _, Nat.le_refl _⟩ rfl (Nat.le_of_ble_eq_true rfl) zm_2_111 rfl dX8_off_20 (fun r1 g1 hp => ?_)
  obtain ⟨rfl, p2, p3⟩ := hp
  show G (w, 0, 0) (g1) [(0, .ref (w.2 (0))), (1, .int (x))] 23 [.int ((qOff (cp s1 s0) x).1)]
  exact zretp_i E rfl dX8_off_23 ⟨rfl, p2, fun t ht => (p3 t ht).trans (zPut_out (by omega))⟩
set_option maxHeartbeats 4000000 in
set_option maxRecDepth 100000 in
theorem k_end {l : Launch} {D : va_G} {cy : Nat → ClassId} {w : zW} {f : zF} {s0 s1 : zGS} {hs : Nat → zGS} {δ : Nat → Nat} {k : Nat} {d : Int32} (hw : w.1 = 136) (hc : zCl w cy f s0 s1 hs δ k) (hi : zInv s0 s1 hs δ k) : zSp l D cy yX8_end cX8_end 2 (some .int) 4 100 [.ref (w.2 (0)), .int (d)] w f (zChg w cy f s0 hs δ k (hEnd (cp s1 s0) d)) := by
  refine zSp.intro (by decide) (Nat.le_of_ble_eq_true rfl) (fun G X E => ?_)
  show G (w, 0, 0) f [(0, .ref (w.2 (0))), (1, .int (d))] 0 []
  refine zr_aload_n X 0 dX8_end_0 rfl rfl ?_
  refine zr_get X zfd_RX8_16 (0) (show 0 < w.1 by rw [hw]; omega) hc.1 (v := .ref (w.2 (22))) rfl dX8_end_1 ?_
  refine zr_aload_n X 0 dX8_end_4 rfl rfl ?_
  refine zr_get X zfd_RX8_10 (0) (show 0 < w.1 by rw [hw]; omega) hc.1 (v := .ref (w.2 (1))) rfl dX8_end_5 ?_
  refine zr_cV X (As := [.ref (w.2 (1))]) (rest := []) (f' := zPut f (22) (zHut w cy (22) ((cp s1 s0).1) ((cp s1 s0).2))) (st' := []) zc_X2_copyFrom (22) (show 22 < w.1 by rw [hw]; omega) (hc.2.2.1 (0) (by omega)) (q9 := _) rfl rfl (k_copy (show 22 + 21 ≤ w.1 by rw [hw]; omega) (show 1 + 21 ≤ w.1 by rw [hw]; omega) (by omega) (fun o ho => (hc.2.2.1 o ho)) (fun o ho => (hc.2.1 o ho)) (hi.2.1).g hi.1) ⟨Nat.le_of_ble_eq_true rfl, Nat.le_of_ble_eq_true rfl⟩ ⟨Nat.le_refl _, Nat.le_refl _⟩ rfl (Nat.le_of_ble_eq_true rfl) zm_2_74 rfl dX8_end_8 rfl ?_
  refine zr_aload_n X 0 dX8_end_11 rfl rfl ?_
  refine zr_aload_n X 0 dX8_end_12 rfl rfl ?_
  refine zr_get X zfd_RX8_16 (0) (show 0 < w.1 by rw [hw]; omega) ((zPut_out (by omega)).trans hc.1) (v := .ref (w.2 (22))) rfl dX8_end_13 ?_
  refine zr_iload_n X 1 dX8_end_16 rfl rfl ?_
  refine zr_cV X (As := [.int (d)]) (rest := [.ref (w.2 (0))]) (f' := zPut (zPut f (22) (zHut w cy (22) ((cp s1 s0).1) ((cp s1 s0).2))) (22) (zHut w cy (22) ((hEnd (cp s1 s0) d).2.1) ((hEnd (cp s1 s0) d).2.2))) (st' := [.int ((hEnd (cp s1 s0) d).1), .ref (w.2 (0))]) zc_X2_endDays (22) (show 22 < w.1 by rw [hw]; omega) (zPut_in (o := 0) (by omega)) (q9 := _) rfl rfl (k_qEnd (show 22 + 21 ≤ w.1 by rw [hw]; omega) (fun o ho => (zPut_in ho)) (cp_ok hi.2.1.g hi.1)) ⟨Nat.le_of_ble_eq_true rfl, Nat.le_of_ble_eq_true rfl⟩ ⟨Nat.le_refl _, Nat.le_refl _⟩ rfl (Nat.le_of_ble_eq_true rfl) zm_2_198 rfl dX8_end_17 rfl ?_
  rw [zPut_put]
  refine zr_cVp X (As := [.int ((hEnd (cp s1 s0) d).1)]) (rest := []) zc_X8_takeOver (0) (show 0 < w.1 by rw [hw]; omega) ((zPut_out (by omega)).trans hc.1) (q9 := _) rfl rfl (k_takeOver (s1 := (hEnd (cp s1 s0) d).2) hw ⟨((zPut_out (by omega)).trans hc.1), fun o ho => ((zPut_out (by omega)).trans (hc.2.1 o ho)), fun o ho => (zPut_in ho), ((zPut_out (by omega)).trans hc.2.2.2.1), ((zPut_out (by omega)).trans hc.2.2.2.2.1), (fun i hi9 o ho => ((zPut_out (by omega)).trans (hc.2.2.2.2.2 i hi9 o ho)))⟩ ⟨hi.1, (qEnd_ok (cp_ok hi.2.1.g hi.1)), hi.2.2⟩) ⟨Nat.le_of_ble_eq_true rfl, Nat.le_of_ble_eq_true rfl⟩ ⟨Nat.le_refl _, Nat.le_refl _⟩ rfl (Nat.le_of_ble_eq_true rfl) zm_2_111 rfl dX8_end_20 (fun r1 g1 hp => ?_)
  obtain ⟨rfl, p2, p3⟩ := hp
  show G (w, 0, 0) (g1) [(0, .ref (w.2 (0))), (1, .int (d))] 23 [.int ((hEnd (cp s1 s0) d).1)]
  exact zretp_i E rfl dX8_end_23 ⟨rfl, p2, fun t ht => (p3 t ht).trans (zPut_out (by omega))⟩
set_option maxHeartbeats 4000000 in
set_option maxRecDepth 100000 in
theorem k_set {l : Launch} {D : va_G} {cy : Nat → ClassId} {w : zW} {f : zF} {s0 s1 : zGS} {hs : Nat → zGS} {δ : Nat → Nat} {k : Nat} {x : Int32} {y : Int32} (hw : w.1 = 136) (hc : zCl w cy f s0 s1 hs δ k) (hi : zInv s0 s1 hs δ k) : zSp l D cy yX8_set cX8_set 3 (some .int) 4 89 [.ref (w.2 (0)), .int (x), .int (y)] w f (zChg w cy f s0 hs δ k (qSet (cp s1 s0) x y)) := by
  refine zSp.intro (by decide) (Nat.le_of_ble_eq_true rfl) (fun G X E => ?_)
  show G (w, 0, 0) f [(0, .ref (w.2 (0))), (1, .int (x)), (2, .int (y))] 0 []
  refine zr_aload_n X 0 dX8_set_0 rfl rfl ?_
  refine zr_get X zfd_RX8_16 (0) (show 0 < w.1 by rw [hw]; omega) hc.1 (v := .ref (w.2 (22))) rfl dX8_set_1 ?_
  refine zr_aload_n X 0 dX8_set_4 rfl rfl ?_
  refine zr_get X zfd_RX8_10 (0) (show 0 < w.1 by rw [hw]; omega) hc.1 (v := .ref (w.2 (1))) rfl dX8_set_5 ?_
  refine zr_cV X (As := [.ref (w.2 (1))]) (rest := []) (f' := zPut f (22) (zHut w cy (22) ((cp s1 s0).1) ((cp s1 s0).2))) (st' := []) zc_X2_copyFrom (22) (show 22 < w.1 by rw [hw]; omega) (hc.2.2.1 (0) (by omega)) (q9 := _) rfl rfl (k_copy (show 22 + 21 ≤ w.1 by rw [hw]; omega) (show 1 + 21 ≤ w.1 by rw [hw]; omega) (by omega) (fun o ho => (hc.2.2.1 o ho)) (fun o ho => (hc.2.1 o ho)) (hi.2.1).g hi.1) ⟨Nat.le_of_ble_eq_true rfl, Nat.le_of_ble_eq_true rfl⟩ ⟨Nat.le_refl _, Nat.le_refl _⟩ rfl (Nat.le_of_ble_eq_true rfl) zm_2_74 rfl dX8_set_8 rfl ?_
  refine zr_aload_n X 0 dX8_set_11 rfl rfl ?_
  refine zr_aload_n X 0 dX8_set_12 rfl rfl ?_
  refine zr_get X zfd_RX8_16 (0) (show 0 < w.1 by rw [hw]; omega) ((zPut_out (by omega)).trans hc.1) (v := .ref (w.2 (22))) rfl dX8_set_13 ?_
  refine zr_getN X zfn_RX8_64 (22) (show 22 < w.1 by rw [hw]; omega) (zPut_in (o := 0) (by omega)) (v := .ref (w.2 (22 + 6))) rfl dX8_set_16 ?_
  refine zr_iload_n X 1 dX8_set_19 rfl rfl ?_
  refine zr_iload_n X 2 dX8_set_20 rfl rfl ?_
  refine zr_cV X (As := [.int (x), .int (y)]) (rest := [.ref (w.2 (0))]) (f' := va_up (zPut f (22) (zHut w cy (22) ((cp s1 s0).1) ((cp s1 s0).2))) (22 + 6) (eSett (sChg (fun i9 => ((cp s1 s0).2) (15 + i9)) x y).2)) (st' := [.int ((qSet (cp s1 s0) x y).1), .ref (w.2 (0))]) zc_X6_change (22 + 6) (show 22 + 6 < w.1 by rw [hw]; omega) (zPut_in (o := 6) (by omega)) (q9 := _) rfl rfl (k_Sett_change (show 22 + 6 < w.1 by rw [hw]; omega) (zPut_in (o := 6) (by omega))) ⟨Nat.le_of_ble_eq_true rfl, Nat.le_of_ble_eq_true rfl⟩ ⟨Nat.le_refl _, Nat.le_refl _⟩ rfl (Nat.le_of_ble_eq_true rfl) zm_3_28 rfl dX8_set_21 rfl ?_
  refine zcw (f2 := zPut f (22) (zHut w cy (22) ((qSet (cp s1 s0) x y).2.1) ((qSet (cp s1 s0) x y).2.2))) zu_settA ?_
  refine zr_cVp X (As := [.int ((qSet (cp s1 s0) x y).1)]) (rest := []) zc_X8_takeOver (0) (show 0 < w.1 by rw [hw]; omega) ((zPut_out (by omega)).trans hc.1) (q9 := _) rfl rfl (k_takeOver (s1 := (qSet (cp s1 s0) x y).2) hw ⟨((zPut_out (by omega)).trans hc.1), fun o ho => ((zPut_out (by omega)).trans (hc.2.1 o ho)), fun o ho => (zPut_in ho), ((zPut_out (by omega)).trans hc.2.2.2.1), ((zPut_out (by omega)).trans hc.2.2.2.2.1), (fun i hi9 o ho => ((zPut_out (by omega)).trans (hc.2.2.2.2.2 i hi9 o ho)))⟩ ⟨hi.1, (qSet_ok (cp_ok hi.2.1.g hi.1)), hi.2.2⟩) ⟨Nat.le_of_ble_eq_true rfl, Nat.le_of_ble_eq_true rfl⟩ ⟨Nat.le_refl _, Nat.le_refl _⟩ rfl (Nat.le_of_ble_eq_true rfl) zm_2_111 rfl dX8_set_24 (fun r1 g1 hp => ?_)
  obtain ⟨rfl, p2, p3⟩ := hp
  show G (w, 0, 0) (g1) [(0, .ref (w.2 (0))), (1, .int (x)), (2, .int (y))] 27 [.int ((qSet (cp s1 s0) x y).1)]
  exact zretp_i E rfl dX8_set_27 ⟨rfl, p2, fun t ht => (p3 t ht).trans (zPut_out (by omega))⟩
