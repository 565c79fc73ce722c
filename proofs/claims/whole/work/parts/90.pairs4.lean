/-- the whole text, from its beginning: the class and the model -/
theorem plays_sim {tx tx2 : Nat → Int32} {n : Nat} {g : zGS} {s v nu nu2 : Nat → Int32} {a : Int32} {B : Int} (hn : n ≤ 60) (ht : ∀ i, i < n → tx i = tx2 i) (hS : St B g s) (hB : B ≤ 1000000000) (h2 : v 2 = nI n) : ((oReh tx (nI n) 60 0 0 a nu g).2.2.2.1 = 0 ∧ (dPlays tx2 n v nu2 s).1 = 1 ∧ (∃ k', k' ≤ 60 ∧ (oReh tx (nI n) 60 0 0 a nu g).1 = nI k' ∧ (dPlays tx2 n v nu2 s).2.2.1 7 = nI k') ∧ St (B + 60) (oReh tx (nI n) 60 0 0 a nu g).2.2.2.2.2.2 (dPlays tx2 n v nu2 s).2.2.2.2) ∨ (¬ (oReh tx (nI n) 60 0 0 a nu g).2.2.2.1 = 0 ∧ (dPlays tx2 n v nu2 s).1 = 0 ∧ (oReh tx (nI n) 60 0 0 a nu g).2.1 = (dPlays tx2 n v nu2 s).2.2.1 4 ∧ (oReh tx (nI n) 60 0 0 a nu g).2.2.2.1 = (dPlays tx2 n v nu2 s).2.2.1 5 ∧ (oReh tx (nI n) 60 0 0 a nu g).2.2.2.2.1 = (dPlays tx2 n v nu2 s).2.2.1 6 ∧ gOk (oReh tx (nI n) 60 0 0 a nu g).2.2.2.2.2.2.1) := by
  refine reh_sim hn ht 60 0 0 a nu nu2 g s (dPlV v) B (by decide) (Nat.le_refl _) (Nat.zero_le _) hS (by omega) ?_ ?_ ?_
  · unfold dPlV
    rw [upd_ne (by decide), upd_ne (by decide), upd_ne (by decide), upd_ne (by decide)]
    exact h2
  · unfold dPlV
    rw [upd_ne (by decide), upd_ne (by decide), upd_eq]
    rfl
  · unfold dPlV
    rw [upd_eq]
    rfl
theorem fault_sim {C : zRes} {R : dSt9} {x : Int32} (h : (C.2.2.2.1 = 0 ∧ R.1 = 1) ∨ (¬ C.2.2.2.1 = 0 ∧ R.1 = 0 ∧ C.2.1 = R.2.2.1 4 ∧ C.2.2.2.1 = R.2.2.1 5 ∧ C.2.2.2.2.1 = R.2.2.1 6)) : cFault x C = dFault x R := by
  unfold cFault dFault cFa dFq
  by_cases c1 : zwin x 0 2 = 0
  · rw [if_pos c1, if_pos c1]
  · rw [if_neg c1, if_neg c1]
    rcases h with ⟨a, b⟩ | ⟨a, b, e4, e5, e6⟩
    · rw [if_pos a, b, if_neg (show ¬ (1 : Int32) = 0 by decide)]
    · rw [if_neg a, if_pos b, e4, ← e5, e6]
theorem pair_fault {l : Launch} {D : va_G} {cy : Nat → ClassId} {w : zW} {f : zF} {B : Int} {a : Int32} (hw : w.1 = 139) (hL : LI w cy f B) (hB : B ≤ 1000000000) : Pair l D cy w yX8_fault cX8_fault 2 6 145 yX9_fault cX9_fault 3 9 200 [.int a] f (B + 60) := by
  obtain ⟨s0, s1, hs, δ, k, s, P, H, T, n, tx, tx2, v, nu, hC, hH, hM, hv, hn, ht⟩ := hL
  obtain ⟨h130, p9, q9, r9, c9, nu9, h129, h131⟩ := id hC.2.2
  have st : St B (cp s1 s0) s := cp_St hH.1 hH.2.1
  obtain ⟨C, eC⟩ : ∃ C, oReh tx (nI n) 60 0 0 q9 nu9 (cp s1 s0) = C := ⟨_, rfl⟩
  obtain ⟨R, eR⟩ : ∃ R, dPlays tx2 n v nu s = R := ⟨_, rfl⟩
  have ps := plays_sim (a := q9) (nu := nu9) (nu2 := nu) hn ht st hB hv.2.2
  rw [eC, eR] at ps
  have eF : cFault a C = dFault a R := by
    refine fault_sim ?_
    rcases ps with ⟨a, b, -⟩ | ⟨a, b, c, d, e, -⟩
    · exact .inl ⟨a, b⟩
    · exact .inr ⟨a, b, c, d, e⟩
  have oC : gOk C.2.2.2.2.2.2.1 := by
    rcases ps with ⟨-, -, -, mc, bk, r, o, i⟩ | ⟨-, -, -, -, -, o⟩
    · exact o
    · exact o
  refine ⟨dFault a R, fun g => (∃ t, (zOkE t ∧ (t = s1 ∨ t = C.2.2.2.2.2.2)) ∧ zCl w cy g s0 t hs δ k) ∧ zOs w cy g (nI n) tx ∧ ∀ t, 132 ≤ t → g t = f t, zSp.mono (k_fault9 hw hC.1 hC.2.1 h130 h129 h131 eC) (fun r g q => ⟨by rw [q.1, eF], q.2⟩), fun g hz => ?_⟩
  obtain ⟨⟨t, ⟨z1, z2⟩, z3⟩, z4, z5⟩ := hz
  have ot : gOk t.1 := by
    rcases z2 with e | e
    · rw [e]
      exact hH.2.1
    · rw [e]
      exact oC
  have hMg : MP w cy g s P H T tx2 v nu := MP_fr hM z5
  have hCg : CI w cy g s0 t hs δ k n tx := ⟨z3, ⟨hC.2.1.1, z1, hC.2.1.2.2⟩, z4⟩
  have hHt : Hs (B + 60) s0 t hs δ k s P := Hs_mono (Hs_trial hH ot) (by omega)
  have hm := k_mfault (l := l) (D := D) (f := g) (v := v) (s := s) (nu := nu) (x := a) hw hMg.2.1 hMg.2.2.2.2 hMg.2.2.1 hn Jv Jv_1 Jv_2 (Jv_of hH.1 (by omega)) hv.2.2 hv.1 hH.2.2.2.2.2.1 eR
  rw [MP_self hMg] at hm
  refine ⟨⟨_, hMg.1.1⟩, zSp.mono hm (fun r g' q => ?_)⟩
  obtain ⟨q1, q2⟩ := q
  refine ⟨q1, ?_⟩
  rcases q2 with ⟨-, rfl⟩ | rfl
  · exact ⟨s0, t, hs, δ, k, s, P, H, T, n, tx, tx2, v, nu, hCg, hHt, hMg, hv, hn, ht⟩
  · have hMg' : MP w cy (va_up g 135 (eInts cy 136 (dCp H s 136))) s P (dCp H s 136) T tx2 v nu := by
      obtain ⟨⟨a, b, c⟩, d, e, x, y⟩ := hMg
      exact ⟨⟨(va_up_ne _ _ (by decide)).trans a, (va_up_ne _ _ (by decide)).trans b, (va_up_ne _ _ (by decide)).trans c⟩, (va_up_ne _ _ (by decide)).trans d, va_up_self _ _ _, (va_up_ne _ _ (by decide)).trans x, (va_up_ne _ _ (by decide)).trans y⟩
    have v0 : R.2.2.1 0 = v 0 := by rw [← eR]; exact dPlays_v (by decide) (by decide)
    have v2 : R.2.2.1 2 = v 2 := by rw [← eR]; exact dPlays_v (by decide) (by decide)
    exact ⟨s0, t, hs, δ, k, dS1 s H R, P, _, T, n, tx, tx2, upd R.2.2.1 1 0, R.2.2.2.1, CI_fr hCg (fun t ht => (mW_lo ht).trans (va_up_ne _ _ (by omega))), Hs_row hHt (fun i hi => dS1_eq hi), MP_mW hMg', ⟨((upd_ne (by decide)).trans v0).trans hv.1, upd_eq, ((upd_ne (by decide)).trans v2).trans hv.2.2⟩, hn, ht⟩
theorem pair_play {l : Launch} {D : va_G} {cy : Nat → ClassId} {w : zW} {f : zF} {B : Int} (hw : w.1 = 139) (hL : LI w cy f B) (hB : B ≤ 1000000000) : Pair l D cy w yX8_play cX8_play 2 6 145 yX9_play cX9_play 2 9 200 [] f (B + 60) := by
  obtain ⟨s0, s1, hs, δ, k, s, P, H, T, n, tx, tx2, v, nu, hC, hH, hM, hv, hn, ht⟩ := hL
  obtain ⟨h130, p9, q9, r9, c9, nu9, h129, h131⟩ := id hC.2.2
  have st : St B (cp s1 s0) s := cp_St hH.1 hH.2.1
  obtain ⟨C, eC⟩ : ∃ C, oReh tx (nI n) 60 0 0 q9 nu9 (cp s1 s0) = C := ⟨_, rfl⟩
  obtain ⟨R, eR⟩ : ∃ R, dPlays tx2 n v nu s = R := ⟨_, rfl⟩
  have ps := plays_sim (a := q9) (nu := nu9) (nu2 := nu) hn ht st hB hv.2.2
  rw [eC, eR] at ps
  have v0 : upd R.2.2.1 1 0 0 = nI k := by
    rw [upd_ne (by decide), ← eR, dPlays_v (by decide) (by decide)]
    exact hv.1
  have v2 : upd R.2.2.1 1 0 2 = nI n := by
    rw [upd_ne (by decide), ← eR, dPlays_v (by decide) (by decide)]
    exact hv.2.2
  have v1 : upd R.2.2.1 1 0 1 = 0 := upd_eq
  have ev : dPv (upd R.2.2.1 1 0) k = upd (upd R.2.2.1 1 0) 0 (nI (dPj k + 1)) := if_pos v1
  obtain ⟨R2, eR2⟩ : ∃ R2, dPlays tx2 n (dPv (upd R.2.2.1 1 0) k) R.2.2.2.1 (dS1 s H R) = R2 := ⟨_, rfl⟩
  have st2 : St B (cp s1 s0) (dS1 s H R) := St_congr (fun i hi => dS1_eq hi) st
  have w2 : dPv (upd R.2.2.1 1 0) k 2 = nI n := by
    rw [ev, upd_ne (by decide)]
    exact v2
  have ps2 := plays_sim (a := q9) (nu := nu9) (nu2 := R.2.2.2.1) hn ht st2 hB w2
  rw [eC, eR2] at ps2
  have hH1 : Hs B s0 s1 hs δ k (dS1 s H R) P := Hs_row hH (fun i hi => dS1_eq hi)
  have u0 : upd R2.2.2.1 1 0 0 = nI (dPj k + 1) := by
    rw [upd_ne (by decide), ← eR2, dPlays_v (by decide) (by decide), ev, upd_eq]
  have u2 : upd R2.2.2.1 1 0 2 = nI n := by
    rw [upd_ne (by decide), ← eR2, dPlays_v (by decide) (by decide)]
    exact w2
  have okC : zOkE C.2.2.2.2.2.2 := by
    rw [← eC]
    exact oReh_ok (St_ok st)
  have oC : gOk (cPl C).2.1 := by
    rcases ps with ⟨-, -, -, mc, bk, r, o, i⟩ | ⟨-, -, -, -, -, o⟩
    · exact o
    · exact o
  have t0 := tk0
  have cg : Chg (B + 60) (cPl C) (dPlayQ R R2, decide (¬ R.1 = 0), R2.2.2.2.2) := by
    unfold cPl dPlayQ
    rcases ps with ⟨a1, a2, a3, a4⟩ | ⟨a1, a2, a3⟩
    · rcases ps2 with ⟨b1, b2, ⟨k', hk', b3, b4⟩, b5⟩ | ⟨b1, b2⟩
      · refine ⟨?_, fun _ => ⟨?_, b5⟩, fun z => ?_⟩
        · show (if C.2.2.2.1 = 0 then C.1 else (-1000002)) = if R.1 = 0 then (-1000002) else if R2.1 = 0 then (-1000004) else R2.2.2.1 7
          rw [if_pos a1, a2, b2, if_neg (show ¬ (1 : Int32) = 0 by decide), if_neg (show ¬ (1 : Int32) = 0 by decide), b3, b4]
        · show ¬ (if C.2.2.2.1 = 0 then C.1 else (-1000002)) < 0
          rw [if_pos a1, b3]
          exact neg_nn (by rw [tnI (by omega)]; omega)
        · exact absurd z (by show ¬ decide (¬ R.1 = 0) = false; rw [a2]; decide)
      · exact absurd a1 b1
    · refine ⟨?_, fun z => ?_, fun _ => ?_⟩
      · show (if C.2.2.2.1 = 0 then C.1 else (-1000002)) = if R.1 = 0 then (-1000002) else if R2.1 = 0 then (-1000004) else R2.2.2.1 7
        rw [if_neg a1, if_pos a2]
      · exact absurd z (by show ¬ decide (¬ R.1 = 0) = true; rw [a2]; decide)
      · show (if C.2.2.2.1 = 0 then C.1 else (-1000002)) < 0
        rw [if_neg a1]
        decide
  obtain ⟨e, hH', h1, h0⟩ := chg_Hs (v := upd R.2.2.1 1 0) hH1 (show B ≤ B + 60 by omega) cg oC v1
  refine ⟨(cPl C).1, fun g => zCl w cy g (tkS (cPl C).1 s0 (cPl C).2) (cPl C).2 (tkH (cPl C).1 hs δ k s0) (tkD (cPl C).1 δ k) (tkN (cPl C).1 k) ∧ zOs w cy g (nI n) tx ∧ ∀ t, 132 ≤ t → g t = f t, zSp.mono (k_play hw hC.1 hC.2.1 h130 h129 h131 eC) (fun r g q => q), fun g hz => ?_⟩
  obtain ⟨z1, z2, z3⟩ := hz
  have hMg : MP w cy g s P H T tx2 v nu := MP_fr hM z3
  have hm := k_mplay (l := l) (D := D) (f := g) (v := v) (s := s) (nu := nu) hw hMg.2.1 hMg.2.2.2.2 hMg.2.2.1 hn Jv Jv_1 Jv_2 (Jv_of hH.1 (by omega)) hv.2.2 hv.1 hH.2.2.2.2.2.1 eR (Jv_of hH1.1 (by omega)) eR2
  rw [MP_self hMg] at hm
  have hI := tk_inv (x := (cPl C).1) (q := (cPl C).2) hC.2.1 okC hH'.2.2.2.2.1 hH'.2.2.2.2.2.1
  have hMg' : MP w cy (va_up g 135 (eInts cy 136 (dCp H s 136))) s P (dCp H s 136) T tx2 v nu := by
    obtain ⟨⟨a, b, c⟩, d, e, x, y⟩ := hMg
    exact ⟨⟨(va_up_ne _ _ (by decide)).trans a, (va_up_ne _ _ (by decide)).trans b, (va_up_ne _ _ (by decide)).trans c⟩, (va_up_ne _ _ (by decide)).trans d, va_up_self _ _ _, (va_up_ne _ _ (by decide)).trans x, (va_up_ne _ _ (by decide)).trans y⟩
  refine ⟨⟨_, hMg.1.1⟩, zSp.mono hm (fun r g' q => ?_)⟩
  obtain ⟨x1, x2⟩ := q
  refine ⟨by rw [x1]; exact congrArg (fun z => some (Value.int z)) e.symm, ?_⟩
  rcases x2 with ⟨y1, rfl⟩ | ⟨y1, rfl⟩
  · have hd : decide (¬ R.1 = 0) = false := by rw [y1]; decide
    have nn := h0 hd
    have eN : tkN (cPl C).1 k = k := if_pos nn
    rw [hd] at hH'
    rw [eN] at hH' hI z1
    exact ⟨_, _, _, _, k, dS1 s H R, P, _, T, n, tx, tx2, upd R.2.2.1 1 0, R.2.2.2.1, CI_fr ⟨z1, hI, z2⟩ (fun t ht => (mW_lo ht).trans (va_up_ne _ _ (by omega))), hH', MP_mW hMg', ⟨v0, v1, v2⟩, hn, ht⟩
  · have hd : decide (¬ R.1 = 0) = true := by
      exact decide_eq_true y1
    have nn := h1 hd
    have eN : tkN (cPl C).1 k = kpJ k + 1 := if_neg nn
    rw [hd] at hH'
    rw [eN] at hH' hI z1
    have hMg2 : MP w cy (va_up (va_up g 135 (eInts cy 136 (dCp H s 136))) 134 (eInts cy 544 (dPa (upd R.2.2.1 1 0) P (dS1 s H R) k))) s (dPa (upd R.2.2.1 1 0) P (dS1 s H R) k) (dCp H s 136) T tx2 v nu := by
      obtain ⟨⟨a, b, c⟩, d, e, x, y⟩ := hMg'
      exact ⟨⟨(va_up_ne _ _ (by decide)).trans a, (va_up_ne _ _ (by decide)).trans b, (va_up_ne _ _ (by decide)).trans c⟩, va_up_self _ _ _, (va_up_ne _ _ (by decide)).trans e, (va_up_ne _ _ (by decide)).trans x, (va_up_ne _ _ (by decide)).trans y⟩
    exact ⟨_, _, _, _, kpJ k + 1, R2.2.2.2.2, _, _, T, n, tx, tx2, upd R2.2.2.1 1 0, R2.2.2.2.1, CI_fr ⟨z1, hI, z2⟩ (fun t ht => (mW_lo ht).trans ((va_up_ne _ _ (by omega)).trans (va_up_ne _ _ (by omega)))), hH', MP_mW hMg2, ⟨u0, upd_eq, u2⟩, hn, ht⟩
