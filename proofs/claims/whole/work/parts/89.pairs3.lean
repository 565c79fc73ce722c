theorem gone_ok : ∀ n (s : zGS), n ≤ 10 → gOk s.1 → gOk (hGone n s).1
  | 0, s, _, h => h
  | n + 1, s, hn, h => by
    show gOk (hGone n (hGoneS n s)).1
    refine gone_ok n _ (by omega) ?_
    unfold hGoneS
    split
    · exact h
    · exact gRem_ok (by omega) h
theorem days_ok {t : zGS} (hz : zOkE t) (h : gOk t.1) : ∀ n, gOk (hDays t n).1
  | 0 => h
  | n + 1 => by
    have ih := days_ok hz h n
    obtain ⟨m, hm, a, b, c, hc, e⟩ := hDays_okE hz n
    show gOk (hDay (hDays t n)).1
    have ec : ((hDays t n).2 1).toNatClampNeg = c := by rw [e]; exact nI_clamp (by omega)
    show gOk (hDayB ((hDays t n).2 0).toNatClampNeg ((hDays t n).2 1).toNatClampNeg (hDays t n)).1
    rw [ec]
    exact gone_ok c _ hc ih
theorem Hs_row {B : Int} {s0 s1 : zGS} {hs : Nat → zGS} {δ : Nat → Nat} {k : Nat} {s s' P : Nat → Int32} (h : Hs B s0 s1 hs δ k s P) (hs' : ∀ i, i < 136 → s' i = s i) : Hs B s0 s1 hs δ k s' P := ⟨St_congr hs' h.1, h.2⟩
/-- behind hungry and would: the trial, and rows of the model that count no more -/
theorem tr_LI {cy : Nat → ClassId} {w : zW} {f g : zF} {B : Int} {s0 s1 t : zGS} {hs : Nat → zGS} {δ : Nat → Nat} {k n : Nat} {s s' P H T T' tx tx2 v nu : Nat → Int32} (hC : CI w cy f s0 s1 hs δ k n tx) (hH : Hs B s0 s1 hs δ k s P) (hM : MP w cy f s P H T tx2 v nu) (hv : v 0 = nI k ∧ v 1 = 0 ∧ v 2 = nI n) (hn : n ≤ 60) (ht : ∀ i, i < n → tx i = tx2 i) (hz : zTt s1 (cp s1 s0) t) (hg : zCl w cy g s0 t hs δ k) (hf : ∀ t, 129 ≤ t → g t = f t) (hs' : ∀ i, i < 136 → s' i = s i) : LI w cy (mW w cy (va_up g 136 (eInts cy 136 T')) v s' nu) (B + 60) := by
  have ot : gOk t.1 := by
    rcases hz.2 with e | ⟨m, e⟩
    · rw [e]
      exact hH.2.1
    · rw [e]
      exact days_ok (cp_ok hC.2.1.2.1.g hC.2.1.1) hH.2.1 m
  have hMg : MP w cy (va_up g 136 (eInts cy 136 T')) s P H T' tx2 v nu := by
    obtain ⟨⟨a, b, c⟩, d, e, x, y⟩ := hM
    exact ⟨⟨((va_up_ne _ _ (by decide)).trans (hf _ (by decide))).trans a, ((va_up_ne _ _ (by decide)).trans (hf _ (by decide))).trans b, ((va_up_ne _ _ (by decide)).trans (hf _ (by decide))).trans c⟩, ((va_up_ne _ _ (by decide)).trans (hf _ (by decide))).trans d, ((va_up_ne _ _ (by decide)).trans (hf _ (by decide))).trans e, va_up_self _ _ _, ((va_up_ne _ _ (by decide)).trans (hf _ (by decide))).trans y⟩
  have hCg : CI w cy g s0 t hs δ k n tx := ⟨hg, ⟨hC.2.1.1, hz.1, hC.2.1.2.2⟩, zOs_fr hC.2.2 (fun t h1 _ => hf t h1)⟩
  exact ⟨s0, t, hs, δ, k, s', P, H, T', n, tx, tx2, v, nu, CI_fr hCg (fun t ht => (mW_lo ht).trans (va_up_ne _ _ (by omega))), Hs_row (Hs_mono (Hs_trial hH ot) (by omega)) hs', MP_mW hMg, hv, hn, ht⟩
theorem pair_hungry {l : Launch} {D : va_G} {cy : Nat → ClassId} {w : zW} {f : zF} {B : Int} (hw : w.1 = 139) (hL : LI w cy f B) (hB : B ≤ 1000000000) : Pair l D cy w yX8_hungry cX8_hungry 2 3 77 yX9_hungry cX9_hungry 3 5 113 [] f (B + 60) := by
  obtain ⟨s0, s1, hs, δ, k, s, P, H, T, n, tx, tx2, v, nu, hC, hH, hM, hv, hn, ht⟩ := hL
  refine ⟨dHungry s T, fun g => (∃ t, zTt s1 (cp s1 s0) t ∧ zCl w cy g s0 t hs δ k) ∧ ∀ t, 129 ≤ t → g t = f t, zSp.mono (k_hungry9 hw hC.1 hC.2.1) (fun r g q => ⟨by rw [q.1, sim_hungry (T := T) hH.1 hH.2.1], q.2⟩), fun g hz => ?_⟩
  obtain ⟨⟨t, z1, z2⟩, z3⟩ := hz
  have hMg : MP w cy g s P H T tx2 v nu := MP_fr hM (fun t ht => z3 t (by omega))
  have hm := k_mhungry (l := l) (D := D) (f := g) (v := v) (s := s) (nu := nu) hw hMg.2.2.2.1 (fun i hi => St_good hH.1 i (by omega))
  rw [MP_self hMg] at hm
  exact ⟨⟨_, hMg.1.1⟩, zSd.sp hm ⟨rfl, tr_LI hC hH hM hv hn ht z1 z2 z3 (fun i hi => (dCp_in 136 hi).trans (dCp_in 136 hi))⟩⟩
theorem pair_would {l : Launch} {D : va_G} {cy : Nat → ClassId} {w : zW} {f : zF} {B : Int} {a c : Int32} (hw : w.1 = 139) (hL : LI w cy f B) (hB : B ≤ 1000000000) : Pair l D cy w yX8_would cX8_would 4 3 77 yX9_would cX9_would 5 6 136 [.int a, .int c] f (B + 60) := by
  obtain ⟨s0, s1, hs, δ, k, s, P, H, T, n, tx, tx2, v, nu, hC, hH, hM, hv, hn, ht⟩ := hL
  refine ⟨dWould s T a c, fun g => (∃ t, zTt s1 (cp s1 s0) t ∧ zCl w cy g s0 t hs δ k) ∧ ∀ t, 129 ≤ t → g t = f t, zSp.mono (k_would9 hw hC.1 hC.2.1) (fun r g q => ⟨by rw [q.1, sim_would (T := T) hH.1 hH.2.1], q.2⟩), fun g hz => ?_⟩
  obtain ⟨⟨t, z1, z2⟩, z3⟩ := hz
  have hMg : MP w cy g s P H T tx2 v nu := MP_fr hM (fun t ht => z3 t (by omega))
  have hm := k_mwould (l := l) (D := D) (f := g) (v := v) (s := s) (nu := nu) (x := a) (y := c) hw hMg.2.2.2.1 (fun h1 i hi => St_good hH.1 i (by have := zwin_hi h1 (by decide) (show (60 : Int32) = nI 60 from rfl) (by decide); omega))
  rw [MP_self hMg] at hm
  refine ⟨⟨_, hMg.1.1⟩, zSp.mono hm (fun r g' q => ?_)⟩
  obtain ⟨q1, T', s', q2, rfl⟩ := q
  exact ⟨q1, tr_LI hC hH hM hv hn ht z1 z2 z3 q2⟩
theorem pair_undo {l : Launch} {D : va_G} {cy : Nat → ClassId} {w : zW} {f : zF} {B : Int} (hw : w.1 = 139) (hL : LI w cy f B) (hB : B ≤ 1000000000) : Pair l D cy w yX8_undo cX8_undo 2 2 46 yX9_undo cX9_undo 2 0 0 [] f (B + 60) := by
  have hL' := LI_mono hL (show B ≤ B + 60 by omega)
  obtain ⟨s0, s1, hs, δ, k, s, P, H, T, n, tx, tx2, v, nu, hC, hH, hM, hv, hn, ht⟩ := hL
  cases k with
  | zero =>
    refine ⟨-1000002, fun g => g = f, zSp.mono (k_undo0 hw hC.1) (fun r g q => q), fun g hg => ?_⟩
    subst hg
    have hm := k_mundo0 (l := l) (D := D) (cy := cy) (f := g) (v := v) (s := s) (nu := nu) hw hv.1
    rw [MP_self hM] at hm
    exact ⟨⟨_, hM.1.1⟩, zSd.sp hm ⟨rfl, hL'⟩⟩
  | succ k =>
    have k4 : k < 4 := hH.2.2.2.2.2.1
    have o0 : gOk s0.1 := by
      obtain ⟨mc, bk, r, o, i⟩ := hH.1
      exact o
    refine ⟨nI k, fun g => zCl w cy g (cp s0 (hs (δ k))) s1 hs δ k ∧ ∀ t, 129 ≤ t → g t = f t, zSp.mono (k_undo hw hC.1 hC.2.1) (fun r g q => q), fun g hz => ?_⟩
    obtain ⟨z1, z2⟩ := hz
    have hMg : MP w cy g s P H T tx2 v nu := MP_fr hM (fun t ht => z2 t (by omega))
    have hm := k_mundo (l := l) (D := D) (f := g) (v := v) (s := s) (nu := nu) (k := k) hw hMg.2.1 hv.1 k4
    rw [MP_self hMg] at hm
    refine ⟨⟨_, hMg.1.1⟩, zSd.sp hm ⟨rfl, ?_⟩⟩
    have past := hH.2.2.2.2.2.2 k (by omega)
    have st : St B (cp s0 (hs (δ k))) (dUn s P k 136) := cp_St (St_congr (fun i hi => dUn_in 136 hi) past) o0
    have hH' : Hs B (cp s0 (hs (δ k))) s1 hs δ k (dUn s P k 136) P := ⟨st, hH.2.1, hH.2.2.1, hH.2.2.2.1, hH.2.2.2.2.1, by omega, fun i hi => hH.2.2.2.2.2.2 i (by omega)⟩
    have hI : zInv (cp s0 (hs (δ k))) s1 hs δ k := ⟨cp_ok hC.2.1.1.g (hC.2.1.2.2.1 _ (hC.2.1.2.2.2.1 k k4)), hC.2.1.2.1, hC.2.1.2.2.1, hC.2.1.2.2.2.1, by omega⟩
    exact ⟨_, s1, hs, δ, k, dUn s P k 136, P, H, T, n, tx, tx2, upd v 0 (nI k), nu, CI_fr ⟨z1, hI, zOs_fr hC.2.2 (fun t h1 _ => z2 t h1)⟩ (fun t ht => mW_lo ht), Hs_mono hH' (by omega), MP_mW hMg, ⟨upd_eq, (upd_ne (by decide)).trans hv.2.1, (upd_ne (by decide)).trans hv.2.2⟩, hn, ht⟩
theorem sim_type {v tx tx2 : Nat → Int32} {n : Nat} {x : Int32} (hv : v 2 = nI n) (hn : n ≤ 60) (ht : ∀ i, i < n → tx i = tx2 i) : ∃ n', n' ≤ 60 ∧ (cTy (nI n) tx x).1 = (dTy v tx2 x).1 ∧ (cTy (nI n) tx x).2.1 = nI n' ∧ (dTy v tx2 x).2.1 = nI n' ∧ ∀ i, i < n' → (cTy (nI n) tx x).2.2 i = (dTy v tx2 x).2.2 i := by
  have tn := tnI (n := n) (by omega)
  have t60 := tk60
  unfold cTy dTy
  rw [hv]
  by_cases c1 : zwin x 32 126 = 0
  · rw [if_pos c1, if_pos c1]
    exact ⟨n, hn, rfl, rfl, rfl, ht⟩
  · rw [if_neg c1, if_neg c1, if_neg (show ¬ nI n < 0 from neg_nn (by omega))]
    by_cases c2 : n < 60
    · rw [if_pos (show nI n < 60 from tlt.mpr (by omega)), if_neg (show ¬ nI n = 60 from fun z => by have := nI_inj4 (b := 60) z (by omega) (by decide); omega), nI_clamp (by omega)]
      refine ⟨n + 1, by omega, rfl, nI_add n 1, nI_add n 1, fun i hi => ?_⟩
      show upd tx n x i = upd tx2 n x i
      by_cases e : i = n
      · rw [e, upd_eq, upd_eq]
      · rw [upd_ne e, upd_ne e]
        exact ht i (by omega)
    · have e : n = 60 := by omega
      rw [if_neg (show ¬ nI n < 60 from fun z => by have := tlt.mp z; omega), if_pos (show nI n = 60 by rw [e]; rfl)]
      exact ⟨n, hn, rfl, rfl, rfl, ht⟩
theorem ty_LI {cy : Nat → ClassId} {w : zW} {f g g' : zF} {B : Int} {s0 s1 : zGS} {hs : Nat → zGS} {δ : Nat → Nat} {k n n' : Nat} {s P H T tx tx' tx2' v' nu : Nat → Int32} (hC : CI w cy f s0 s1 hs δ k n tx) (hH : Hs B s0 s1 hs δ k s P) (hM : MP w cy g' s P H T tx2' v' nu) (hO : zOs w cy g (nI n') tx') (hf : ∀ t, t ≠ 129 → t ≠ 130 → g t = f t) (hg' : ∀ t, t < 132 → g' t = g t) (hv : v' 0 = nI k ∧ v' 1 = 0 ∧ v' 2 = nI n') (hn : n' ≤ 60) (ht : ∀ i, i < n' → tx' i = tx2' i) : LI w cy g' (B + 60) :=
  ⟨s0, s1, hs, δ, k, s, P, H, T, n', tx', tx2', v', nu, CI_fr ⟨zCl_fr hC.1 (fun t ht => hf t (by omega) (by omega)), hC.2.1, hO⟩ hg', Hs_mono hH (by omega), hM, hv, hn, ht⟩
theorem pair_type {l : Launch} {D : va_G} {cy : Nat → ClassId} {w : zW} {f : zF} {B : Int} {a : Int32} (hw : w.1 = 139) (hL : LI w cy f B) (hB : B ≤ 1000000000) : Pair l D cy w yX8_type cX8_type 2 1 22 yX9_type cX9_type 2 1 22 [.int a] f (B + 60) := by
  obtain ⟨s0, s1, hs, δ, k, s, P, H, T, n, tx, tx2, v, nu, hC, hH, hM, hv, hn, ht⟩ := hL
  obtain ⟨h130, p9, q9, r9, c9, nu9, h129, h131⟩ := id hC.2.2
  obtain ⟨n', hn', e1, e2, e3, e4⟩ := sim_type (x := a) hv.2.2 hn ht
  refine ⟨(dTy v tx2 a).1, fun g => g 129 = eOrd w (ov (cTy (nI n) tx a).2.1 p9 q9 r9 c9) ∧ g 130 = eChars cy 60 (cTy (nI n) tx a).2.2 ∧ ∀ t, t ≠ 129 → t ≠ 130 → g t = f t, zSp.mono (k_type hw hC.1 hC.2.1 h130 h129) (fun r g q => ⟨by rw [q.1, e1], q.2⟩), fun g hz => ?_⟩
  obtain ⟨z1, z2, z3⟩ := hz
  have hMg : MP w cy g s P H T tx2 v nu := MP_fr hM (fun t ht => z3 t (by omega) (by omega))
  have hm := k_mtype (l := l) (D := D) (f := g) (v := v) (s := s) (nu := nu) (x := a) hw hMg.2.2.2.2 hv.2.2 hn
  rw [MP_self hMg] at hm
  refine ⟨⟨_, hMg.1.1⟩, zSd.sp hm ⟨rfl, ?_⟩⟩
  have hMg' : MP w cy (va_up g 137 (eInts cy 60 (dTy v tx2 a).2.2)) s P H T (dTy v tx2 a).2.2 v nu := by
    obtain ⟨⟨a, b, c⟩, d, e, x, y⟩ := hMg
    exact ⟨⟨(va_up_ne _ _ (by decide)).trans a, (va_up_ne _ _ (by decide)).trans b, (va_up_ne _ _ (by decide)).trans c⟩, (va_up_ne _ _ (by decide)).trans d, (va_up_ne _ _ (by decide)).trans e, (va_up_ne _ _ (by decide)).trans x, va_up_self _ _ _⟩
  rw [e2] at z1
  exact ty_LI hC hH (MP_mW hMg') ⟨z2, p9, q9, r9, c9, nu9, z1, (z3 131 (by decide) (by decide)).trans h131⟩ z3 (fun t ht => (mW_lo ht).trans (va_up_ne _ _ (by omega))) ⟨(upd_ne (by decide)).trans hv.1, (upd_ne (by decide)).trans hv.2.1, upd_eq.trans e3⟩ hn' e4
theorem pair_clearText {l : Launch} {D : va_G} {cy : Nat → ClassId} {w : zW} {f : zF} {B : Int} (hw : w.1 = 139) (hL : LI w cy f B) (hB : B ≤ 1000000000) : Pair l D cy w yX8_clearText cX8_clearText 1 1 21 yX9_clearText cX9_clearText 2 0 0 [] f (B + 60) := by
  obtain ⟨s0, s1, hs, δ, k, s, P, H, T, n, tx, tx2, v, nu, hC, hH, hM, hv, hn, ht⟩ := hL
  obtain ⟨h130, p9, q9, r9, c9, nu9, h129, h131⟩ := id hC.2.2
  refine ⟨nI n, fun g => g 129 = eOrd w (ov 0 p9 q9 r9 c9) ∧ g 130 = eChars cy 60 tx ∧ ∀ t, t ≠ 129 → t ≠ 130 → g t = f t, zSp.mono (k_clearText hw hC.1 hC.2.1 h130 h129) (fun r g q => q), fun g hz => ?_⟩
  obtain ⟨z1, z2, z3⟩ := hz
  have hMg : MP w cy g s P H T tx2 v nu := MP_fr hM (fun t ht => z3 t (by omega) (by omega))
  have hm := k_mclear (l := l) (D := D) (cy := cy) (f := g) (v := v) (s := s) (nu := nu) hw
  rw [MP_self hMg] at hm
  refine ⟨⟨_, hMg.1.1⟩, zSd.sp hm ⟨by rw [hv.2.2], ?_⟩⟩
  exact ty_LI (n' := 0) hC hH (MP_mW hMg) ⟨z2, p9, q9, r9, c9, nu9, z1, (z3 131 (by decide) (by decide)).trans h131⟩ z3 (fun t ht => mW_lo ht) ⟨(upd_ne (by decide)).trans hv.1, (upd_ne (by decide)).trans hv.2.1, upd_eq⟩ (by decide) (fun i hi => absurd hi (Nat.not_lt_zero i))
