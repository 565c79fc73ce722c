theorem mQ_run {w : zW} {cy : Nat → ClassId} {f : zF} {v s nu P : Nat → Int32} {k : Nat} {q : Int32 × Bool × (Nat → Int32)} (hp : f 134 = eInts cy 544 P) (hr : v 1 = 1) (hq : q.2.1 = false → q.2.2 = s) : mQ w cy f v s nu P k q = mW w cy f v q.2.2 nu := by
  unfold mQ
  by_cases h : q.2.1 = true
  · rw [if_pos h]
    unfold dPa dPv
    rw [if_neg (by rw [hr]; decide), if_neg (by rw [hr]; decide), ← zsame_up hp rfl]
  · rw [if_neg h, hq (by cases e : q.2.1 with | true => exact absurd e h | false => rfl)]
theorem dGroup_f {s : Nat → Int32} {bk : Nat} {p d n : Int32} : (dGroup s bk p d n).2.1 = false → (dGroup s bk p d n).2.2 = s := by
  unfold dGroup
  repeat' split
  all_goals first | exact fun _ => rfl | exact fun h => by cases h
theorem dPay_f {s : Nat → Int32} {m : Int32} : (dPay s m).2.1 = false → (dPay s m).2.2 = s := by
  unfold dPay
  repeat' split
  all_goals first | exact fun _ => rfl | exact fun h => by cases h
theorem dSend_f {s : Nat → Int32} {x n : Int32} : (dSend s x n).2.1 = false → (dSend s x n).2.2 = s := by
  unfold dSend
  repeat' split
  all_goals first | exact fun _ => rfl | exact fun h => by cases h
theorem dOff_f {s : Nat → Int32} {bk : Nat} {x : Int32} : (dOff s bk x).2.1 = false → (dOff s bk x).2.2 = s := by
  unfold dOff
  repeat' split
  all_goals first | exact fun _ => rfl | exact fun h => by cases h
theorem dEnd_f {s : Nat → Int32} {x : Int32} : (dEnd s x).2.1 = false → (dEnd s x).2.2 = s := by
  unfold dEnd
  repeat' split
  all_goals first | exact fun _ => rfl | exact fun h => by cases h
def dCall (s : Nat → Int32) (o : Int32) (nu : Nat → Int32) : Int32 × Bool × (Nat → Int32) := if o = 103 then dGroup s (s 1).toNatClampNeg (nu 0) (nu 1) (nu 2) else if o = 112 then dPay s (nu 0) else if o = 115 then dSend s (nu 0) (nu 1) else if o = 120 then dOff s (s 1).toNatClampNeg (nu 0) else dEnd s (nu 0)
def dInvC (s : Nat → Int32) : Prop := ∃ mc bk, s 0 = nI mc ∧ mc ≤ 4 ∧ s 1 = nI bk ∧ bk ≤ 10 ∧ ∀ x, ¬ (zwin x 1 60) = 0 → (s 3 + x) ≤ 9999 → ∀ i, i < x.toNatClampNeg → dGood (dEN s i)
set_option maxHeartbeats 4000000 in
set_option maxRecDepth 100000 in
theorem k_calls {l : Launch} {D : va_G} {cy : Nat → ClassId} {w : zW} {f : zF} {v s nu : Nat → Int32} {P : Nat → Int32} {k : Nat}  (hw : w.1 = 139) (hp : f 134 = eInts cy 544 P) (hr : v 1 = 1) (hk : v 0 = nI k) (hk4 : k ≤ 4) (hI : dInvC s) : zSd l D cy yX9_calls cX9_calls 1 (some .int) 7 157 [.ref (w.2 (132))] w (mW w cy f v s nu) (some (.int ((dCall s (v 8) nu).1))) (mW w cy f v ((dCall s (v 8) nu).2.2) nu) := by
  refine zSd.intro (by decide) (Nat.le_of_ble_eq_true rfl) (fun G X E => ?_)
  obtain ⟨mc, bk, hm, hmc, hg, hbk, hE⟩ := hI
  show G (w, 0, 0) (mW w cy f v s nu) [(0, .ref (w.2 (132)))] 0 []
  refine zr_aload_n X 0 dX9_calls_0 rfl rfl ?_
  refine zr_get X zfd_RX9_142 (132) (show 132 < w.1 by rw [hw]; omega) mW_132 (v := .int (v 8)) rfl dX9_calls_1 ?_
  by_cases h1 : (v 8) = 103
  · refine zr_lookup X (off := 61) (tgt := 65) dX9_calls_4 (by decide) (by rw [h1]; decide) (by decide) ?_
    refine zr_aload_n X 0 dX9_calls_65 rfl rfl ?_
    refine zr_aload_n X 0 dX9_calls_66 rfl rfl ?_
    refine zr_get X zfd_RX9_25 (132) (show 132 < w.1 by rw [hw]; omega) mW_132 (v := .ref (w.2 (138))) rfl dX9_calls_67 ?_
    refine zr_iconst X (v := 0) dX9_calls_70 (by decide) ?_
    refine zr_iald X (138) (show 138 < w.1 by rw [hw]; omega) mW_138 (0) (rfl) (by decide) (by decide) dX9_calls_71 ?_
    refine zr_aload_n X 0 dX9_calls_72 rfl rfl ?_
    refine zr_get X zfd_RX9_25 (132) (show 132 < w.1 by rw [hw]; omega) mW_132 (v := .ref (w.2 (138))) rfl dX9_calls_73 ?_
    refine zr_iconst X (v := 1) dX9_calls_76 (by decide) ?_
    refine zr_iald X (138) (show 138 < w.1 by rw [hw]; omega) mW_138 (1) (rfl) (by decide) (by decide) dX9_calls_77 ?_
    refine zr_aload_n X 0 dX9_calls_78 rfl rfl ?_
    refine zr_get X zfd_RX9_25 (132) (show 132 < w.1 by rw [hw]; omega) mW_132 (v := .ref (w.2 (138))) rfl dX9_calls_79 ?_
    refine zr_iconst X (v := 2) dX9_calls_82 (by decide) ?_
    refine zr_iald X (138) (show 138 < w.1 by rw [hw]; omega) mW_138 (2) (rfl) (by decide) (by decide) dX9_calls_83 ?_
    have kc1 := k_mgroup (l := l) (D := D) (cy := cy) (w := w) (f := f) (v := v) (s := s) (nu := nu) (P := P) (k := k) (p := nu 0) (d := nu 1) (n := nu 2) hw hp (Or.inr hr) hk hk4 hg hbk
    rw [mQ_run hp hr dGroup_f] at kc1
    refine zr_cV X (As := [.int (nu 0), .int (nu 1), .int (nu 2)]) (rest := []) (f' := mW w cy f v ((dGroup s bk (nu 0) (nu 1) (nu 2)).2.2) nu) (st' := [.int ((dGroup s bk (nu 0) (nu 1) (nu 2)).1)]) zc_X9_group (132) (show 132 < w.1 by rw [hw]; omega) mW_132 (q9 := _) rfl rfl kc1 ⟨Nat.le_of_ble_eq_true rfl, Nat.le_of_ble_eq_true rfl⟩ ⟨Nat.le_refl _, Nat.le_refl _⟩ rfl (Nat.le_of_ble_eq_true rfl) zm_4_216 rfl dX9_calls_84 rfl ?_
    exact zret_i E rfl dX9_calls_87 (by unfold dCall; rw [if_pos h1]; rw [hg, nI_clamp (by omega)]) (by unfold dCall; rw [if_pos h1]; rw [hg, nI_clamp (by omega)])
  by_cases h2 : (v 8) = 112
  · refine zr_lookup X (off := 95) (tgt := 99) dX9_calls_4 (by decide) (by rw [h2]; decide) (by decide) ?_
    refine zr_aload_n X 0 dX9_calls_99 rfl rfl ?_
    refine zr_aload_n X 0 dX9_calls_100 rfl rfl ?_
    refine zr_get X zfd_RX9_25 (132) (show 132 < w.1 by rw [hw]; omega) mW_132 (v := .ref (w.2 (138))) rfl dX9_calls_101 ?_
    refine zr_iconst X (v := 0) dX9_calls_104 (by decide) ?_
    refine zr_iald X (138) (show 138 < w.1 by rw [hw]; omega) mW_138 (0) (rfl) (by decide) (by decide) dX9_calls_105 ?_
    have kc2 := k_mpay (l := l) (D := D) (cy := cy) (w := w) (f := f) (v := v) (s := s) (nu := nu) (P := P) (k := k) (m := nu 0) hw hp (Or.inr hr) hk hk4 
    rw [mQ_run hp hr dPay_f] at kc2
    refine zr_cV X (As := [.int (nu 0)]) (rest := []) (f' := mW w cy f v ((dPay s (nu 0)).2.2) nu) (st' := [.int ((dPay s (nu 0)).1)]) zc_X9_pay (132) (show 132 < w.1 by rw [hw]; omega) mW_132 (q9 := _) rfl rfl kc2 ⟨Nat.le_of_ble_eq_true rfl, Nat.le_of_ble_eq_true rfl⟩ ⟨Nat.le_refl _, Nat.le_refl _⟩ rfl (Nat.le_of_ble_eq_true rfl) zm_4_218 rfl dX9_calls_106 rfl ?_
    exact zret_i E rfl dX9_calls_109 (by unfold dCall; rw [if_neg h1, if_pos h2]) (by unfold dCall; rw [if_neg h1, if_pos h2])
  by_cases h3 : (v 8) = 115
  · refine zr_lookup X (off := 44) (tgt := 48) dX9_calls_4 (by decide) (by rw [h3]; decide) (by decide) ?_
    refine zr_aload_n X 0 dX9_calls_48 rfl rfl ?_
    refine zr_aload_n X 0 dX9_calls_49 rfl rfl ?_
    refine zr_get X zfd_RX9_25 (132) (show 132 < w.1 by rw [hw]; omega) mW_132 (v := .ref (w.2 (138))) rfl dX9_calls_50 ?_
    refine zr_iconst X (v := 0) dX9_calls_53 (by decide) ?_
    refine zr_iald X (138) (show 138 < w.1 by rw [hw]; omega) mW_138 (0) (rfl) (by decide) (by decide) dX9_calls_54 ?_
    refine zr_aload_n X 0 dX9_calls_55 rfl rfl ?_
    refine zr_get X zfd_RX9_25 (132) (show 132 < w.1 by rw [hw]; omega) mW_132 (v := .ref (w.2 (138))) rfl dX9_calls_56 ?_
    refine zr_iconst X (v := 1) dX9_calls_59 (by decide) ?_
    refine zr_iald X (138) (show 138 < w.1 by rw [hw]; omega) mW_138 (1) (rfl) (by decide) (by decide) dX9_calls_60 ?_
    have kc3 := k_msend (l := l) (D := D) (cy := cy) (w := w) (f := f) (v := v) (s := s) (nu := nu) (P := P) (k := k) (x := nu 0) (n := nu 1) hw hp (Or.inr hr) hk hk4 hm hmc
    rw [mQ_run hp hr dSend_f] at kc3
    refine zr_cV X (As := [.int (nu 0), .int (nu 1)]) (rest := []) (f' := mW w cy f v ((dSend s (nu 0) (nu 1)).2.2) nu) (st' := [.int ((dSend s (nu 0) (nu 1)).1)]) zc_X9_send (132) (show 132 < w.1 by rw [hw]; omega) mW_132 (q9 := _) rfl rfl kc3 ⟨Nat.le_of_ble_eq_true rfl, Nat.le_of_ble_eq_true rfl⟩ ⟨Nat.le_refl _, Nat.le_refl _⟩ rfl (Nat.le_of_ble_eq_true rfl) zm_4_215 rfl dX9_calls_61 rfl ?_
    exact zret_i E rfl dX9_calls_64 (by unfold dCall; rw [if_neg h1, if_neg h2, if_pos h3]) (by unfold dCall; rw [if_neg h1, if_neg h2, if_pos h3])
  by_cases h4 : (v 8) = 120
  · refine zr_lookup X (off := 84) (tgt := 88) dX9_calls_4 (by decide) (by rw [h4]; decide) (by decide) ?_
    refine zr_aload_n X 0 dX9_calls_88 rfl rfl ?_
    refine zr_aload_n X 0 dX9_calls_89 rfl rfl ?_
    refine zr_get X zfd_RX9_25 (132) (show 132 < w.1 by rw [hw]; omega) mW_132 (v := .ref (w.2 (138))) rfl dX9_calls_90 ?_
    refine zr_iconst X (v := 0) dX9_calls_93 (by decide) ?_
    refine zr_iald X (138) (show 138 < w.1 by rw [hw]; omega) mW_138 (0) (rfl) (by decide) (by decide) dX9_calls_94 ?_
    have kc4 := k_moff (l := l) (D := D) (cy := cy) (w := w) (f := f) (v := v) (s := s) (nu := nu) (P := P) (k := k) (x := nu 0) hw hp (Or.inr hr) hk hk4 hg hbk
    rw [mQ_run hp hr dOff_f] at kc4
    refine zr_cV X (As := [.int (nu 0)]) (rest := []) (f' := mW w cy f v ((dOff s bk (nu 0)).2.2) nu) (st' := [.int ((dOff s bk (nu 0)).1)]) zc_X9_off (132) (show 132 < w.1 by rw [hw]; omega) mW_132 (q9 := _) rfl rfl kc4 ⟨Nat.le_of_ble_eq_true rfl, Nat.le_of_ble_eq_true rfl⟩ ⟨Nat.le_refl _, Nat.le_refl _⟩ rfl (Nat.le_of_ble_eq_true rfl) zm_4_217 rfl dX9_calls_95 rfl ?_
    exact zret_i E rfl dX9_calls_98 (by unfold dCall; rw [if_neg h1, if_neg h2, if_neg h3, if_pos h4]; rw [hg, nI_clamp (by omega)]) (by unfold dCall; rw [if_neg h1, if_neg h2, if_neg h3, if_pos h4]; rw [hg, nI_clamp (by omega)])
  refine zr_lookup X (off := 106) (tgt := 110) dX9_calls_4 (by decide) (by rw [lv_osw h1 (show (103 : Int32).toInt = 103 from by decide), lv_osw h2 (show (112 : Int32).toInt = 112 from by decide), lv_osw h3 (show (115 : Int32).toInt = 115 from by decide), lv_osw h4 (show (120 : Int32).toInt = 120 from by decide)]; rfl) (by decide) ?_
  refine zr_aload_n X 0 dX9_calls_110 rfl rfl ?_
  refine zr_aload_n X 0 dX9_calls_111 rfl rfl ?_
  refine zr_get X zfd_RX9_25 (132) (show 132 < w.1 by rw [hw]; omega) mW_132 (v := .ref (w.2 (138))) rfl dX9_calls_112 ?_
  refine zr_iconst X (v := 0) dX9_calls_115 (by decide) ?_
  refine zr_iald X (138) (show 138 < w.1 by rw [hw]; omega) mW_138 (0) (rfl) (by decide) (by decide) dX9_calls_116 ?_
  have kc5 := k_mend (l := l) (D := D) (cy := cy) (w := w) (f := f) (v := v) (s := s) (nu := nu) (P := P) (k := k) (x := nu 0) hw hp (Or.inr hr) hk hk4 (hE _)
  rw [mQ_run hp hr dEnd_f] at kc5
  refine zr_cV X (As := [.int (nu 0)]) (rest := []) (f' := mW w cy f v ((dEnd s (nu 0)).2.2) nu) (st' := [.int ((dEnd s (nu 0)).1)]) zc_X9_end (132) (show 132 < w.1 by rw [hw]; omega) mW_132 (q9 := _) rfl rfl kc5 ⟨Nat.le_of_ble_eq_true rfl, Nat.le_of_ble_eq_true rfl⟩ ⟨Nat.le_refl _, Nat.le_refl _⟩ rfl (Nat.le_of_ble_eq_true rfl) zm_4_219 rfl dX9_calls_117 rfl ?_
  exact zret_i E rfl dX9_calls_120 (by unfold dCall; rw [if_neg h1, if_neg h2, if_neg h3, if_neg h4]) (by unfold dCall; rw [if_neg h1, if_neg h2, if_neg h3, if_neg h4])
abbrev dSt9 := Int32 × Nat × (Nat → Int32) × (Nat → Int32) × (Nat → Int32)
def dPyV (v : Nat → Int32) (o : Int32) (p2 : Nat) : Nat → Int32 := upd (upd (upd v 4 (v 3)) 8 o) 3 (nI p2)
def dPyW (v : Nat → Int32) (r c : Int32) : Nat → Int32 := upd (upd (upd v 5 r) 6 c) 7 (v 7 + 1)
def dPyS (tx : Nat → Int32) (n : Nat) (a : dSt9) : dSt9 :=
  if (dReads tx n a.2.1 a.2.2.2.1).1 = 0 then (0, (dReads tx n a.2.1 a.2.2.2.1).2.1, dPyW (dPyV a.2.2.1 (dOr tx n a.2.1) (dReads tx n a.2.1 a.2.2.2.1).2.1) 1 (nI (dReads tx n a.2.1 a.2.2.2.1).2.1 - a.2.2.1 3), (dReads tx n a.2.1 a.2.2.2.1).2.2, a.2.2.2.2)
  else ((if (dCall a.2.2.2.2 (dOr tx n a.2.1) (dReads tx n a.2.1 a.2.2.2.1).2.2).1 < 0 then 0 else 1), (dReads tx n a.2.1 a.2.2.2.1).2.1, dPyW (dPyV a.2.2.1 (dOr tx n a.2.1) (dReads tx n a.2.1 a.2.2.2.1).2.1) 2 (dCall a.2.2.2.2 (dOr tx n a.2.1) (dReads tx n a.2.1 a.2.2.2.1).2.2).1, (dReads tx n a.2.1 a.2.2.2.1).2.2, (dCall a.2.2.2.2 (dOr tx n a.2.1) (dReads tx n a.2.1 a.2.2.2.1).2.2).2.2)
def dPg (tx : Nat → Int32) (n : Nat) : Nat → dSt9 → dSt9
  | 0, a => a
  | m + 1, a => if a.2.2.1 2 ≤ a.2.2.1 3 then a else if a.1 = 0 then a else dPg tx n m (dPyS tx n a)
theorem dPg_s {tx : Nat → Int32} {n m : Nat} {a : dSt9} : dPg tx n (m + 1) a = if a.2.2.1 2 ≤ a.2.2.1 3 then a else if a.1 = 0 then a else dPg tx n m (dPyS tx n a) := rfl
def dPlV (v : Nat → Int32) : Nat → Int32 := upd (upd (upd (upd v 1 1) 3 0) 4 0) 7 0
def dPlays (tx : Nat → Int32) (n : Nat) (v nu s : Nat → Int32) : dSt9 := dPg tx n 61 (1, 0, dPlV v, nu, s)
theorem dReads_le {tx : Nat → Int32} {n p : Nat} {nu : Nat → Int32} (hn : n ≤ 60) (hp : p ≤ n) : (dReads tx n p nu).2.1 ≤ n := by
  have rd : ∀ m k (a : Int32 × Nat × (Nat → Int32)), a.2.1 ≤ n → (dRd tx n m k a).2.1 ≤ n := by
    intro m
    induction m with
    | zero =>
      intro k a h
      rw [dRd_0]
      split
      · exact h
      · split
        · exact h
        · rename_i q
          exact dAt_lt q (by omega) hn
    | succ m ih =>
      intro k a h
      rw [dRd_s]
      split
      · exact h
      · split
        · exact h
        · rename_i q
          exact ih _ _ (dNum_le hn (dAt_lt q (by omega) hn))
  unfold dReads
  split
  · exact hp
  · rename_i q
    exact rd _ _ _ (dNum_le hn (dOr_lt hn hp q))
theorem dRead_up {tx : Nat → Int32} {n p : Nat} {nu : Nat → Int32} (hn : n ≤ 60) (hp : p ≤ n) (h : ¬ (dReads tx n p nu).1 = 0) : p + 1 ≤ (dReads tx n p nu).2.1 := by
  have nm : ∀ q b nu9, b ≤ (dNum tx n q b nu9).2.1 := fun q b nu9 => Nat.le_add_right _ _
  have rd : ∀ m k (a : Int32 × Nat × (Nat → Int32)), a.2.1 ≤ (dRd tx n m k a).2.1 := by
    intro m
    induction m with
    | zero =>
      intro k a
      rw [dRd_0]
      split
      · exact Nat.le_refl _
      · split
        · exact Nat.le_refl _
        · exact Nat.le_succ _
    | succ m ih =>
      intro k a
      rw [dRd_s]
      split
      · exact Nat.le_refl _
      · split
        · exact Nat.le_refl _
        · exact Nat.le_trans (Nat.le_succ _) (Nat.le_trans (nm _ _ _) (ih _ _))
  unfold dReads at *
  split at h
  · exact absurd rfl h
  · rename_i q
    rw [if_neg q]
    exact Nat.le_trans (nm _ _ _) (rd _ _ _)
set_option maxHeartbeats 4000000 in
set_option maxRecDepth 100000 in
theorem k_plays {l : Launch} {D : va_G} {cy : Nat → ClassId} {w : zW} {f : zF} {v s nu : Nat → Int32} {P : Nat → Int32} {k : Nat} {tx : Nat → Int32} {n : Nat} {RS : dSt9}  (hw : w.1 = 139) (hp : f 134 = eInts cy 544 P) (htx : f 137 = eInts cy 60 tx) (hn : n ≤ 60) (J : (Nat → Int32) → Prop) (hJ1 : ∀ s, J s → dInvC s) (hJ2 : ∀ s o nu, J s → J (dCall s o nu).2.2) (hJ0 : J s) (hv2 : v 2 = nI n) (hk : v 0 = nI k) (hk4 : k ≤ 4) (eRS : dPlays tx n v nu s = RS) : zSd l D cy yX9_plays cX9_plays 4 (some .boolean) 8 177 [.ref (w.2 (132))] w (mW w cy f v s nu) (some (.int (RS.1))) (mW w cy f (upd RS.2.2.1 1 0) RS.2.2.2.2 RS.2.2.2.1) := by
  refine zSd.intro (by decide) (Nat.le_of_ble_eq_true rfl) (fun G X E => ?_)
  show G (w, 0, 0) (mW w cy f v s nu) [(0, .ref (w.2 (132)))] 0 []
  refine zr_aload_n X 0 dX9_plays_0 rfl rfl ?_
  refine zr_iconst X (v := 1) dX9_plays_1 (by decide) ?_
  refine zr_put X zfd_RX9_28 zty_9_5 (132) (show 132 < w.1 by rw [hw]; omega) mW_132 rfl rfl (Nat.le_of_ble_eq_true rfl) eMod_s5 dX9_plays_2 ?_
  refine zcw (f2 := mW w cy f (upd v 1 1) s nu) mu_132 ?_
  refine zr_aload_n X 0 dX9_plays_5 rfl rfl ?_
  refine zr_iconst X (v := 0) dX9_plays_6 (by decide) ?_
  refine zr_put X zfd_RX9_136 zty_9_8 (132) (show 132 < w.1 by rw [hw]; omega) mW_132 rfl rfl (Nat.le_of_ble_eq_true rfl) eMod_s8 dX9_plays_7 ?_
  refine zcw (f2 := mW w cy f (upd (upd v 1 1) 3 0) s nu) mu_132 ?_
  refine zr_aload_n X 0 dX9_plays_10 rfl rfl ?_
  refine zr_iconst X (v := 0) dX9_plays_11 (by decide) ?_
  refine zr_put X zfd_RX9_170 zty_9_9 (132) (show 132 < w.1 by rw [hw]; omega) mW_132 rfl rfl (Nat.le_of_ble_eq_true rfl) eMod_s9 dX9_plays_12 ?_
  refine zcw (f2 := mW w cy f (upd (upd (upd v 1 1) 3 0) 4 0) s nu) mu_132 ?_
  refine zr_aload_n X 0 dX9_plays_15 rfl rfl ?_
  refine zr_iconst X (v := 0) dX9_plays_16 (by decide) ?_
  refine zr_put X zfd_RX9_173 zty_9_12 (132) (show 132 < w.1 by rw [hw]; omega) mW_132 rfl rfl (Nat.le_of_ble_eq_true rfl) eMod_s12 dX9_plays_17 ?_
  refine zcw (f2 := mW w cy f (upd (upd (upd (upd v 1 1) 3 0) 4 0) 7 0) s nu) mu_132 ?_
  refine zr_iconst X (v := 1) dX9_plays_20 (by decide) ?_
  refine zr_istore_n X (ls' := [(1, .int (1)), (0, .ref (w.2 (132)))]) dX9_plays_21 rfl (by decide) rfl ?_
  refine zr_loc X (ls' := [(0, .ref (w.2 (132))), (1, .int (1))]) [1, 0] rfl ?_
  refine zcast (f2 := mW w cy f (dPlV v) s nu) (ls2 := [(0, .ref (w.2 (132))), (1, .int (1))]) rfl rfl ?_
  refine zdown (P := fun i9 => ∀ (b : Int32) (p : Nat) (v nu s : Nat → Int32), dPg tx n (61 - (i9)) (b, p, v, nu, s) = RS → J s → v 2 = nI n → v 3 = nI p → p ≤ n → v 1 = 1 → v 0 = nI k → (b = 0 ∨ b = 1) → (b = 0 ∨ (i9) ≤ p) → G (w, 0, 0) (mW w cy f v s nu) [(0, .ref (w.2 (132))), (1, .int (b))] 22 []) (B := 61) ?_ (fun i9 hn22 ih22 => ?_) 0 (Nat.zero_le _) 1 0 _ _ _ eRS hJ0 hv2 rfl (Nat.zero_le _) rfl hk (Or.inr rfl) (Or.inr (Nat.le_refl _))
  · show ∀ (b : Int32) (p : Nat) (v nu s : Nat → Int32), dPg tx n (61 - (61)) (b, p, v, nu, s) = RS → J s → v 2 = nI n → v 3 = nI p → p ≤ n → v 1 = 1 → v 0 = nI k → (b = 0 ∨ b = 1) → (b = 0 ∨ (61) ≤ p) → G (w, 0, 0) (mW w cy f v s nu) [(0, .ref (w.2 (132))), (1, .int (b))] 22 []
    intro b p v nu s q hJ hv2 hv3 hpn h1v hk hb01 hbp
    refine zr_aload_n X 0 dX9_plays_22 rfl rfl ?_
    refine zr_get X zfd_RX9_136 (132) (show 132 < w.1 by rw [hw]; omega) mW_132 (v := .int (v 3)) rfl dX9_plays_23 ?_
    refine zr_aload_n X 0 dX9_plays_26 rfl rfl ?_
    refine zr_get X zfd_RX9_133 (132) (show 132 < w.1 by rw [hw]; omega) mW_132 (v := .int (v 2)) rfl dX9_plays_27 ?_
    refine zr_icmp_ge X (tgt := 124) dX9_plays_30 (by decide) (fun h1 => ?_) (fun h2 => ?_)
    · refine zr_aload_n X 0 dX9_plays_124 rfl rfl ?_
      refine zr_iconst X (v := 0) dX9_plays_125 (by decide) ?_
      refine zr_put X zfd_RX9_28 zty_9_5 (132) (show 132 < w.1 by rw [hw]; omega) mW_132 rfl rfl (Nat.le_of_ble_eq_true rfl) eMod_s5 dX9_plays_126 ?_
      refine zcw (f2 := mW w cy f (upd v 1 0) s nu) mu_132 ?_
      refine zr_iload_n X 1 dX9_plays_129 rfl rfl ?_
      exact zret_z E rfl (hb01) dX9_plays_130 (by change (b, p, v, nu, s) = RS at q; rw [← q]) (by change (b, p, v, nu, s) = RS at q; rw [← q])
    · refine zr_iload_n X 1 dX9_plays_33 rfl rfl ?_
      refine zr_if_eq X (tgt := 124) dX9_plays_34 (by decide) (fun _ => ?_) (fun h => False.elim ((hbp.elim (fun z => h z) (fun z => by omega))))
      refine zr_aload_n X 0 dX9_plays_124 rfl rfl ?_
      refine zr_iconst X (v := 0) dX9_plays_125 (by decide) ?_
      refine zr_put X zfd_RX9_28 zty_9_5 (132) (show 132 < w.1 by rw [hw]; omega) mW_132 rfl rfl (Nat.le_of_ble_eq_true rfl) eMod_s5 dX9_plays_126 ?_
      refine zcw (f2 := mW w cy f (upd v 1 0) s nu) mu_132 ?_
      refine zr_iload_n X 1 dX9_plays_129 rfl rfl ?_
      exact zret_z E rfl (hb01) dX9_plays_130 (by change (b, p, v, nu, s) = RS at q; rw [← q]) (by change (b, p, v, nu, s) = RS at q; rw [← q])
  · show ∀ (b : Int32) (p : Nat) (v nu s : Nat → Int32), dPg tx n (61 - (i9)) (b, p, v, nu, s) = RS → J s → v 2 = nI n → v 3 = nI p → p ≤ n → v 1 = 1 → v 0 = nI k → (b = 0 ∨ b = 1) → (b = 0 ∨ (i9) ≤ p) → G (w, 0, 0) (mW w cy f v s nu) [(0, .ref (w.2 (132))), (1, .int (b))] 22 []
    intro b p v nu s q hJ hv2 hv3 hpn h1v hk hb01 hbp
    refine zr_aload_n X 0 dX9_plays_22 rfl rfl ?_
    refine zr_get X zfd_RX9_136 (132) (show 132 < w.1 by rw [hw]; omega) mW_132 (v := .int (v 3)) rfl dX9_plays_23 ?_
    refine zr_aload_n X 0 dX9_plays_26 rfl rfl ?_
    refine zr_get X zfd_RX9_133 (132) (show 132 < w.1 by rw [hw]; omega) mW_132 (v := .int (v 2)) rfl dX9_plays_27 ?_
    refine zr_icmp_ge X (tgt := 124) dX9_plays_30 (by decide) (fun h3 => ?_) (fun h4 => ?_)
    · refine zr_aload_n X 0 dX9_plays_124 rfl rfl ?_
      refine zr_iconst X (v := 0) dX9_plays_125 (by decide) ?_
      refine zr_put X zfd_RX9_28 zty_9_5 (132) (show 132 < w.1 by rw [hw]; omega) mW_132 rfl rfl (Nat.le_of_ble_eq_true rfl) eMod_s5 dX9_plays_126 ?_
      refine zcw (f2 := mW w cy f (upd v 1 0) s nu) mu_132 ?_
      refine zr_iload_n X 1 dX9_plays_129 rfl rfl ?_
      exact zret_z E rfl (hb01) dX9_plays_130 (by rw [show 61 - i9 = (61 - (i9 + 1)) + 1 by omega, dPg_s, if_pos h3] at q; rw [← q]) (by rw [show 61 - i9 = (61 - (i9 + 1)) + 1 by omega, dPg_s, if_pos h3] at q; rw [← q])
    · refine zr_iload_n X 1 dX9_plays_33 rfl rfl ?_
      refine zr_if_eq X (tgt := 124) dX9_plays_34 (by decide) (fun h5 => ?_) (fun h6 => ?_)
      · refine zr_aload_n X 0 dX9_plays_124 rfl rfl ?_
        refine zr_iconst X (v := 0) dX9_plays_125 (by decide) ?_
        refine zr_put X zfd_RX9_28 zty_9_5 (132) (show 132 < w.1 by rw [hw]; omega) mW_132 rfl rfl (Nat.le_of_ble_eq_true rfl) eMod_s5 dX9_plays_126 ?_
        refine zcw (f2 := mW w cy f (upd v 1 0) s nu) mu_132 ?_
        refine zr_iload_n X 1 dX9_plays_129 rfl rfl ?_
        exact zret_z E rfl (hb01) dX9_plays_130 (by rw [show 61 - i9 = (61 - (i9 + 1)) + 1 by omega, dPg_s, if_neg h4, if_pos h5] at q; rw [← q]) (by rw [show 61 - i9 = (61 - (i9 + 1)) + 1 by omega, dPg_s, if_neg h4, if_pos h5] at q; rw [← q])
      · have hb0 := h6
        rw [show 61 - i9 = (61 - (i9 + 1)) + 1 by omega, dPg_s, if_neg h4, if_neg hb0] at q
        refine zr_aload_n X 0 dX9_plays_37 rfl rfl ?_
        refine zr_aload_n X 0 dX9_plays_38 rfl rfl ?_
        refine zr_get X zfd_RX9_136 (132) (show 132 < w.1 by rw [hw]; omega) mW_132 (v := .int (v 3)) rfl dX9_plays_39 ?_
        refine zr_put X zfd_RX9_170 zty_9_9 (132) (show 132 < w.1 by rw [hw]; omega) mW_132 rfl rfl (Nat.le_of_ble_eq_true rfl) eMod_s9 dX9_plays_42 ?_
        refine zcw (f2 := mW w cy f (upd v 4 (v 3)) s nu) mu_132 ?_
        refine zr_aload_n X 0 dX9_plays_45 rfl rfl ?_
        refine zr_cV X (As := []) (rest := []) (f' := mW w cy f (upd (upd (upd v 4 (v 3)) 8 (dOr tx n p)) 3 (nI (dReads tx n p nu).2.1)) s ((dReads tx n p nu).2.2)) (st' := [.int ((dReads tx n p nu).1)]) zc_X9_reads (132) (show 132 < w.1 by rw [hw]; omega) mW_132 (q9 := _) rfl rfl (k_reads hw htx ((upd_ne (by decide)).trans hv2) hn ((upd_ne (by decide)).trans hv3) hpn) ⟨Nat.le_of_ble_eq_true rfl, Nat.le_of_ble_eq_true rfl⟩ ⟨Nat.le_refl _, Nat.le_refl _⟩ rfl (Nat.le_of_ble_eq_true rfl) zm_4_192 rfl dX9_plays_46 rfl ?_
        have hle := dReads_le (tx := tx) (nu := nu) hn hpn
        obtain ⟨RD, eRD⟩ : ∃ z, dReads tx n p nu = z := ⟨_, rfl⟩
        rw [eRD] at hle ⊢
        show G (w, 0, 0) (mW w cy f (upd (upd (upd v 4 (v 3)) 8 (dOr tx n p)) 3 (nI RD.2.1)) s RD.2.2) [(0, .ref (w.2 (132))), (1, .int (b))] 49 [.int (RD.1)]
        refine zr_istore_n X (ls' := [(2, .int (RD.1)), (0, .ref (w.2 (132))), (1, .int (b))]) dX9_plays_49 rfl (by decide) rfl ?_
        refine zr_iload_n X 0 dX9_plays_50 rfl rfl ?_
        refine zr_if_eq X (tgt := 61) dX9_plays_51 (by decide) (fun h7 => ?_) (fun h8 => ?_)
        · refine zr_iconst X (v := 0) dX9_plays_61 (by decide) ?_
          refine zr_istore_n X (ls' := [(3, .int (0)), (2, .int (RD.1)), (0, .ref (w.2 (132))), (1, .int (b))]) dX9_plays_62 rfl (by decide) rfl ?_
          refine zr_iload_n X 1 dX9_plays_63 rfl rfl ?_
          refine zr_if_eq X (tgt := 75) dX9_plays_64 (by decide) (fun _ => ?_) (fun h9 => absurd h7 h9)
          refine zr_iconst X (v := 0) dX9_plays_75 (by decide) ?_
          refine zr_istore_n X (ls' := [(1, .int (0)), (3, .int (0)), (2, .int (RD.1)), (0, .ref (w.2 (132)))]) dX9_plays_76 rfl (by decide) rfl ?_
          refine zr_aload_n X 3 dX9_plays_77 rfl rfl ?_
          refine zr_iload_n X 2 dX9_plays_78 rfl rfl ?_
          refine zr_if_eq X (tgt := 86) dX9_plays_79 (by decide) (fun _ => ?_) (fun h10 => absurd h7 h10)
          refine zr_iconst X (v := 1) dX9_plays_86 (by decide) ?_
          refine zr_put X zfd_RX9_183 zty_9_10 (132) (show 132 < w.1 by rw [hw]; omega) mW_132 rfl rfl (Nat.le_of_ble_eq_true rfl) eMod_s10 dX9_plays_87 ?_
          refine zcw (f2 := mW w cy f (upd (upd (upd (upd v 4 (v 3)) 8 (dOr tx n p)) 3 (nI RD.2.1)) 5 1) s RD.2.2) mu_132 ?_
          refine zr_aload_n X 3 dX9_plays_90 rfl rfl ?_
          refine zr_iload_n X 2 dX9_plays_91 rfl rfl ?_
          refine zr_if_eq X (tgt := 99) dX9_plays_92 (by decide) (fun _ => ?_) (fun h11 => absurd h7 h11)
          refine zr_aload_n X 3 dX9_plays_99 rfl rfl ?_
          refine zr_get X zfd_RX9_136 (132) (show 132 < w.1 by rw [hw]; omega) mW_132 (v := .int (nI RD.2.1)) rfl dX9_plays_100 ?_
          refine zr_aload_n X 3 dX9_plays_103 rfl rfl ?_
          refine zr_get X zfd_RX9_170 (132) (show 132 < w.1 by rw [hw]; omega) mW_132 (v := .int (v 3)) rfl dX9_plays_104 ?_
          refine zr_isub X dX9_plays_107 ?_
          refine zr_put X zfd_RX9_186 zty_9_11 (132) (show 132 < w.1 by rw [hw]; omega) mW_132 rfl rfl (Nat.le_of_ble_eq_true rfl) eMod_s11 dX9_plays_108 ?_
          refine zcw (f2 := mW w cy f (upd (upd (upd (upd (upd v 4 (v 3)) 8 (dOr tx n p)) 3 (nI RD.2.1)) 5 1) 6 ((nI RD.2.1) - (v 3))) s RD.2.2) mu_132 ?_
          refine zr_aload_n X 3 dX9_plays_111 rfl rfl ?_
          refine zr_dup X dX9_plays_112 rfl ?_
          refine zr_get X zfd_RX9_173 (132) (show 132 < w.1 by rw [hw]; omega) mW_132 (v := .int (v 7)) rfl dX9_plays_113 ?_
          refine zr_iconst X (v := 1) dX9_plays_116 (by decide) ?_
          refine zr_iadd X dX9_plays_117 ?_
          refine zr_put X zfd_RX9_173 zty_9_12 (132) (show 132 < w.1 by rw [hw]; omega) mW_132 rfl rfl (Nat.le_of_ble_eq_true rfl) eMod_s12 dX9_plays_118 ?_
          refine zcw (f2 := mW w cy f (upd (upd (upd (upd (upd (upd v 4 (v 3)) 8 (dOr tx n p)) 3 (nI RD.2.1)) 5 1) 6 ((nI RD.2.1) - (v 3))) 7 ((v 7) + 1)) s RD.2.2) mu_132 ?_
          refine zr_goto X (tgt := 22) dX9_plays_121 (by decide) ?_
          refine zr_loc X (ls' := [(0, .ref (w.2 (132))), (1, .int (0))]) [3, 0] rfl ?_
          have eS : dPyS tx n (b, p, v, nu, s) = (0, RD.2.1, (upd (upd (upd (upd (upd (upd v 4 (v 3)) 8 (dOr tx n p)) 3 (nI RD.2.1)) 5 1) 6 ((nI RD.2.1) - (v 3))) 7 ((v 7) + 1)), RD.2.2, s) := by unfold dPyS; rw [show (b, p, v, nu, s).2.1 = p from rfl, show (b, p, v, nu, s).2.2.2.1 = nu from rfl, eRD, if_pos h7]; rfl
          rw [eS] at q
          have hup : (0 : Int32) = 0 ∨ (i9 + 1) ≤ RD.2.1 := Or.inl rfl
          exact zcast (f2 := mW w cy f (upd (upd (upd (upd (upd (upd v 4 (v 3)) 8 (dOr tx n p)) 3 (nI RD.2.1)) 5 1) 6 ((nI RD.2.1) - (v 3))) 7 ((v 7) + 1)) s RD.2.2) (ls2 := [(0, .ref (w.2 (132))), (1, .int (0))]) rfl rfl (ih22 0 RD.2.1 _ _ _ q hJ hv2 rfl hle h1v hk (.inl rfl) hup)
        · refine zr_aload_n X 1 dX9_plays_54 rfl rfl ?_
          refine zr_cV X (As := []) (rest := []) (f' := mW w cy f (upd (upd (upd v 4 (v 3)) 8 (dOr tx n p)) 3 (nI RD.2.1)) ((dCall s (dOr tx n p) RD.2.2).2.2) RD.2.2) (st' := [.int ((dCall s (dOr tx n p) RD.2.2).1)]) zc_X9_calls (132) (show 132 < w.1 by rw [hw]; omega) mW_132 (q9 := _) rfl rfl (k_calls hw hp (show (upd (upd (upd v 4 (v 3)) 8 (dOr tx n p)) 3 (nI RD.2.1)) 1 = 1 from h1v) (show (upd (upd (upd v 4 (v 3)) 8 (dOr tx n p)) 3 (nI RD.2.1)) 0 = nI k from hk) hk4 (hJ1 s hJ)) ⟨Nat.le_of_ble_eq_true rfl, Nat.le_of_ble_eq_true rfl⟩ ⟨Nat.le_refl _, Nat.le_refl _⟩ rfl (Nat.le_of_ble_eq_true rfl) zm_4_211 rfl dX9_plays_55 rfl ?_
          refine zr_goto X (tgt := 62) dX9_plays_58 (by decide) ?_
          refine zr_istore_n X (ls' := [(3, .int ((dCall s (dOr tx n p) RD.2.2).1)), (2, .int (RD.1)), (0, .ref (w.2 (132))), (1, .int (b))]) dX9_plays_62 rfl (by decide) rfl ?_
          refine zr_iload_n X 1 dX9_plays_63 rfl rfl ?_
          refine zr_if_eq X (tgt := 75) dX9_plays_64 (by decide) (fun h12 => absurd h12 h8) (fun _ => ?_)
          refine zr_iload_n X 0 dX9_plays_67 rfl rfl ?_
          refine zr_if_lt X (tgt := 75) dX9_plays_68 (by decide) (fun h13 => ?_) (fun h14 => ?_)
          · refine zr_iconst X (v := 0) dX9_plays_75 (by decide) ?_
            refine zr_istore_n X (ls' := [(1, .int (0)), (3, .int ((dCall s (dOr tx n p) RD.2.2).1)), (2, .int (RD.1)), (0, .ref (w.2 (132)))]) dX9_plays_76 rfl (by decide) rfl ?_
            refine zr_aload_n X 3 dX9_plays_77 rfl rfl ?_
            refine zr_iload_n X 2 dX9_plays_78 rfl rfl ?_
            refine zr_if_eq X (tgt := 86) dX9_plays_79 (by decide) (fun h15 => absurd h15 h8) (fun _ => ?_)
            refine zr_iconst X (v := 2) dX9_plays_82 (by decide) ?_
            refine zr_goto X (tgt := 87) dX9_plays_83 (by decide) ?_
            refine zr_put X zfd_RX9_183 zty_9_10 (132) (show 132 < w.1 by rw [hw]; omega) mW_132 rfl rfl (Nat.le_of_ble_eq_true rfl) eMod_s10 dX9_plays_87 ?_
            refine zcw (f2 := mW w cy f (upd (upd (upd (upd v 4 (v 3)) 8 (dOr tx n p)) 3 (nI RD.2.1)) 5 2) ((dCall s (dOr tx n p) RD.2.2).2.2) RD.2.2) mu_132 ?_
            refine zr_aload_n X 3 dX9_plays_90 rfl rfl ?_
            refine zr_iload_n X 2 dX9_plays_91 rfl rfl ?_
            refine zr_if_eq X (tgt := 99) dX9_plays_92 (by decide) (fun h16 => absurd h16 h8) (fun _ => ?_)
            refine zr_iload_n X 1 dX9_plays_95 rfl rfl ?_
            refine zr_goto X (tgt := 108) dX9_plays_96 (by decide) ?_
            refine zr_put X zfd_RX9_186 zty_9_11 (132) (show 132 < w.1 by rw [hw]; omega) mW_132 rfl rfl (Nat.le_of_ble_eq_true rfl) eMod_s11 dX9_plays_108 ?_
            refine zcw (f2 := mW w cy f (upd (upd (upd (upd (upd v 4 (v 3)) 8 (dOr tx n p)) 3 (nI RD.2.1)) 5 2) 6 ((dCall s (dOr tx n p) RD.2.2).1)) ((dCall s (dOr tx n p) RD.2.2).2.2) RD.2.2) mu_132 ?_
            refine zr_aload_n X 3 dX9_plays_111 rfl rfl ?_
            refine zr_dup X dX9_plays_112 rfl ?_
            refine zr_get X zfd_RX9_173 (132) (show 132 < w.1 by rw [hw]; omega) mW_132 (v := .int (v 7)) rfl dX9_plays_113 ?_
            refine zr_iconst X (v := 1) dX9_plays_116 (by decide) ?_
            refine zr_iadd X dX9_plays_117 ?_
            refine zr_put X zfd_RX9_173 zty_9_12 (132) (show 132 < w.1 by rw [hw]; omega) mW_132 rfl rfl (Nat.le_of_ble_eq_true rfl) eMod_s12 dX9_plays_118 ?_
            refine zcw (f2 := mW w cy f (upd (upd (upd (upd (upd (upd v 4 (v 3)) 8 (dOr tx n p)) 3 (nI RD.2.1)) 5 2) 6 ((dCall s (dOr tx n p) RD.2.2).1)) 7 ((v 7) + 1)) ((dCall s (dOr tx n p) RD.2.2).2.2) RD.2.2) mu_132 ?_
            refine zr_goto X (tgt := 22) dX9_plays_121 (by decide) ?_
            refine zr_loc X (ls' := [(0, .ref (w.2 (132))), (1, .int (0))]) [3, 0] rfl ?_
            have eS : dPyS tx n (b, p, v, nu, s) = (0, RD.2.1, (upd (upd (upd (upd (upd (upd v 4 (v 3)) 8 (dOr tx n p)) 3 (nI RD.2.1)) 5 2) 6 ((dCall s (dOr tx n p) RD.2.2).1)) 7 ((v 7) + 1)), RD.2.2, (dCall s (dOr tx n p) RD.2.2).2.2) := by unfold dPyS; rw [show (b, p, v, nu, s).2.1 = p from rfl, show (b, p, v, nu, s).2.2.2.1 = nu from rfl, eRD, if_neg h8, if_pos h13]; rfl
            rw [eS] at q
            have hup : (0 : Int32) = 0 ∨ (i9 + 1) ≤ RD.2.1 := Or.inl rfl
            exact zcast (f2 := mW w cy f (upd (upd (upd (upd (upd (upd v 4 (v 3)) 8 (dOr tx n p)) 3 (nI RD.2.1)) 5 2) 6 ((dCall s (dOr tx n p) RD.2.2).1)) 7 ((v 7) + 1)) ((dCall s (dOr tx n p) RD.2.2).2.2) RD.2.2) (ls2 := [(0, .ref (w.2 (132))), (1, .int (0))]) rfl rfl (ih22 0 RD.2.1 _ _ _ q (hJ2 s _ _ hJ) hv2 rfl hle h1v hk (.inl rfl) hup)
          · refine zr_iconst X (v := 1) dX9_plays_71 (by decide) ?_
            refine zr_goto X (tgt := 76) dX9_plays_72 (by decide) ?_
            refine zr_istore_n X (ls' := [(1, .int (1)), (3, .int ((dCall s (dOr tx n p) RD.2.2).1)), (2, .int (RD.1)), (0, .ref (w.2 (132)))]) dX9_plays_76 rfl (by decide) rfl ?_
            refine zr_aload_n X 3 dX9_plays_77 rfl rfl ?_
            refine zr_iload_n X 2 dX9_plays_78 rfl rfl ?_
            refine zr_if_eq X (tgt := 86) dX9_plays_79 (by decide) (fun h17 => absurd h17 h8) (fun _ => ?_)
            refine zr_iconst X (v := 2) dX9_plays_82 (by decide) ?_
            refine zr_goto X (tgt := 87) dX9_plays_83 (by decide) ?_
            refine zr_put X zfd_RX9_183 zty_9_10 (132) (show 132 < w.1 by rw [hw]; omega) mW_132 rfl rfl (Nat.le_of_ble_eq_true rfl) eMod_s10 dX9_plays_87 ?_
            refine zcw (f2 := mW w cy f (upd (upd (upd (upd v 4 (v 3)) 8 (dOr tx n p)) 3 (nI RD.2.1)) 5 2) ((dCall s (dOr tx n p) RD.2.2).2.2) RD.2.2) mu_132 ?_
            refine zr_aload_n X 3 dX9_plays_90 rfl rfl ?_
            refine zr_iload_n X 2 dX9_plays_91 rfl rfl ?_
            refine zr_if_eq X (tgt := 99) dX9_plays_92 (by decide) (fun h18 => absurd h18 h8) (fun _ => ?_)
            refine zr_iload_n X 1 dX9_plays_95 rfl rfl ?_
            refine zr_goto X (tgt := 108) dX9_plays_96 (by decide) ?_
            refine zr_put X zfd_RX9_186 zty_9_11 (132) (show 132 < w.1 by rw [hw]; omega) mW_132 rfl rfl (Nat.le_of_ble_eq_true rfl) eMod_s11 dX9_plays_108 ?_
            refine zcw (f2 := mW w cy f (upd (upd (upd (upd (upd v 4 (v 3)) 8 (dOr tx n p)) 3 (nI RD.2.1)) 5 2) 6 ((dCall s (dOr tx n p) RD.2.2).1)) ((dCall s (dOr tx n p) RD.2.2).2.2) RD.2.2) mu_132 ?_
            refine zr_aload_n X 3 dX9_plays_111 rfl rfl ?_
            refine zr_dup X dX9_plays_112 rfl ?_
            refine zr_get X zfd_RX9_173 (132) (show 132 < w.1 by rw [hw]; omega) mW_132 (v := .int (v 7)) rfl dX9_plays_113 ?_
            refine zr_iconst X (v := 1) dX9_plays_116 (by decide) ?_
            refine zr_iadd X dX9_plays_117 ?_
            refine zr_put X zfd_RX9_173 zty_9_12 (132) (show 132 < w.1 by rw [hw]; omega) mW_132 rfl rfl (Nat.le_of_ble_eq_true rfl) eMod_s12 dX9_plays_118 ?_
            refine zcw (f2 := mW w cy f (upd (upd (upd (upd (upd (upd v 4 (v 3)) 8 (dOr tx n p)) 3 (nI RD.2.1)) 5 2) 6 ((dCall s (dOr tx n p) RD.2.2).1)) 7 ((v 7) + 1)) ((dCall s (dOr tx n p) RD.2.2).2.2) RD.2.2) mu_132 ?_
            refine zr_goto X (tgt := 22) dX9_plays_121 (by decide) ?_
            refine zr_loc X (ls' := [(0, .ref (w.2 (132))), (1, .int (1))]) [3, 0] rfl ?_
            have eS : dPyS tx n (b, p, v, nu, s) = (1, RD.2.1, (upd (upd (upd (upd (upd (upd v 4 (v 3)) 8 (dOr tx n p)) 3 (nI RD.2.1)) 5 2) 6 ((dCall s (dOr tx n p) RD.2.2).1)) 7 ((v 7) + 1)), RD.2.2, (dCall s (dOr tx n p) RD.2.2).2.2) := by unfold dPyS; rw [show (b, p, v, nu, s).2.1 = p from rfl, show (b, p, v, nu, s).2.2.2.1 = nu from rfl, eRD, if_neg h8, if_neg h14]; rfl
            rw [eS] at q
            have hup : (1 : Int32) = 0 ∨ (i9 + 1) ≤ RD.2.1 := Or.inr (by have := dRead_up (tx := tx) (nu := nu) hn hpn (by rw [eRD]; exact h8); rw [eRD] at this; rcases hbp with hbp | hbp; exact absurd hbp hb0; omega)
            exact zcast (f2 := mW w cy f (upd (upd (upd (upd (upd (upd v 4 (v 3)) 8 (dOr tx n p)) 3 (nI RD.2.1)) 5 2) 6 ((dCall s (dOr tx n p) RD.2.2).1)) 7 ((v 7) + 1)) ((dCall s (dOr tx n p) RD.2.2).2.2) RD.2.2) (ls2 := [(0, .ref (w.2 (132))), (1, .int (1))]) rfl rfl (ih22 1 RD.2.1 _ _ _ q (hJ2 s _ _ hJ) hv2 rfl hle h1v hk (.inr rfl) hup)
