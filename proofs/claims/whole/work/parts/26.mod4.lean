def dGd (s : Nat → Int32) (mc bk fr : Nat) : Prop := s 0 = nI mc ∧ mc ≤ 4 ∧ s 1 = nI bk ∧ bk ≤ 10 ∧ s 17 = nI fr ∧ fr ≤ 15 ∧ ∀ m, m < mc → s (19 + 9 * m + 2) = 1 → ¬ (s 3 - s (19 + 9 * m + 5)) < 0
def dGood (s : Nat → Int32) : Prop := ∃ mc bk fr, dGd s mc bk fr
def dEndX (s : Nat → Int32) : Nat → Int32 := dEnds s (s 0).toNatClampNeg (s 1).toNatClampNeg (s 17).toNatClampNeg
theorem dEndX_eq {s : Nat → Int32} {mc bk fr : Nat} (h : dGd s mc bk fr) : dEndX s = dEnds s mc bk fr := by
  obtain ⟨h1, h2, h3, h4, h5, h6, -⟩ := h
  unfold dEndX
  rw [h1, h3, h5, nI_clamp (by omega), nI_clamp (by omega), nI_clamp (by omega)]
theorem k_endsX {l : Launch} {D : va_G} {cy : Nat → ClassId} {w : zW} {f : zF} {v s nu : Nat → Int32} (hw : w.1 = 139) (h : dGood s) : zSd l D cy yX9_ends cX9_ends 4 none 4 90 [.ref (w.2 132)] w (mW w cy f v s nu) none (mW w cy f v (dEndX s) nu) := by
  obtain ⟨mc, bk, fr, h⟩ := h
  rw [dEndX_eq h]
  obtain ⟨h1, h2, h3, h4, h5, h6, h7⟩ := h
  exact k_ends hw h1 h2 h3 h4 h5 h6 h7
def dEN (s : Nat → Int32) (n : Nat) : Nat → Int32 := zfold (fun _ => dEndX) s n
theorem dEN_s {s : Nat → Int32} {n : Nat} : dEN s (n + 1) = dEndX (dEN s n) := rfl
set_option maxHeartbeats 4000000 in
set_option maxRecDepth 100000 in
theorem k_endsFor {l : Launch} {D : va_G} {cy : Nat → ClassId} {w : zW} {f : zF} {v s nu : Nat → Int32} {x : Int32} {j : Nat} (hw : w.1 = 139) (hx : x = nI j) (hj : j < 2147483648) (hG : ∀ i, i < j → dGood (dEN s i)) : zSd l D cy yX9_endsFor cX9_endsFor 4 (some .int) 5 113 [.ref (w.2 (132)), .int (x)] w (mW w cy f v s nu) (some (.int ((dEN s j) 8 - s 8))) (mW w cy f v (dEN s j) nu) := by
  refine zSd.intro (by decide) (Nat.le_of_ble_eq_true rfl) (fun G X E => ?_)
  show G (w, 0, 0) (mW w cy f v s nu) [(0, .ref (w.2 (132))), (1, .int (x))] 0 []
  refine zr_aload_n X 0 dX9_endsFor_0 rfl rfl ?_
  refine zr_get X zfd_RX9_7 (132) (show 132 < w.1 by rw [hw]; omega) mW_132 (v := .ref (w.2 (133))) rfl dX9_endsFor_1 ?_
  refine zr_bipush X (v := 8) dX9_endsFor_4 (by decide) ?_
  refine zr_iald X (133) (show 133 < w.1 by rw [hw]; omega) mW_133 (8) (rfl) (by decide) (by decide) dX9_endsFor_6 ?_
  refine zr_istore_n X (ls' := [(2, .int (s 8)), (0, .ref (w.2 (132))), (1, .int (x))]) dX9_endsFor_7 rfl (by decide) rfl ?_
  refine zr_iconst X (v := 0) dX9_endsFor_8 (by decide) ?_
  refine zr_istore_n X (ls' := [(3, .int (0)), (2, .int (s 8)), (0, .ref (w.2 (132))), (1, .int (x))]) dX9_endsFor_9 rfl (by decide) rfl ?_
  refine zr_loc X (ls' := [(0, .ref (w.2 (132))), (1, .int (x)), (2, .int (s 8)), (3, .int (0))]) [2, 3, 1, 0] rfl ?_
  refine zcast (f2 := mW w cy f v (dEN s (0)) nu) (ls2 := [(0, .ref (w.2 (132))), (1, .int (x)), (2, .int (s 8)), (3, .int (nI (0)))]) rfl rfl ?_
  refine zdown (P := fun n => G (w, 0, 0) (mW w cy f v (dEN s (n)) nu) [(0, .ref (w.2 (132))), (1, .int (x)), (2, .int (s 8)), (3, .int (nI (n)))] 10 []) (B := j) ?_ (fun n hn10 ih10 => ?_) 0 (Nat.zero_le _) 
  · show G (w, 0, 0) (mW w cy f v (dEN s (j)) nu) [(0, .ref (w.2 (132))), (1, .int (x)), (2, .int (s 8)), (3, .int (nI (j)))] 10 []
    refine zr_iload_n X 3 dX9_endsFor_10 rfl rfl ?_
    refine zr_iload_n X 1 dX9_endsFor_11 rfl rfl ?_
    refine zr_icmp_ge X (tgt := 25) dX9_endsFor_12 (by decide) (fun _ => ?_) (fun h => False.elim (h (by rw [hx]; exact Int32.le_refl _)))
    refine zr_aload_n X 0 dX9_endsFor_25 rfl rfl ?_
    refine zr_get X zfd_RX9_7 (132) (show 132 < w.1 by rw [hw]; omega) mW_132 (v := .ref (w.2 (133))) rfl dX9_endsFor_26 ?_
    refine zr_bipush X (v := 8) dX9_endsFor_29 (by decide) ?_
    refine zr_iald X (133) (show 133 < w.1 by rw [hw]; omega) mW_133 (8) (rfl) (by decide) (by decide) dX9_endsFor_31 ?_
    refine zr_iload_n X 2 dX9_endsFor_32 rfl rfl ?_
    refine zr_isub X dX9_endsFor_33 ?_
    exact zret_i E rfl dX9_endsFor_34 (by simp only []) (by simp only [])
  · show G (w, 0, 0) (mW w cy f v (dEN s (n)) nu) [(0, .ref (w.2 (132))), (1, .int (x)), (2, .int (s 8)), (3, .int (nI (n)))] 10 []
    refine zr_iload_n X 3 dX9_endsFor_10 rfl rfl ?_
    refine zr_iload_n X 1 dX9_endsFor_11 rfl rfl ?_
    refine zr_icmp_ge X (tgt := 25) dX9_endsFor_12 (by decide) (fun h => False.elim (nI_ge hn10 (by omega) (by rw [← hx]; exact h))) (fun _ => ?_)
    refine zr_aload_n X 0 dX9_endsFor_15 rfl rfl ?_
    refine zr_cV X (As := []) (rest := []) (f' := mW w cy f v (dEN s (n + 1)) nu) (st' := []) zc_X9_ends (132) (show 132 < w.1 by rw [hw]; omega) mW_132 (q9 := _) rfl rfl (k_endsX hw (hG n hn10)) ⟨Nat.le_of_ble_eq_true rfl, Nat.le_of_ble_eq_true rfl⟩ ⟨Nat.le_refl _, Nat.le_refl _⟩ rfl (Nat.le_of_ble_eq_true rfl) zm_4_54 rfl dX9_endsFor_16 rfl ?_
    refine zr_iinc X (v := nI (n + 1)) (ls' := [(3, .int (nI (n + 1))), (0, .ref (w.2 (132))), (1, .int (x)), (2, .int (s 8))]) 3 dX9_endsFor_19 rfl (zinc1 _) (by decide) rfl ?_
    refine zr_goto X (tgt := 10) dX9_endsFor_22 (by decide) ?_
    refine zr_loc X (ls' := [(0, .ref (w.2 (132))), (1, .int (x)), (2, .int (s 8)), (3, .int (nI (n + 1)))]) [1, 2, 3, 0] rfl ?_
    exact zcast (f2 := mW w cy f v (dEN s (n + 1)) nu) (ls2 := [(0, .ref (w.2 (132))), (1, .int (x)), (2, .int (s 8)), (3, .int (nI (n + 1)))]) rfl rfl ih10
def dCp (b a : Nat → Int32) (n : Nat) : Nat → Int32 := zfold (fun k p => upd p k (a k)) b n
theorem dCp_in {b a : Nat → Int32} {i : Nat} : ∀ n, i < n → dCp b a n i = a i
  | n + 1, h => by
    show upd (dCp b a n) n (a n) i = a i
    by_cases e : i = n
    · subst e; exact upd_eq
    · exact (upd_ne e).trans (dCp_in n (by omega))
set_option maxHeartbeats 4000000 in
set_option maxRecDepth 100000 in
theorem k_copies {l : Launch} {D : va_G} {cy : Nat → ClassId} {w : zW} {f : zF} {t u : Nat} {a b : Nat → Int32} (ht9 : t < w.1) (hu9 : u < w.1) (ht : f t = eInts cy 136 a) (hu : f u = eInts cy 136 b) (hne : t ≠ u) : zSd l D cy yX9_copies cX9_copies 3 none 0 0 [.ref (w.2 (t)), .ref (w.2 (u))] w f none (va_up f (u) (eInts cy 136 (dCp b a 136))) := by
  refine zSd.intro (by decide) (Nat.le_of_ble_eq_true rfl) (fun G X E => ?_)
  show G (w, 0, 0) f [(0, .ref (w.2 (t))), (1, .ref (w.2 (u)))] 0 []
  refine zr_iconst X (v := 0) dX9_copies_0 (by decide) ?_
  refine zr_istore_n X (ls' := [(2, .int (0)), (0, .ref (w.2 (t))), (1, .ref (w.2 (u)))]) dX9_copies_1 rfl (by decide) rfl ?_
  refine zr_loc X (ls' := [(0, .ref (w.2 (t))), (1, .ref (w.2 (u))), (2, .int (0))]) [1, 2, 0] rfl ?_
  refine zcast (f2 := va_up f (u) (eInts cy 136 (dCp b a (0)))) (ls2 := [(0, .ref (w.2 (t))), (1, .ref (w.2 (u))), (2, .int (nI (0)))]) (zsame_up hu rfl) rfl ?_
  refine zdown (P := fun n => G (w, 0, 0) (va_up f (u) (eInts cy 136 (dCp b a (n)))) [(0, .ref (w.2 (t))), (1, .ref (w.2 (u))), (2, .int (nI (n)))] 2 []) (B := 136) ?_ (fun n hn2 ih2 => ?_) 0 (Nat.zero_le _) 
  · show G (w, 0, 0) (va_up f (u) (eInts cy 136 (dCp b a (136)))) [(0, .ref (w.2 (t))), (1, .ref (w.2 (u))), (2, .int (nI (136)))] 2 []
    refine zr_iload_n X 2 dX9_copies_2 rfl rfl ?_
    refine zr_sipush X (v := 136) dX9_copies_3 (by decide) ?_
    refine zr_icmp_ge X (tgt := 21) dX9_copies_6 (by decide) (fun _ => ?_) (fun h => False.elim (h (by decide)))
    exact zret_v E rfl dX9_copies_21 (by simp only [])
  · show G (w, 0, 0) (va_up f (u) (eInts cy 136 (dCp b a (n)))) [(0, .ref (w.2 (t))), (1, .ref (w.2 (u))), (2, .int (nI (n)))] 2 []
    refine zr_iload_n X 2 dX9_copies_2 rfl rfl ?_
    refine zr_sipush X (v := 136) dX9_copies_3 (by decide) ?_
    refine zr_icmp_ge X (tgt := 21) dX9_copies_6 (by decide) (fun h => False.elim (nI_ge hn2 (by decide) h)) (fun _ => ?_)
    refine zr_aload_n X 1 dX9_copies_9 rfl rfl ?_
    refine zr_iload_n X 2 dX9_copies_10 rfl rfl ?_
    refine zr_aload_n X 0 dX9_copies_11 rfl rfl ?_
    refine zr_iload_n X 2 dX9_copies_12 rfl rfl ?_
    refine zr_iald X (t) ht9 ((va_up_ne _ _ (hne)).trans ht) (n) (rfl) (by omega) (by decide) dX9_copies_13 ?_
    refine zr_iast X (u) hu9 (va_up_self _ _ _) (n) (rfl) (by omega) (by decide) dX9_copies_14 ?_
    rw [va_up_up]
    refine zr_iinc X (v := nI (n + 1)) (ls' := [(2, .int (nI (n + 1))), (0, .ref (w.2 (t))), (1, .ref (w.2 (u)))]) 2 dX9_copies_15 rfl (zinc1 _) (by decide) rfl ?_
    refine zr_goto X (tgt := 2) dX9_copies_18 (by decide) ?_
    refine zr_loc X (ls' := [(0, .ref (w.2 (t))), (1, .ref (w.2 (u))), (2, .int (nI (n + 1)))]) [1, 2, 0] rfl ?_
    exact zcast (f2 := va_up f (u) (eInts cy 136 (dCp b a (n + 1)))) (ls2 := [(0, .ref (w.2 (t))), (1, .ref (w.2 (u))), (2, .int (nI (n + 1)))]) rfl rfl ih2
def dPj (k : Nat) : Nat := if k < 4 then k else 3
def dPs (P : Nat → Int32) (n : Nat) : Nat → Int32 := zfold (fun i p => upd p i (p (i + 136))) P n
def dPw (P s : Nat → Int32) (j n : Nat) : Nat → Int32 := zfold (fun i p => upd p (136 * j + i) (s i)) P n
theorem dPs_hi {P : Nat → Int32} {i : Nat} : ∀ n, n ≤ i → dPs P n i = P i
  | 0, _ => rfl
  | n + 1, h => (upd_ne (by omega)).trans (dPs_hi n (by omega))
theorem dPs_lo {P : Nat → Int32} {i : Nat} : ∀ n, i < n → dPs P n i = P (i + 136)
  | n + 1, h => by
    show upd (dPs P n) n (dPs P n (n + 136)) i = _
    by_cases e : i = n
    · subst e; exact upd_eq.trans (dPs_hi _ (by omega))
    · exact (upd_ne e).trans (dPs_lo n (by omega))
theorem dPw_in {P s : Nat → Int32} {j i : Nat} : ∀ n, i < n → dPw P s j n (136 * j + i) = s i
  | n + 1, h => by
    show upd (dPw P s j n) (136 * j + n) (s n) _ = _
    by_cases e : i = n
    · subst e; exact upd_eq
    · exact (upd_ne (by omega)).trans (dPw_in n (by omega))
theorem dPw_out {P s : Nat → Int32} {j i : Nat} (h : i < 136 * j ∨ 136 * j + 136 ≤ i) : ∀ n, n ≤ 136 → dPw P s j n i = P i
  | 0, _ => rfl
  | n + 1, hn => (upd_ne (by omega)).trans (dPw_out h n (by omega))
def dPa (v P s : Nat → Int32) (k : Nat) : Nat → Int32 := if v 1 = 0 then dPw (if k < 4 then P else dPs P 408) s (dPj k) 136 else P
def dPv (v : Nat → Int32) (k : Nat) : Nat → Int32 := if v 1 = 0 then upd v 0 (nI (dPj k + 1)) else v
theorem nI_mul9 {c k i : Nat} : nI c * nI k + nI i = nI (c * k + i) := by
  rw [show nI c * nI k = nI (c * k) from (Int32.ofNat_mul c k).symm, nI_add]
set_option maxHeartbeats 4000000 in
set_option maxRecDepth 100000 in
theorem k_chR {l : Launch} {D : va_G} {cy : Nat → ClassId} {w : zW} {f : zF} {v s nu : Nat → Int32} {P : Nat → Int32} {k : Nat} (hw : w.1 = 139) (hp : f 134 = eInts cy 544 P) (hr : v 1 = 1) : zSd l D cy yX9_changes cX9_changes 2 none 0 0 [.ref (w.2 (132))] w (mW w cy f v s nu) none (mW w cy (va_up f (134) (eInts cy 544 (dPa v P s k))) (dPv v k) s nu) := by
  refine zSd.intro (by decide) (Nat.le_of_ble_eq_true rfl) (fun G X E => ?_)
  show G (w, 0, 0) (mW w cy f v s nu) [(0, .ref (w.2 (132)))] 0 []
  refine zr_aload_n X 0 dX9_changes_0 rfl rfl ?_
  refine zr_get X zfd_RX9_28 (132) (show 132 < w.1 by rw [hw]; omega) mW_132 (v := .int (v 1)) rfl dX9_changes_1 ?_
  refine zr_if_eq X (tgt := 8) dX9_changes_4 (by decide) (fun h => False.elim (absurd (hr.symm.trans h) (by decide))) (fun _ => ?_)
  exact zret_v E rfl dX9_changes_7 (by unfold dPa dPv; rw [if_neg (by rw [hr]; decide), if_neg (by rw [hr]; decide), ← zsame_up hp rfl])
theorem nI_ne4 {k : Nat} (h : k < 4) : ¬ nI k = 4 := fun q => by
  have := (nI_eq (show k < 2 ^ 31 by omega) (show 4 < 2 ^ 31 by decide)).mp q
  omega
set_option maxHeartbeats 4000000 in
set_option maxRecDepth 100000 in
theorem k_chA {l : Launch} {D : va_G} {cy : Nat → ClassId} {w : zW} {f : zF} {v s nu : Nat → Int32} {P : Nat → Int32} {k : Nat} (hw : w.1 = 139) (hp : f 134 = eInts cy 544 P) (hr : v 1 = 0) (hk : v 0 = nI k) (hk4 : k < 4) : zSd l D cy yX9_changes cX9_changes 2 none 0 0 [.ref (w.2 (132))] w (mW w cy f v s nu) none (mW w cy (va_up f (134) (eInts cy 544 (dPa v P s k))) (dPv v k) s nu) := by
  refine zSd.intro (by decide) (Nat.le_of_ble_eq_true rfl) (fun G X E => ?_)
  show G (w, 0, 0) (mW w cy f v s nu) [(0, .ref (w.2 (132)))] 0 []
  refine zr_aload_n X 0 dX9_changes_0 rfl rfl ?_
  refine zr_get X zfd_RX9_28 (132) (show 132 < w.1 by rw [hw]; omega) mW_132 (v := .int (v 1)) rfl dX9_changes_1 ?_
  refine zr_if_eq X (tgt := 8) dX9_changes_4 (by decide) (fun _ => ?_) (fun h => False.elim (h hr))
  refine zr_aload_n X 0 dX9_changes_8 rfl rfl ?_
  refine zr_get X zfd_RX9_32 (132) (show 132 < w.1 by rw [hw]; omega) mW_132 (v := .int (v 0)) rfl dX9_changes_9 ?_
  refine zr_iconst X (v := 4) dX9_changes_12 (by decide) ?_
  refine zr_icmp_ne X (tgt := 57) dX9_changes_13 (by decide) (fun _ => ?_) (fun h => False.elim ((nI_ne4 hk4) (hk.symm.trans h)))
  refine zr_iconst X (v := 0) dX9_changes_57 (by decide) ?_
  refine zr_istore_n X (ls' := [(1, .int (0)), (0, .ref (w.2 (132)))]) dX9_changes_58 rfl (by decide) rfl ?_
  refine zr_loc X (ls' := [(0, .ref (w.2 (132))), (1, .int (0))]) [1, 0] rfl ?_
  refine zcast (f2 := mW w cy (va_up f (134) (eInts cy 544 (dPw P s k (0)))) v s nu) (ls2 := [(0, .ref (w.2 (132))), (1, .int (nI (0)))]) (congrArg (fun z => mW w cy z v s nu) (zsame_up hp rfl)) rfl ?_
  refine zdown (P := fun n => G (w, 0, 0) (mW w cy (va_up f (134) (eInts cy 544 (dPw P s k (n)))) v s nu) [(0, .ref (w.2 (132))), (1, .int (nI (n)))] 59 []) (B := 136) ?_ (fun n hn59 ih59 => ?_) 0 (Nat.zero_le _) 
  · show G (w, 0, 0) (mW w cy (va_up f (134) (eInts cy 544 (dPw P s k (136)))) v s nu) [(0, .ref (w.2 (132))), (1, .int (nI (136)))] 59 []
    refine zr_iload_n X 1 dX9_changes_59 rfl rfl ?_
    refine zr_sipush X (v := 136) dX9_changes_60 (by decide) ?_
    refine zr_icmp_ge X (tgt := 93) dX9_changes_63 (by decide) (fun _ => ?_) (fun h => False.elim (h (by decide)))
    refine zr_aload_n X 0 dX9_changes_93 rfl rfl ?_
    refine zr_dup X dX9_changes_94 rfl ?_
    refine zr_get X zfd_RX9_32 (132) (show 132 < w.1 by rw [hw]; omega) mW_132 (v := .int (v 0)) rfl dX9_changes_95 ?_
    refine zr_iconst X (v := 1) dX9_changes_98 (by decide) ?_
    refine zr_iadd X dX9_changes_99 ?_
    refine zr_put X zfd_RX9_32 zty_9_4 (132) (show 132 < w.1 by rw [hw]; omega) mW_132 rfl rfl (Nat.le_of_ble_eq_true rfl) eMod_s4 dX9_changes_100 ?_
    refine zcw (f2 := mW w cy (va_up f (134) (eInts cy 544 (dPw P s k (136)))) (upd v 0 ((v 0) + 1)) s nu) mu_132 ?_
    exact zret_v E rfl dX9_changes_103 (by unfold dPa dPv dPj; rw [if_pos hr, if_pos hr, if_pos hk4, if_pos hk4, hk, ← nI_1])
  · show G (w, 0, 0) (mW w cy (va_up f (134) (eInts cy 544 (dPw P s k (n)))) v s nu) [(0, .ref (w.2 (132))), (1, .int (nI (n)))] 59 []
    refine zr_iload_n X 1 dX9_changes_59 rfl rfl ?_
    refine zr_sipush X (v := 136) dX9_changes_60 (by decide) ?_
    refine zr_icmp_ge X (tgt := 93) dX9_changes_63 (by decide) (fun h => False.elim (nI_ge hn59 (by decide) h)) (fun _ => ?_)
    refine zr_aload_n X 0 dX9_changes_66 rfl rfl ?_
    refine zr_get X zfd_RX9_13 (132) (show 132 < w.1 by rw [hw]; omega) mW_132 (v := .ref (w.2 (134))) rfl dX9_changes_67 ?_
    refine zr_sipush X (v := 136) dX9_changes_70 (by decide) ?_
    refine zr_aload_n X 0 dX9_changes_73 rfl rfl ?_
    refine zr_get X zfd_RX9_32 (132) (show 132 < w.1 by rw [hw]; omega) mW_132 (v := .int (v 0)) rfl dX9_changes_74 ?_
    refine zr_imul X dX9_changes_77 ?_
    refine zr_iload_n X 1 dX9_changes_78 rfl rfl ?_
    refine zr_iadd X dX9_changes_79 ?_
    refine zr_aload_n X 0 dX9_changes_80 rfl rfl ?_
    refine zr_get X zfd_RX9_7 (132) (show 132 < w.1 by rw [hw]; omega) mW_132 (v := .ref (w.2 (133))) rfl dX9_changes_81 ?_
    refine zr_iload_n X 1 dX9_changes_84 rfl rfl ?_
    refine zr_iald X (133) (show 133 < w.1 by rw [hw]; omega) mW_133 (n) (rfl) (by omega) (by decide) dX9_changes_85 ?_
    refine zr_iast X (134) (show 134 < w.1 by rw [hw]; omega) ((mW_out (by decide) (by decide) (by decide)).trans (va_up_self _ _ _)) (136 * k + n) ((show (136 : Int32) * v 0 + nI n = _ by rw [hk]; exact nI_mul9 (c := 136))) (by omega) (by decide) dX9_changes_86 ?_
    refine zcw (f2 := mW w cy (va_up f (134) (eInts cy 544 (upd (dPw P s k (n)) (136 * k + n) (s n)))) v s nu) ((mu_out (by decide) (by decide) (by decide)).trans (by rw [va_up_up])) ?_
    refine zr_iinc X (v := nI (n + 1)) (ls' := [(1, .int (nI (n + 1))), (0, .ref (w.2 (132)))]) 1 dX9_changes_87 rfl (zinc1 _) (by decide) rfl ?_
    refine zr_goto X (tgt := 59) dX9_changes_90 (by decide) ?_
    refine zr_loc X (ls' := [(0, .ref (w.2 (132))), (1, .int (nI (n + 1)))]) [1, 0] rfl ?_
    exact zcast (f2 := mW w cy (va_up f (134) (eInts cy 544 (dPw P s k (n + 1)))) v s nu) (ls2 := [(0, .ref (w.2 (132))), (1, .int (nI (n + 1)))]) rfl rfl ih59
set_option maxHeartbeats 4000000 in
set_option maxRecDepth 100000 in
theorem k_chB {l : Launch} {D : va_G} {cy : Nat → ClassId} {w : zW} {f : zF} {v s nu : Nat → Int32} {P : Nat → Int32} (hw : w.1 = 139) (hp : f 134 = eInts cy 544 P) (hr : v 1 = 0) (hk : v 0 = nI 4) : zSd l D cy yX9_changes cX9_changes 2 none 0 0 [.ref (w.2 (132))] w (mW w cy f v s nu) none (mW w cy (va_up f (134) (eInts cy 544 (dPa v P s 4))) (dPv v 4) s nu) := by
  refine zSd.intro (by decide) (Nat.le_of_ble_eq_true rfl) (fun G X E => ?_)
  show G (w, 0, 0) (mW w cy f v s nu) [(0, .ref (w.2 (132)))] 0 []
  refine zr_aload_n X 0 dX9_changes_0 rfl rfl ?_
  refine zr_get X zfd_RX9_28 (132) (show 132 < w.1 by rw [hw]; omega) mW_132 (v := .int (v 1)) rfl dX9_changes_1 ?_
  refine zr_if_eq X (tgt := 8) dX9_changes_4 (by decide) (fun _ => ?_) (fun h => False.elim (h hr))
  refine zr_aload_n X 0 dX9_changes_8 rfl rfl ?_
  refine zr_get X zfd_RX9_32 (132) (show 132 < w.1 by rw [hw]; omega) mW_132 (v := .int (v 0)) rfl dX9_changes_9 ?_
  refine zr_iconst X (v := 4) dX9_changes_12 (by decide) ?_
  refine zr_icmp_ne X (tgt := 57) dX9_changes_13 (by decide) (fun h => False.elim (h hk)) (fun _ => ?_)
  refine zr_iconst X (v := 0) dX9_changes_16 (by decide) ?_
  refine zr_istore_n X (ls' := [(1, .int (0)), (0, .ref (w.2 (132)))]) dX9_changes_17 rfl (by decide) rfl ?_
  refine zr_loc X (ls' := [(0, .ref (w.2 (132))), (1, .int (0))]) [1, 0] rfl ?_
  refine zcast (f2 := mW w cy (va_up f (134) (eInts cy 544 (dPs P (0)))) v s nu) (ls2 := [(0, .ref (w.2 (132))), (1, .int (nI (0)))]) (congrArg (fun z => mW w cy z v s nu) (zsame_up hp rfl)) rfl ?_
  refine zdown (P := fun n => G (w, 0, 0) (mW w cy (va_up f (134) (eInts cy 544 (dPs P (n)))) v s nu) [(0, .ref (w.2 (132))), (1, .int (nI (n)))] 18 []) (B := 408) ?_ (fun n hn18 ih18 => ?_) 0 (Nat.zero_le _) 
  · show G (w, 0, 0) (mW w cy (va_up f (134) (eInts cy 544 (dPs P (408)))) v s nu) [(0, .ref (w.2 (132))), (1, .int (nI (408)))] 18 []
    refine zr_iload_n X 1 dX9_changes_18 rfl rfl ?_
    refine zr_sipush X (v := 408) dX9_changes_19 (by decide) ?_
    refine zr_icmp_ge X (tgt := 47) dX9_changes_22 (by decide) (fun _ => ?_) (fun h => False.elim (h (by decide)))
    refine zr_aload_n X 0 dX9_changes_47 rfl rfl ?_
    refine zr_dup X dX9_changes_48 rfl ?_
    refine zr_get X zfd_RX9_32 (132) (show 132 < w.1 by rw [hw]; omega) mW_132 (v := .int (v 0)) rfl dX9_changes_49 ?_
    refine zr_iconst X (v := 1) dX9_changes_52 (by decide) ?_
    refine zr_isub X dX9_changes_53 ?_
    refine zr_put X zfd_RX9_32 zty_9_4 (132) (show 132 < w.1 by rw [hw]; omega) mW_132 rfl rfl (Nat.le_of_ble_eq_true rfl) eMod_s4 dX9_changes_54 ?_
    refine zcw (f2 := mW w cy (va_up f (134) (eInts cy 544 (dPs P 408))) (upd v 0 3) s nu) (mu_132.trans (show mW w cy (va_up f (134) (eInts cy 544 (dPs P 408))) (upd v 0 (v 0 - 1)) s nu = mW w cy (va_up f (134) (eInts cy 544 (dPs P 408))) (upd v 0 3) s nu by rw [hk]; rfl)) ?_
    refine zr_iconst X (v := 0) dX9_changes_57 (by decide) ?_
    refine zr_istore_n X (ls' := [(1, .int (0)), (0, .ref (w.2 (132)))]) dX9_changes_58 rfl (by decide) rfl ?_
    refine zr_loc X (ls' := [(0, .ref (w.2 (132))), (1, .int (0))]) [1, 0] rfl ?_
    refine zcast (f2 := mW w cy (va_up f (134) (eInts cy 544 (dPw (dPs P 408) s 3 (0)))) (upd v 0 3) s nu) (ls2 := [(0, .ref (w.2 (132))), (1, .int (nI (0)))]) rfl rfl ?_
    refine zdown (P := fun n => G (w, 0, 0) (mW w cy (va_up f (134) (eInts cy 544 (dPw (dPs P 408) s 3 (n)))) (upd v 0 3) s nu) [(0, .ref (w.2 (132))), (1, .int (nI (n)))] 59 []) (B := 136) ?_ (fun n hn59 ih59 => ?_) 0 (Nat.zero_le _) 
    · show G (w, 0, 0) (mW w cy (va_up f (134) (eInts cy 544 (dPw (dPs P 408) s 3 (136)))) (upd v 0 3) s nu) [(0, .ref (w.2 (132))), (1, .int (nI (136)))] 59 []
      refine zr_iload_n X 1 dX9_changes_59 rfl rfl ?_
      refine zr_sipush X (v := 136) dX9_changes_60 (by decide) ?_
      refine zr_icmp_ge X (tgt := 93) dX9_changes_63 (by decide) (fun _ => ?_) (fun h => False.elim (h (by decide)))
      refine zr_aload_n X 0 dX9_changes_93 rfl rfl ?_
      refine zr_dup X dX9_changes_94 rfl ?_
      refine zr_get X zfd_RX9_32 (132) (show 132 < w.1 by rw [hw]; omega) mW_132 (v := .int ((upd v 0 3) 0)) rfl dX9_changes_95 ?_
      refine zr_iconst X (v := 1) dX9_changes_98 (by decide) ?_
      refine zr_iadd X dX9_changes_99 ?_
      refine zr_put X zfd_RX9_32 zty_9_4 (132) (show 132 < w.1 by rw [hw]; omega) mW_132 rfl rfl (Nat.le_of_ble_eq_true rfl) eMod_s4 dX9_changes_100 ?_
      refine zcw (f2 := mW w cy (va_up f (134) (eInts cy 544 (dPw (dPs P 408) s 3 (136)))) (upd (upd v 0 3) 0 (((upd v 0 3) 0) + 1)) s nu) mu_132 ?_
      exact zret_v E rfl dX9_changes_103 (by unfold dPa dPv dPj; rw [if_pos hr, if_pos hr, if_neg (by decide), if_neg (by decide)]; exact congrArg (fun z => mW w cy _ z s nu) (upd_upd.trans rfl))
    · show G (w, 0, 0) (mW w cy (va_up f (134) (eInts cy 544 (dPw (dPs P 408) s 3 (n)))) (upd v 0 3) s nu) [(0, .ref (w.2 (132))), (1, .int (nI (n)))] 59 []
      refine zr_iload_n X 1 dX9_changes_59 rfl rfl ?_
      refine zr_sipush X (v := 136) dX9_changes_60 (by decide) ?_
      refine zr_icmp_ge X (tgt := 93) dX9_changes_63 (by decide) (fun h => False.elim (nI_ge hn59 (by decide) h)) (fun _ => ?_)
      refine zr_aload_n X 0 dX9_changes_66 rfl rfl ?_
      refine zr_get X zfd_RX9_13 (132) (show 132 < w.1 by rw [hw]; omega) mW_132 (v := .ref (w.2 (134))) rfl dX9_changes_67 ?_
      refine zr_sipush X (v := 136) dX9_changes_70 (by decide) ?_
      refine zr_aload_n X 0 dX9_changes_73 rfl rfl ?_
      refine zr_get X zfd_RX9_32 (132) (show 132 < w.1 by rw [hw]; omega) mW_132 (v := .int ((upd v 0 3) 0)) rfl dX9_changes_74 ?_
      refine zr_imul X dX9_changes_77 ?_
      refine zr_iload_n X 1 dX9_changes_78 rfl rfl ?_
      refine zr_iadd X dX9_changes_79 ?_
      refine zr_aload_n X 0 dX9_changes_80 rfl rfl ?_
      refine zr_get X zfd_RX9_7 (132) (show 132 < w.1 by rw [hw]; omega) mW_132 (v := .ref (w.2 (133))) rfl dX9_changes_81 ?_
      refine zr_iload_n X 1 dX9_changes_84 rfl rfl ?_
      refine zr_iald X (133) (show 133 < w.1 by rw [hw]; omega) mW_133 (n) (rfl) (by omega) (by decide) dX9_changes_85 ?_
      refine zr_iast X (134) (show 134 < w.1 by rw [hw]; omega) ((mW_out (by decide) (by decide) (by decide)).trans (va_up_self _ _ _)) (136 * 3 + n) ((show (136 : Int32) * (upd v 0 3) 0 + nI n = _ from nI_mul9 (c := 136) (k := 3))) (by omega) (by decide) dX9_changes_86 ?_
      refine zcw (f2 := mW w cy (va_up f (134) (eInts cy 544 (upd (dPw (dPs P 408) s 3 (n)) (136 * 3 + n) (s n)))) (upd v 0 3) s nu) ((mu_out (by decide) (by decide) (by decide)).trans (by rw [va_up_up])) ?_
      refine zr_iinc X (v := nI (n + 1)) (ls' := [(1, .int (nI (n + 1))), (0, .ref (w.2 (132)))]) 1 dX9_changes_87 rfl (zinc1 _) (by decide) rfl ?_
      refine zr_goto X (tgt := 59) dX9_changes_90 (by decide) ?_
      refine zr_loc X (ls' := [(0, .ref (w.2 (132))), (1, .int (nI (n + 1)))]) [1, 0] rfl ?_
      exact zcast (f2 := mW w cy (va_up f (134) (eInts cy 544 (dPw (dPs P 408) s 3 (n + 1)))) (upd v 0 3) s nu) (ls2 := [(0, .ref (w.2 (132))), (1, .int (nI (n + 1)))]) rfl rfl ih59
  · show G (w, 0, 0) (mW w cy (va_up f (134) (eInts cy 544 (dPs P (n)))) v s nu) [(0, .ref (w.2 (132))), (1, .int (nI (n)))] 18 []
    refine zr_iload_n X 1 dX9_changes_18 rfl rfl ?_
    refine zr_sipush X (v := 408) dX9_changes_19 (by decide) ?_
    refine zr_icmp_ge X (tgt := 47) dX9_changes_22 (by decide) (fun h => False.elim (nI_ge hn18 (by decide) h)) (fun _ => ?_)
    refine zr_aload_n X 0 dX9_changes_25 rfl rfl ?_
    refine zr_get X zfd_RX9_13 (132) (show 132 < w.1 by rw [hw]; omega) mW_132 (v := .ref (w.2 (134))) rfl dX9_changes_26 ?_
    refine zr_iload_n X 1 dX9_changes_29 rfl rfl ?_
    refine zr_aload_n X 0 dX9_changes_30 rfl rfl ?_
    refine zr_get X zfd_RX9_13 (132) (show 132 < w.1 by rw [hw]; omega) mW_132 (v := .ref (w.2 (134))) rfl dX9_changes_31 ?_
    refine zr_iload_n X 1 dX9_changes_34 rfl rfl ?_
    refine zr_sipush X (v := 136) dX9_changes_35 (by decide) ?_
    refine zr_iadd X dX9_changes_38 ?_
    refine zr_iald X (134) (show 134 < w.1 by rw [hw]; omega) ((mW_out (by decide) (by decide) (by decide)).trans (va_up_self _ _ _)) (n + 136) (nI_add _ 136) (by omega) (by decide) dX9_changes_39 ?_
    refine zr_iast X (134) (show 134 < w.1 by rw [hw]; omega) ((mW_out (by decide) (by decide) (by decide)).trans (va_up_self _ _ _)) (n) (rfl) (by omega) (by decide) dX9_changes_40 ?_
    refine zcw (f2 := mW w cy (va_up f (134) (eInts cy 544 (upd (dPs P (n)) n ((dPs P (n)) (n + 136))))) v s nu) ((mu_out (by decide) (by decide) (by decide)).trans (by rw [va_up_up])) ?_
    refine zr_iinc X (v := nI (n + 1)) (ls' := [(1, .int (nI (n + 1))), (0, .ref (w.2 (132)))]) 1 dX9_changes_41 rfl (zinc1 _) (by decide) rfl ?_
    refine zr_goto X (tgt := 18) dX9_changes_44 (by decide) ?_
    refine zr_loc X (ls' := [(0, .ref (w.2 (132))), (1, .int (nI (n + 1)))]) [1, 0] rfl ?_
    exact zcast (f2 := mW w cy (va_up f (134) (eInts cy 544 (dPs P (n + 1)))) v s nu) (ls2 := [(0, .ref (w.2 (132))), (1, .int (nI (n + 1)))]) rfl rfl ih18
theorem k_changes {l : Launch} {D : va_G} {cy : Nat → ClassId} {w : zW} {f : zF} {v s nu P : Nat → Int32} {k : Nat} (hw : w.1 = 139) (hp : f 134 = eInts cy 544 P) (hr : v 1 = 0 ∨ v 1 = 1) (hk : v 0 = nI k) (hk4 : k ≤ 4) : zSd l D cy yX9_changes cX9_changes 2 none 0 0 [.ref (w.2 132)] w (mW w cy f v s nu) none (mW w cy (va_up f 134 (eInts cy 544 (dPa v P s k))) (dPv v k) s nu) := by
  rcases hr with hr | hr
  · rcases Nat.lt_or_ge k 4 with h | h
    · exact k_chA hw hp hr hk h
    · obtain rfl : k = 4 := by omega
      exact k_chB hw hp hr hk
  · exact k_chR hw hp hr
/-- behind a change: q is the answer, whether it went well, the row then -/
def mQ (w : zW) (cy : Nat → ClassId) (f : zF) (v s nu P : Nat → Int32) (k : Nat) (q : Int32 × Bool × (Nat → Int32)) : zF := if q.2.1 then mW w cy (va_up f 134 (eInts cy 544 (dPa v P s k))) (dPv v k) q.2.2 nu else mW w cy f v s nu
