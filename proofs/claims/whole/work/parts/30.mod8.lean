def dUn (s P : Nat → Int32) (k n : Nat) : Nat → Int32 := zfold (fun i p => upd p i (P (136 * k + i))) s n
theorem dUn_in {s P : Nat → Int32} {k i : Nat} : ∀ n, i < n → dUn s P k n i = P (136 * k + i)
  | n + 1, h => by
    show upd (dUn s P k n) n (P (136 * k + n)) i = _
    by_cases e : i = n
    · subst e; exact upd_eq
    · exact (upd_ne e).trans (dUn_in n (by omega))
set_option maxHeartbeats 4000000 in
set_option maxRecDepth 100000 in
theorem k_mundo0 {l : Launch} {D : va_G} {cy : Nat → ClassId} {w : zW} {f : zF} {v s nu : Nat → Int32}  (hw : w.1 = 139) (hk : v 0 = 0) : zSd l D cy yX9_undo cX9_undo 2 (some .int) 0 0 [.ref (w.2 (132))] w (mW w cy f v s nu) (some (.int ((-1000002)))) (mW w cy f v s nu) := by
  refine zSd.intro (by decide) (Nat.le_of_ble_eq_true rfl) (fun G X E => ?_)
  show G (w, 0, 0) (mW w cy f v s nu) [(0, .ref (w.2 (132)))] 0 []
  refine zr_aload_n X 0 dX9_undo_0 rfl rfl ?_
  refine zr_get X zfd_RX9_32 (132) (show 132 < w.1 by rw [hw]; omega) mW_132 (v := .int (v 0)) rfl dX9_undo_1 ?_
  refine zr_if_ne X (tgt := 10) dX9_undo_4 (by decide) (fun h => False.elim (h hk)) (fun _ => ?_)
  refine zr_ldc X zm_4_16 dX9_undo_7 ?_
  exact zret_i E rfl dX9_undo_9 rfl rfl
set_option maxHeartbeats 4000000 in
set_option maxRecDepth 100000 in
theorem k_mundo {l : Launch} {D : va_G} {cy : Nat → ClassId} {w : zW} {f : zF} {v s nu : Nat → Int32} {P : Nat → Int32} {k : Nat} (hw : w.1 = 139) (hp : f 134 = eInts cy 544 P) (hk : v 0 = nI (k + 1)) (hk4 : k < 4) : zSd l D cy yX9_undo cX9_undo 2 (some .int) 0 0 [.ref (w.2 (132))] w (mW w cy f v s nu) (some (.int (nI k))) (mW w cy f (upd v 0 (nI k)) (dUn s P k 136) nu) := by
  refine zSd.intro (by decide) (Nat.le_of_ble_eq_true rfl) (fun G X E => ?_)
  show G (w, 0, 0) (mW w cy f v s nu) [(0, .ref (w.2 (132)))] 0 []
  refine zr_aload_n X 0 dX9_undo_0 rfl rfl ?_
  refine zr_get X zfd_RX9_32 (132) (show 132 < w.1 by rw [hw]; omega) mW_132 (v := .int (v 0)) rfl dX9_undo_1 ?_
  refine zr_if_ne X (tgt := 10) dX9_undo_4 (by decide) (fun _ => ?_) (fun h => False.elim (nI_ne0 (Nat.succ_pos k) (by omega) (hk.symm.trans h)))
  refine zr_aload_n X 0 dX9_undo_10 rfl rfl ?_
  refine zr_dup X dX9_undo_11 rfl ?_
  refine zr_get X zfd_RX9_32 (132) (show 132 < w.1 by rw [hw]; omega) mW_132 (v := .int (v 0)) rfl dX9_undo_12 ?_
  refine zr_iconst X (v := 1) dX9_undo_15 (by decide) ?_
  refine zr_isub X dX9_undo_16 ?_
  refine zr_put X zfd_RX9_32 zty_9_4 (132) (show 132 < w.1 by rw [hw]; omega) mW_132 rfl rfl (Nat.le_of_ble_eq_true rfl) eMod_s4 dX9_undo_17 ?_
  refine zcw (f2 := mW w cy f (upd v 0 (nI k)) s nu) (mu_132.trans (by rw [hk, nI_pred9])) ?_
  refine zr_iconst X (v := 0) dX9_undo_20 (by decide) ?_
  refine zr_istore_n X (ls' := [(1, .int (0)), (0, .ref (w.2 (132)))]) dX9_undo_21 rfl (by decide) rfl ?_
  refine zr_loc X (ls' := [(0, .ref (w.2 (132))), (1, .int (0))]) [1, 0] rfl ?_
  refine zcast (f2 := mW w cy f (upd v 0 (nI k)) (dUn s P k (0)) nu) (ls2 := [(0, .ref (w.2 (132))), (1, .int (nI (0)))]) rfl rfl ?_
  refine zdown (P := fun n => G (w, 0, 0) (mW w cy f (upd v 0 (nI k)) (dUn s P k (n)) nu) [(0, .ref (w.2 (132))), (1, .int (nI (n)))] 22 []) (B := 136) ?_ (fun n hn22 ih22 => ?_) 0 (Nat.zero_le _) 
  · show G (w, 0, 0) (mW w cy f (upd v 0 (nI k)) (dUn s P k (136)) nu) [(0, .ref (w.2 (132))), (1, .int (nI (136)))] 22 []
    refine zr_iload_n X 1 dX9_undo_22 rfl rfl ?_
    refine zr_sipush X (v := 136) dX9_undo_23 (by decide) ?_
    refine zr_icmp_ge X (tgt := 56) dX9_undo_26 (by decide) (fun _ => ?_) (fun h => False.elim (h (by decide)))
    refine zr_aload_n X 0 dX9_undo_56 rfl rfl ?_
    refine zr_get X zfd_RX9_32 (132) (show 132 < w.1 by rw [hw]; omega) mW_132 (v := .int ((upd v 0 (nI k)) 0)) rfl dX9_undo_57 ?_
    exact zret_i E rfl dX9_undo_60 upd_eq (by simp only [])
  · show G (w, 0, 0) (mW w cy f (upd v 0 (nI k)) (dUn s P k (n)) nu) [(0, .ref (w.2 (132))), (1, .int (nI (n)))] 22 []
    refine zr_iload_n X 1 dX9_undo_22 rfl rfl ?_
    refine zr_sipush X (v := 136) dX9_undo_23 (by decide) ?_
    refine zr_icmp_ge X (tgt := 56) dX9_undo_26 (by decide) (fun h => False.elim (nI_ge hn22 (by decide) h)) (fun _ => ?_)
    refine zr_aload_n X 0 dX9_undo_29 rfl rfl ?_
    refine zr_get X zfd_RX9_7 (132) (show 132 < w.1 by rw [hw]; omega) mW_132 (v := .ref (w.2 (133))) rfl dX9_undo_30 ?_
    refine zr_iload_n X 1 dX9_undo_33 rfl rfl ?_
    refine zr_aload_n X 0 dX9_undo_34 rfl rfl ?_
    refine zr_get X zfd_RX9_13 (132) (show 132 < w.1 by rw [hw]; omega) mW_132 (v := .ref (w.2 (134))) rfl dX9_undo_35 ?_
    refine zr_sipush X (v := 136) dX9_undo_38 (by decide) ?_
    refine zr_aload_n X 0 dX9_undo_41 rfl rfl ?_
    refine zr_get X zfd_RX9_32 (132) (show 132 < w.1 by rw [hw]; omega) mW_132 (v := .int ((upd v 0 (nI k)) 0)) rfl dX9_undo_42 ?_
    refine zr_imul X dX9_undo_45 ?_
    refine zr_iload_n X 1 dX9_undo_46 rfl rfl ?_
    refine zr_iadd X dX9_undo_47 ?_
    refine zr_iald X (134) (show 134 < w.1 by rw [hw]; omega) ((mW_out (by decide) (by decide) (by decide)).trans hp) (136 * k + n) ((show (136 : Int32) * (upd v 0 (nI k)) 0 + nI n = _ from nI_mul9 (c := 136))) (by omega) (by decide) dX9_undo_48 ?_
    refine zr_iast X (133) (show 133 < w.1 by rw [hw]; omega) mW_133 (n) (rfl) (by omega) (by decide) dX9_undo_49 ?_
    refine zcw (f2 := mW w cy f (upd v 0 (nI k)) (upd (dUn s P k (n)) n (P (136 * k + n))) nu) mu_133 ?_
    refine zr_iinc X (v := nI (n + 1)) (ls' := [(1, .int (nI (n + 1))), (0, .ref (w.2 (132)))]) 1 dX9_undo_50 rfl (zinc1 _) (by decide) rfl ?_
    refine zr_goto X (tgt := 22) dX9_undo_53 (by decide) ?_
    refine zr_loc X (ls' := [(0, .ref (w.2 (132))), (1, .int (nI (n + 1)))]) [1, 0] rfl ?_
    exact zcast (f2 := mW w cy f (upd v 0 (nI k)) (dUn s P k (n + 1)) nu) (ls2 := [(0, .ref (w.2 (132))), (1, .int (nI (n + 1)))]) rfl rfl ih22
def dTy (v : Nat → Int32) (tx : Nat → Int32) (x : Int32) : Int32 × Int32 × (Nat → Int32) := if zwin x 32 126 = 0 then (-1000001, v 2, tx) else if v 2 = 60 then (-1000003, v 2, tx) else (v 2 + 1, v 2 + 1, upd tx (v 2).toNatClampNeg x)
set_option maxHeartbeats 4000000 in
set_option maxRecDepth 100000 in
theorem k_mtype {l : Launch} {D : va_G} {cy : Nat → ClassId} {w : zW} {f : zF} {v s nu : Nat → Int32} {tx : Nat → Int32} {x : Int32} {n : Nat} (hw : w.1 = 139) (htx : f 137 = eInts cy 60 tx) (hv2 : v 2 = nI n) (hn : n ≤ 60) : zSd l D cy yX9_type cX9_type 2 (some .int) 1 22 [.ref (w.2 (132)), .int (x)] w (mW w cy f v s nu) (some (.int ((dTy v tx x).1))) (mW w cy (va_up f 137 (eInts cy 60 (dTy v tx x).2.2)) (upd v 2 (dTy v tx x).2.1) s nu) := by
  refine zSd.intro (by decide) (Nat.le_of_ble_eq_true rfl) (fun G X E => ?_)
  show G (w, 0, 0) (mW w cy f v s nu) [(0, .ref (w.2 (132))), (1, .int (x))] 0 []
  refine zr_iload_n X 1 dX9_type_0 rfl rfl ?_
  refine zr_bipush X (v := 32) dX9_type_1 (by decide) ?_
  refine zr_bipush X (v := 126) dX9_type_3 (by decide) ?_
  refine zr_cS X (As := [.int (x), .int (32), .int (126)]) (rest := []) (f' := mW w cy f v s nu) (st' := [.int (zwin x 32 126)]) zc_X9_in k_in ⟨Nat.le_of_ble_eq_true rfl, Nat.le_of_ble_eq_true rfl⟩ ⟨Nat.le_refl _, Nat.le_refl _⟩ rfl (Nat.le_of_ble_eq_true rfl) zm_3_227 rfl dX9_type_5 rfl ?_
  refine zr_if_ne X (tgt := 14) dX9_type_8 (by decide) (fun h1 => ?_) (fun h2 => ?_)
  · refine zr_aload_n X 0 dX9_type_14 rfl rfl ?_
    refine zr_get X zfd_RX9_133 (132) (show 132 < w.1 by rw [hw]; omega) mW_132 (v := .int (v 2)) rfl dX9_type_15 ?_
    refine zr_bipush X (v := 60) dX9_type_18 (by decide) ?_
    refine zr_icmp_ne X (tgt := 26) dX9_type_20 (by decide) (fun h3 => ?_) (fun h4 => ?_)
    · have hn6 : n < 60 := by rcases Nat.lt_or_ge n 60 with q | q; exact q; exact absurd (hv2.trans (congrArg nI (show n = 60 by omega))) h3
      refine zr_aload_n X 0 dX9_type_26 rfl rfl ?_
      refine zr_get X zfd_RX9_22 (132) (show 132 < w.1 by rw [hw]; omega) mW_132 (v := .ref (w.2 (137))) rfl dX9_type_27 ?_
      refine zr_aload_n X 0 dX9_type_30 rfl rfl ?_
      refine zr_get X zfd_RX9_133 (132) (show 132 < w.1 by rw [hw]; omega) mW_132 (v := .int (v 2)) rfl dX9_type_31 ?_
      refine zr_iload_n X 1 dX9_type_34 rfl rfl ?_
      refine zr_iast X (137) (show 137 < w.1 by rw [hw]; omega) ((mW_out (by decide) (by decide) (by decide)).trans htx) ((v 2).toNatClampNeg) ((show v 2 = nI (v 2).toNatClampNeg by rw [hv2, nI_clamp (by omega)])) ((show (v 2).toNatClampNeg < 60 by rw [hv2, nI_clamp (by omega)]; exact hn6)) (by decide) dX9_type_35 ?_
      refine zcw (f2 := mW w cy (va_up f (137) (eInts cy 60 (upd tx ((v 2).toNatClampNeg) x))) v s nu) (mu_out (by decide) (by decide) (by decide)) ?_
      refine zr_aload_n X 0 dX9_type_36 rfl rfl ?_
      refine zr_dup X dX9_type_37 rfl ?_
      refine zr_get X zfd_RX9_133 (132) (show 132 < w.1 by rw [hw]; omega) mW_132 (v := .int (v 2)) rfl dX9_type_38 ?_
      refine zr_iconst X (v := 1) dX9_type_41 (by decide) ?_
      refine zr_iadd X dX9_type_42 ?_
      refine zr_put X zfd_RX9_133 zty_9_7 (132) (show 132 < w.1 by rw [hw]; omega) mW_132 rfl rfl (Nat.le_of_ble_eq_true rfl) eMod_s7 dX9_type_43 ?_
      refine zcw (f2 := mW w cy (va_up f (137) (eInts cy 60 (upd tx ((v 2).toNatClampNeg) x))) (upd v 2 ((v 2) + 1)) s nu) mu_132 ?_
      refine zr_aload_n X 0 dX9_type_46 rfl rfl ?_
      refine zr_get X zfd_RX9_133 (132) (show 132 < w.1 by rw [hw]; omega) mW_132 (v := .int ((v 2) + 1)) rfl dX9_type_47 ?_
      exact zret_i E rfl dX9_type_50 (by unfold dTy; rw [if_neg h1, if_neg h3]) (by unfold dTy; rw [if_neg h1, if_neg h3])
    · refine zr_ldc X zm_3_231 dX9_type_23 ?_
      exact zret_i E rfl dX9_type_25 (by unfold dTy; rw [if_neg h1, if_pos h4]) (by unfold dTy; rw [if_neg h1, if_pos h4]; show _ = mW w cy (va_up f 137 (eInts cy 60 tx)) (upd v 2 (v 2)) s nu; rw [upd_self, ← zsame_up htx rfl])
  · refine zr_ldc X zm_3_230 dX9_type_11 ?_
    exact zret_i E rfl dX9_type_13 (by unfold dTy; rw [if_pos h2]) (by unfold dTy; rw [if_pos h2]; show _ = mW w cy (va_up f 137 (eInts cy 60 tx)) (upd v 2 (v 2)) s nu; rw [upd_self, ← zsame_up htx rfl])
set_option maxHeartbeats 4000000 in
set_option maxRecDepth 100000 in
theorem k_mclear {l : Launch} {D : va_G} {cy : Nat → ClassId} {w : zW} {f : zF} {v s nu : Nat → Int32}  (hw : w.1 = 139)  : zSd l D cy yX9_clearText cX9_clearText 2 (some .int) 0 0 [.ref (w.2 (132))] w (mW w cy f v s nu) (some (.int (v 2))) (mW w cy f (upd v 2 0) s nu) := by
  refine zSd.intro (by decide) (Nat.le_of_ble_eq_true rfl) (fun G X E => ?_)
  show G (w, 0, 0) (mW w cy f v s nu) [(0, .ref (w.2 (132)))] 0 []
  refine zr_aload_n X 0 dX9_clearText_0 rfl rfl ?_
  refine zr_get X zfd_RX9_133 (132) (show 132 < w.1 by rw [hw]; omega) mW_132 (v := .int (v 2)) rfl dX9_clearText_1 ?_
  refine zr_istore_n X (ls' := [(1, .int (v 2)), (0, .ref (w.2 (132)))]) dX9_clearText_4 rfl (by decide) rfl ?_
  refine zr_aload_n X 1 dX9_clearText_5 rfl rfl ?_
  refine zr_iconst X (v := 0) dX9_clearText_6 (by decide) ?_
  refine zr_put X zfd_RX9_133 zty_9_7 (132) (show 132 < w.1 by rw [hw]; omega) mW_132 rfl rfl (Nat.le_of_ble_eq_true rfl) eMod_s7 dX9_clearText_7 ?_
  refine zcw (f2 := mW w cy f (upd v 2 0) s nu) mu_132 ?_
  refine zr_iload_n X 0 dX9_clearText_10 rfl rfl ?_
  exact zret_i E rfl dX9_clearText_11 rfl rfl
def dAt (tx : Nat → Int32) (n p : Nat) (lo hi : Int32) : Int32 := if nI n ≤ nI p then 0 else if zwin (tx p) lo hi = 0 then 0 else 1
theorem dAt_lt {tx : Nat → Int32} {n p : Nat} {lo hi : Int32} (h : ¬ dAt tx n p lo hi = 0) (hp : p < 2147483648) (hn : n ≤ 60) : p < n := by
  unfold dAt at h
  rcases Nat.lt_or_ge p n with q | q
  · exact q
  · exact absurd (if_pos ((nI_leI (by omega) hp).mpr q)) h
set_option maxHeartbeats 4000000 in
set_option maxRecDepth 100000 in
theorem k_isAt {l : Launch} {D : va_G} {cy : Nat → ClassId} {w : zW} {f : zF} {v s nu : Nat → Int32} {tx : Nat → Int32} {n p : Nat} {a b : Int32} (hw : w.1 = 139) (htx : f 137 = eInts cy 60 tx) (hv2 : v 2 = nI n) (hn : n ≤ 60) (hv3 : v 3 = nI p) (hp : p ≤ n) : zSd l D cy yX9_isAt cX9_isAt 3 (some .boolean) 1 22 [.ref (w.2 (132)), .int (a), .int (b)] w (mW w cy f v s nu) (some (.int (dAt tx n p a b))) (mW w cy f v s nu) := by
  refine zSd.intro (by decide) (Nat.le_of_ble_eq_true rfl) (fun G X E => ?_)
  show G (w, 0, 0) (mW w cy f v s nu) [(0, .ref (w.2 (132))), (1, .int (a)), (2, .int (b))] 0 []
  refine zr_aload_n X 0 dX9_isAt_0 rfl rfl ?_
  refine zr_get X zfd_RX9_136 (132) (show 132 < w.1 by rw [hw]; omega) mW_132 (v := .int (v 3)) rfl dX9_isAt_1 ?_
  refine zr_aload_n X 0 dX9_isAt_4 rfl rfl ?_
  refine zr_get X zfd_RX9_133 (132) (show 132 < w.1 by rw [hw]; omega) mW_132 (v := .int (v 2)) rfl dX9_isAt_5 ?_
  refine zr_icmp_ge X (tgt := 32) dX9_isAt_8 (by decide) (fun h1 => ?_) (fun h2 => ?_)
  · refine zr_iconst X (v := 0) dX9_isAt_32 (by decide) ?_
    exact zret_z E rfl (Or.inl rfl) dX9_isAt_33 (by unfold dAt; rw [← hv2, ← hv3, if_pos h1]) rfl
  · have hq6 : p < 60 := by rcases Nat.lt_or_ge p n with q | q; exact (by omega); exact absurd (by rw [hv2, hv3]; exact (nI_leI (by omega) (by omega)).mpr q) h2
    refine zr_aload_n X 0 dX9_isAt_11 rfl rfl ?_
    refine zr_get X zfd_RX9_22 (132) (show 132 < w.1 by rw [hw]; omega) mW_132 (v := .ref (w.2 (137))) rfl dX9_isAt_12 ?_
    refine zr_aload_n X 0 dX9_isAt_15 rfl rfl ?_
    refine zr_get X zfd_RX9_136 (132) (show 132 < w.1 by rw [hw]; omega) mW_132 (v := .int (v 3)) rfl dX9_isAt_16 ?_
    refine zr_iald X (137) (show 137 < w.1 by rw [hw]; omega) ((mW_out (by decide) (by decide) (by decide)).trans htx) (p) (hv3) (hq6) (by decide) dX9_isAt_19 ?_
    refine zr_iload_n X 1 dX9_isAt_20 rfl rfl ?_
    refine zr_iload_n X 2 dX9_isAt_21 rfl rfl ?_
    refine zr_cS X (As := [.int (tx p), .int (a), .int (b)]) (rest := []) (f' := mW w cy f v s nu) (st' := [.int (zwin (tx p) a b)]) zc_X9_in k_in ⟨Nat.le_of_ble_eq_true rfl, Nat.le_of_ble_eq_true rfl⟩ ⟨Nat.le_refl _, Nat.le_refl _⟩ rfl (Nat.le_of_ble_eq_true rfl) zm_3_227 rfl dX9_isAt_22 rfl ?_
    refine zr_if_eq X (tgt := 32) dX9_isAt_25 (by decide) (fun h3 => ?_) (fun h4 => ?_)
    · refine zr_iconst X (v := 0) dX9_isAt_32 (by decide) ?_
      exact zret_z E rfl (Or.inl rfl) dX9_isAt_33 (by unfold dAt; rw [← hv2, ← hv3, if_neg h2, if_pos h3]) rfl
    · refine zr_iconst X (v := 1) dX9_isAt_28 (by decide) ?_
      refine zr_goto X (tgt := 33) dX9_isAt_29 (by decide) ?_
      exact zret_z E rfl (Or.inr rfl) dX9_isAt_33 (by unfold dAt; rw [← hv2, ← hv3, if_neg h2, if_neg h4]) rfl
theorem dAt_01 {tx : Nat → Int32} {n p : Nat} {lo hi : Int32} : dAt tx n p lo hi = 0 ∨ dAt tx n p lo hi = 1 := by
  unfold dAt
  split
  · exact .inl rfl
  · split
    · exact .inl rfl
    · exact .inr rfl
def dSg (tx : Nat → Int32) (n p : Nat) (c : Int32) : Nat := if dAt tx n p c c = 0 then p else p + 1
set_option maxHeartbeats 4000000 in
set_option maxRecDepth 100000 in
theorem k_sign {l : Launch} {D : va_G} {cy : Nat → ClassId} {w : zW} {f : zF} {v s nu : Nat → Int32} {tx : Nat → Int32} {n p : Nat} {c : Int32} (hw : w.1 = 139) (htx : f 137 = eInts cy 60 tx) (hv2 : v 2 = nI n) (hn : n ≤ 60) (hv3 : v 3 = nI p) (hp : p ≤ n) : zSd l D cy yX9_sign cX9_sign 3 (some .boolean) 2 44 [.ref (w.2 (132)), .int (c)] w (mW w cy f v s nu) (some (.int (dAt tx n p c c))) (mW w cy f (upd v 3 (nI (dSg tx n p c))) s nu) := by
  refine zSd.intro (by decide) (Nat.le_of_ble_eq_true rfl) (fun G X E => ?_)
  show G (w, 0, 0) (mW w cy f v s nu) [(0, .ref (w.2 (132))), (1, .int (c))] 0 []
  refine zr_aload_n X 0 dX9_sign_0 rfl rfl ?_
  refine zr_iload_n X 1 dX9_sign_1 rfl rfl ?_
  refine zr_iload_n X 1 dX9_sign_2 rfl rfl ?_
  refine zr_cV X (As := [.int (c), .int (c)]) (rest := []) (f' := mW w cy f v s nu) (st' := [.int (dAt tx n p c c)]) zc_X9_isAt (132) (show 132 < w.1 by rw [hw]; omega) mW_132 (q9 := _) rfl rfl (k_isAt hw htx hv2 hn hv3 hp) ⟨Nat.le_of_ble_eq_true rfl, Nat.le_of_ble_eq_true rfl⟩ ⟨Nat.le_refl _, Nat.le_refl _⟩ rfl (Nat.le_of_ble_eq_true rfl) zm_4_196 rfl dX9_sign_3 rfl ?_
  refine zr_istore_n X (ls' := [(2, .int (dAt tx n p c c)), (0, .ref (w.2 (132))), (1, .int (c))]) dX9_sign_6 rfl (by decide) rfl ?_
  refine zr_aload_n X 1 dX9_sign_7 rfl rfl ?_
  refine zr_dup X dX9_sign_8 rfl ?_
  refine zr_get X zfd_RX9_136 (132) (show 132 < w.1 by rw [hw]; omega) mW_132 (v := .int (v 3)) rfl dX9_sign_9 ?_
  refine zr_iload_n X 0 dX9_sign_12 rfl rfl ?_
  refine zr_if_eq X (tgt := 20) dX9_sign_13 (by decide) (fun h1 => ?_) (fun h2 => ?_)
  · refine zr_iconst X (v := 0) dX9_sign_20 (by decide) ?_
    refine zr_iadd X dX9_sign_21 ?_
    refine zr_put X zfd_RX9_136 zty_9_8 (132) (show 132 < w.1 by rw [hw]; omega) mW_132 rfl rfl (Nat.le_of_ble_eq_true rfl) eMod_s8 dX9_sign_22 ?_
    refine zcw (f2 := mW w cy f (upd v 3 ((v 3) + 0)) s nu) mu_132 ?_
    refine zr_iload_n X 0 dX9_sign_25 rfl rfl ?_
    exact zret_z E rfl (dAt_01) dX9_sign_26 rfl (by unfold dSg; rw [if_pos h1, hv3]; rw [Int32.add_zero])
  · refine zr_iconst X (v := 1) dX9_sign_16 (by decide) ?_
    refine zr_goto X (tgt := 21) dX9_sign_17 (by decide) ?_
    refine zr_iadd X dX9_sign_21 ?_
    refine zr_put X zfd_RX9_136 zty_9_8 (132) (show 132 < w.1 by rw [hw]; omega) mW_132 rfl rfl (Nat.le_of_ble_eq_true rfl) eMod_s8 dX9_sign_22 ?_
    refine zcw (f2 := mW w cy f (upd v 3 ((v 3) + 1)) s nu) mu_132 ?_
    refine zr_iload_n X 0 dX9_sign_25 rfl rfl ?_
    exact zret_z E rfl (dAt_01) dX9_sign_26 rfl (by unfold dSg; rw [if_neg h2, hv3]; rw [nI_1])
def dNo (c : Int32) : Int32 := if c = 100 then 1 else if c = 103 then 3 else if c = 112 then 1 else if c = 115 then 2 else if c = 120 then 1 else 0
set_option maxHeartbeats 4000000 in
set_option maxRecDepth 100000 in
theorem k_numbersOf {l : Launch} {D : va_G} {cy : Nat → ClassId} {w : zW} {f : zF} {c : Int32}  : zSd l D cy yX9_numbersOf cX9_numbersOf 1 (some .int) 0 0 [.int (c)] w f (some (.int (dNo c))) f := by
  refine zSd.intro (by decide) (Nat.le_of_ble_eq_true rfl) (fun G X E => ?_)
  show G (w, 0, 0) f [(0, .int (c))] 0 []
  refine zr_iload_n X 0 dX9_numbersOf_0 rfl rfl ?_
  by_cases h1 : c = 100
  · refine zr_lookup X (off := 55) (tgt := 56) dX9_numbersOf_1 (by decide) (by rw [h1]; decide) (by decide) ?_
    refine zr_iconst X (v := 1) dX9_numbersOf_56 (by decide) ?_
    exact zret_i E rfl dX9_numbersOf_57 (by unfold dNo; rw [if_pos h1]) rfl
  by_cases h2 : c = 103
  · refine zr_lookup X (off := 51) (tgt := 52) dX9_numbersOf_1 (by decide) (by rw [h2]; decide) (by decide) ?_
    refine zr_iconst X (v := 3) dX9_numbersOf_52 (by decide) ?_
    exact zret_i E rfl dX9_numbersOf_53 (by unfold dNo; rw [if_neg h1, if_pos h2]) rfl
  by_cases h3 : c = 112
  · refine zr_lookup X (off := 55) (tgt := 56) dX9_numbersOf_1 (by decide) (by rw [h3]; decide) (by decide) ?_
    refine zr_iconst X (v := 1) dX9_numbersOf_56 (by decide) ?_
    exact zret_i E rfl dX9_numbersOf_57 (by unfold dNo; rw [if_neg h1, if_neg h2, if_pos h3]) rfl
  by_cases h4 : c = 115
  · refine zr_lookup X (off := 53) (tgt := 54) dX9_numbersOf_1 (by decide) (by rw [h4]; decide) (by decide) ?_
    refine zr_iconst X (v := 2) dX9_numbersOf_54 (by decide) ?_
    exact zret_i E rfl dX9_numbersOf_55 (by unfold dNo; rw [if_neg h1, if_neg h2, if_neg h3, if_pos h4]) rfl
  by_cases h5 : c = 120
  · refine zr_lookup X (off := 55) (tgt := 56) dX9_numbersOf_1 (by decide) (by rw [h5]; decide) (by decide) ?_
    refine zr_iconst X (v := 1) dX9_numbersOf_56 (by decide) ?_
    exact zret_i E rfl dX9_numbersOf_57 (by unfold dNo; rw [if_neg h1, if_neg h2, if_neg h3, if_neg h4, if_pos h5]) rfl
  refine zr_lookup X (off := 57) (tgt := 58) dX9_numbersOf_1 (by decide) (by rw [lv_osw h1 (show (100 : Int32).toInt = 100 from by decide), lv_osw h2 (show (103 : Int32).toInt = 103 from by decide), lv_osw h3 (show (112 : Int32).toInt = 112 from by decide), lv_osw h4 (show (115 : Int32).toInt = 115 from by decide), lv_osw h5 (show (120 : Int32).toInt = 120 from by decide)]; rfl) (by decide) ?_
  refine zr_iconst X (v := 0) dX9_numbersOf_58 (by decide) ?_
  exact zret_i E rfl dX9_numbersOf_59 (by unfold dNo; rw [if_neg h1, if_neg h2, if_neg h3, if_neg h4, if_neg h5]) rfl
def dNb (tx : Nat → Int32) (n p : Nat) : Nat → Nat → Int32 → Nat × Int32
  | 0, k, a => (k, a)
  | m + 1, k, a => if dAt tx n (p + k) 48 57 = 0 then (k, a) else dNb tx n p m (k + 1) ((10 * a + tx (p + k)) - 48)
theorem dNb_le {tx : Nat → Int32} {n p : Nat} (hn : n ≤ 60) : ∀ m k a, p + k ≤ n → p + (dNb tx n p m k a).1 ≤ n
  | 0, k, a, h => h
  | m + 1, k, a, h => by
    unfold dNb
    split
    · exact h
    · rename_i q
      exact dNb_le hn m (k + 1) _ (by have := dAt_lt q (by omega) hn; omega)
def dOk (p q : Nat) : Int32 := if nI q ≤ nI p then 0 else 1
theorem upd_id9 {v : Nat → Int32} {i : Nat} {x : Int32} (h : v i = x) : v = upd v i x := by rw [← h, upd_self]
set_option maxHeartbeats 4000000 in
set_option maxRecDepth 100000 in
theorem k_numbered {l : Launch} {D : va_G} {cy : Nat → ClassId} {w : zW} {f : zF} {v s nu : Nat → Int32} {tx : Nat → Int32} {n p : Nat} {x : Int32} {q0 : Nat} (hw : w.1 = 139) (htx : f 137 = eInts cy 60 tx) (hv2 : v 2 = nI n) (hn : n ≤ 60) (hv3 : v 3 = nI p) (hp : p ≤ n) (hx : x = nI q0) (hq : q0 < 3) : zSd l D cy yX9_numbered cX9_numbered 3 (some .boolean) 2 44 [.ref (w.2 (132)), .int (x)] w (mW w cy f v s nu) (some (.int (dOk p (p + (dNb tx n p 3 0 0).1)))) (mW w cy f (upd v 3 (nI (p + ((dNb tx n p 3 0 0).1)))) s (upd nu q0 (dNb tx n p 3 0 0).2)) := by
  refine zSd.intro (by decide) (Nat.le_of_ble_eq_true rfl) (fun G X E => ?_)
  obtain ⟨RS, eRS⟩ : ∃ z, dNb tx n p 3 0 0 = z := ⟨_, rfl⟩
  show G (w, 0, 0) (mW w cy f v s nu) [(0, .ref (w.2 (132))), (1, .int (x))] 0 []
  refine zr_aload_n X 0 dX9_numbered_0 rfl rfl ?_
  refine zr_get X zfd_RX9_136 (132) (show 132 < w.1 by rw [hw]; omega) mW_132 (v := .int (v 3)) rfl dX9_numbered_1 ?_
  refine zr_istore_n X (ls' := [(2, .int (v 3)), (0, .ref (w.2 (132))), (1, .int (x))]) dX9_numbered_4 rfl (by decide) rfl ?_
  refine zr_aload_n X 1 dX9_numbered_5 rfl rfl ?_
  refine zr_get X zfd_RX9_25 (132) (show 132 < w.1 by rw [hw]; omega) mW_132 (v := .ref (w.2 (138))) rfl dX9_numbered_6 ?_
  refine zr_iload_n X 2 dX9_numbered_9 rfl rfl ?_
  refine zr_iconst X (v := 0) dX9_numbered_10 (by decide) ?_
  refine zr_iast X (138) (show 138 < w.1 by rw [hw]; omega) mW_138 (q0) (hx) (hq) (by decide) dX9_numbered_11 ?_
  refine zcw (f2 := mW w cy f (upd v 3 (nI (p + (0)))) s (upd nu q0 0)) (mu_138.trans (congrArg (fun z => mW w cy f z s (upd nu q0 0)) (upd_id9 hv3))) ?_
  refine zr_loc X (ls' := [(0, .ref (w.2 (132))), (1, .int (x)), (2, .int (v 3))]) [1, 2, 0] rfl ?_
  refine zcast (f2 := mW w cy f (upd v 3 (nI (p + (0)))) s (upd nu q0 0)) (ls2 := [(0, .ref (w.2 (132))), (1, .int (x)), (2, .int (v 3))]) rfl rfl ?_
  refine zdown (P := fun m9 => ∀ a : Int32, dNb tx n p (3 - (m9)) (m9) a = RS → p + (m9) ≤ n → G (w, 0, 0) (mW w cy f (upd v 3 (nI (p + (m9)))) s (upd nu q0 a)) [(0, .ref (w.2 (132))), (1, .int (x)), (2, .int (v 3))] 12 []) (B := 3) ?_ (fun m9 hn12 ih12 => ?_) 0 (Nat.zero_le _) _ eRS (by omega)
  · show ∀ a : Int32, dNb tx n p (3 - (3)) (3) a = RS → p + (3) ≤ n → G (w, 0, 0) (mW w cy f (upd v 3 (nI (p + (3)))) s (upd nu q0 a)) [(0, .ref (w.2 (132))), (1, .int (x)), (2, .int (v 3))] 12 []
    intro a q hb
    change (3, a) = RS at q
    refine zr_aload_n X 0 dX9_numbered_12 rfl rfl ?_
    refine zr_bipush X (v := 48) dX9_numbered_13 (by decide) ?_
    refine zr_bipush X (v := 57) dX9_numbered_15 (by decide) ?_
    refine zr_cV X (As := [.int (48), .int (57)]) (rest := []) (f' := mW w cy f (upd v 3 (nI (p + (3)))) s (upd nu q0 a)) (st' := [.int (dAt tx n (p + 3) 48 57)]) zc_X9_isAt (132) (show 132 < w.1 by rw [hw]; omega) mW_132 (q9 := _) rfl rfl (k_isAt (p := p + 3) hw htx ((upd_ne (by decide)).trans hv2) hn upd_eq hb) ⟨Nat.le_of_ble_eq_true rfl, Nat.le_of_ble_eq_true rfl⟩ ⟨Nat.le_refl _, Nat.le_refl _⟩ rfl (Nat.le_of_ble_eq_true rfl) zm_4_196 rfl dX9_numbered_17 rfl ?_
    refine zr_if_eq X (tgt := 74) dX9_numbered_20 (by decide) (fun h1 => ?_) (fun h2 => ?_)
    · refine zr_aload_n X 0 dX9_numbered_74 rfl rfl ?_
      refine zr_get X zfd_RX9_136 (132) (show 132 < w.1 by rw [hw]; omega) mW_132 (v := .int (nI (p + (3)))) rfl dX9_numbered_75 ?_
      refine zr_iload_n X 2 dX9_numbered_78 rfl rfl ?_
      refine zr_icmp_le X (tgt := 86) dX9_numbered_79 (by decide) (fun h3 => ?_) (fun h4 => ?_)
      · refine zr_iconst X (v := 0) dX9_numbered_86 (by decide) ?_
        exact zret_z E rfl (Or.inl rfl) dX9_numbered_87 (by rw [eRS, ← q]; unfold dOk; rw [← hv3, if_pos h3]) (by rw [eRS, ← q])
      · refine zr_iconst X (v := 1) dX9_numbered_82 (by decide) ?_
        refine zr_goto X (tgt := 87) dX9_numbered_83 (by decide) ?_
        exact zret_z E rfl (Or.inr rfl) dX9_numbered_87 (by rw [eRS, ← q]; unfold dOk; rw [← hv3, if_neg h4]) (by rw [eRS, ← q])
    · refine zr_aload_n X 0 dX9_numbered_23 rfl rfl ?_
      refine zr_get X zfd_RX9_136 (132) (show 132 < w.1 by rw [hw]; omega) mW_132 (v := .int (nI (p + (3)))) rfl dX9_numbered_24 ?_
      refine zr_iload_n X 2 dX9_numbered_27 rfl rfl ?_
      refine zr_isub X dX9_numbered_28 ?_
      refine zr_iconst X (v := 3) dX9_numbered_29 (by decide) ?_
      refine zr_icmp_ge X (tgt := 74) dX9_numbered_30 (by decide) (fun _ => ?_) (fun h => False.elim (h (by rw [hv3, nI_sub (by omega) (by omega), show p + 3 - p = 3 by omega]; decide)))
      refine zr_aload_n X 0 dX9_numbered_74 rfl rfl ?_
      refine zr_get X zfd_RX9_136 (132) (show 132 < w.1 by rw [hw]; omega) mW_132 (v := .int (nI (p + (3)))) rfl dX9_numbered_75 ?_
      refine zr_iload_n X 2 dX9_numbered_78 rfl rfl ?_
      refine zr_icmp_le X (tgt := 86) dX9_numbered_79 (by decide) (fun h5 => ?_) (fun h6 => ?_)
      · refine zr_iconst X (v := 0) dX9_numbered_86 (by decide) ?_
        exact zret_z E rfl (Or.inl rfl) dX9_numbered_87 (by rw [eRS, ← q]; unfold dOk; rw [← hv3, if_pos h5]) (by rw [eRS, ← q])
      · refine zr_iconst X (v := 1) dX9_numbered_82 (by decide) ?_
        refine zr_goto X (tgt := 87) dX9_numbered_83 (by decide) ?_
        exact zret_z E rfl (Or.inr rfl) dX9_numbered_87 (by rw [eRS, ← q]; unfold dOk; rw [← hv3, if_neg h6]) (by rw [eRS, ← q])
  · show ∀ a : Int32, dNb tx n p (3 - (m9)) (m9) a = RS → p + (m9) ≤ n → G (w, 0, 0) (mW w cy f (upd v 3 (nI (p + (m9)))) s (upd nu q0 a)) [(0, .ref (w.2 (132))), (1, .int (x)), (2, .int (v 3))] 12 []
    intro a q hb
    rw [show 3 - m9 = (3 - (m9 + 1)) + 1 by omega] at q
    unfold dNb at q
    refine zr_aload_n X 0 dX9_numbered_12 rfl rfl ?_
    refine zr_bipush X (v := 48) dX9_numbered_13 (by decide) ?_
    refine zr_bipush X (v := 57) dX9_numbered_15 (by decide) ?_
    refine zr_cV X (As := [.int (48), .int (57)]) (rest := []) (f' := mW w cy f (upd v 3 (nI (p + (m9)))) s (upd nu q0 a)) (st' := [.int (dAt tx n (p + m9) 48 57)]) zc_X9_isAt (132) (show 132 < w.1 by rw [hw]; omega) mW_132 (q9 := _) rfl rfl (k_isAt (p := p + m9) hw htx ((upd_ne (by decide)).trans hv2) hn upd_eq hb) ⟨Nat.le_of_ble_eq_true rfl, Nat.le_of_ble_eq_true rfl⟩ ⟨Nat.le_refl _, Nat.le_refl _⟩ rfl (Nat.le_of_ble_eq_true rfl) zm_4_196 rfl dX9_numbered_17 rfl ?_
    refine zr_if_eq X (tgt := 74) dX9_numbered_20 (by decide) (fun h7 => ?_) (fun h8 => ?_)
    · refine zr_aload_n X 0 dX9_numbered_74 rfl rfl ?_
      refine zr_get X zfd_RX9_136 (132) (show 132 < w.1 by rw [hw]; omega) mW_132 (v := .int (nI (p + (m9)))) rfl dX9_numbered_75 ?_
      refine zr_iload_n X 2 dX9_numbered_78 rfl rfl ?_
      refine zr_icmp_le X (tgt := 86) dX9_numbered_79 (by decide) (fun h9 => ?_) (fun h10 => ?_)
      · refine zr_iconst X (v := 0) dX9_numbered_86 (by decide) ?_
        exact zret_z E rfl (Or.inl rfl) dX9_numbered_87 (by rw [if_pos h7] at q; rw [eRS, ← q]; unfold dOk; rw [← hv3, if_pos h9]) (by rw [if_pos h7] at q; rw [eRS, ← q])
      · refine zr_iconst X (v := 1) dX9_numbered_82 (by decide) ?_
        refine zr_goto X (tgt := 87) dX9_numbered_83 (by decide) ?_
        exact zret_z E rfl (Or.inr rfl) dX9_numbered_87 (by rw [if_pos h7] at q; rw [eRS, ← q]; unfold dOk; rw [← hv3, if_neg h10]) (by rw [if_pos h7] at q; rw [eRS, ← q])
    · refine zr_aload_n X 0 dX9_numbered_23 rfl rfl ?_
      refine zr_get X zfd_RX9_136 (132) (show 132 < w.1 by rw [hw]; omega) mW_132 (v := .int (nI (p + (m9)))) rfl dX9_numbered_24 ?_
      refine zr_iload_n X 2 dX9_numbered_27 rfl rfl ?_
      refine zr_isub X dX9_numbered_28 ?_
      refine zr_iconst X (v := 3) dX9_numbered_29 (by decide) ?_
      refine zr_icmp_ge X (tgt := 74) dX9_numbered_30 (by decide) (fun h => False.elim (nI_ge (show m9 < 3 by omega) (by decide) (by rw [hv3, nI_sub (by omega) (by omega), show p + m9 - p = m9 by omega] at h; exact h))) (fun _ => ?_)
      have hb7 := dAt_lt h8 (by omega) hn
      refine zr_aload_n X 0 dX9_numbered_33 rfl rfl ?_
      refine zr_get X zfd_RX9_25 (132) (show 132 < w.1 by rw [hw]; omega) mW_132 (v := .ref (w.2 (138))) rfl dX9_numbered_34 ?_
      refine zr_iload_n X 1 dX9_numbered_37 rfl rfl ?_
      refine zr_bipush X (v := 10) dX9_numbered_38 (by decide) ?_
      refine zr_aload_n X 0 dX9_numbered_40 rfl rfl ?_
      refine zr_get X zfd_RX9_25 (132) (show 132 < w.1 by rw [hw]; omega) mW_132 (v := .ref (w.2 (138))) rfl dX9_numbered_41 ?_
      refine zr_iload_n X 1 dX9_numbered_44 rfl rfl ?_
      refine zr_iald X (138) (show 138 < w.1 by rw [hw]; omega) mW_138 (q0) (hx) (hq) (by decide) dX9_numbered_45 ?_
      refine zr_imul X dX9_numbered_46 ?_
      refine zr_aload_n X 0 dX9_numbered_47 rfl rfl ?_
      refine zr_get X zfd_RX9_22 (132) (show 132 < w.1 by rw [hw]; omega) mW_132 (v := .ref (w.2 (137))) rfl dX9_numbered_48 ?_
      refine zr_aload_n X 0 dX9_numbered_51 rfl rfl ?_
      refine zr_get X zfd_RX9_136 (132) (show 132 < w.1 by rw [hw]; omega) mW_132 (v := .int (nI (p + (m9)))) rfl dX9_numbered_52 ?_
      refine zr_iald X (137) (show 137 < w.1 by rw [hw]; omega) ((mW_out (by decide) (by decide) (by decide)).trans htx) (p + m9) (rfl) (by omega) (by decide) dX9_numbered_55 ?_
      refine zr_iadd X dX9_numbered_56 ?_
      refine zr_bipush X (v := 48) dX9_numbered_57 (by decide) ?_
      refine zr_isub X dX9_numbered_59 ?_
      refine zr_iast X (138) (show 138 < w.1 by rw [hw]; omega) mW_138 (q0) (hx) (hq) (by decide) dX9_numbered_60 ?_
      refine zcw (f2 := mW w cy f (upd v 3 (nI (p + (m9)))) s (upd nu q0 ((10 * a + tx (p + m9)) - 48))) (mu_138.trans (by rw [upd_upd, show (upd nu q0 a) q0 = a from upd_eq])) ?_
      refine zr_aload_n X 0 dX9_numbered_61 rfl rfl ?_
      refine zr_dup X dX9_numbered_62 rfl ?_
      refine zr_get X zfd_RX9_136 (132) (show 132 < w.1 by rw [hw]; omega) mW_132 (v := .int (nI (p + (m9)))) rfl dX9_numbered_63 ?_
      refine zr_iconst X (v := 1) dX9_numbered_66 (by decide) ?_
      refine zr_iadd X dX9_numbered_67 ?_
      refine zr_put X zfd_RX9_136 zty_9_8 (132) (show 132 < w.1 by rw [hw]; omega) mW_132 rfl rfl (Nat.le_of_ble_eq_true rfl) eMod_s8 dX9_numbered_68 ?_
      refine zcw (f2 := mW w cy f (upd v 3 (nI (p + (m9 + 1)))) s (upd nu q0 ((10 * a + tx (p + m9)) - 48))) (mu_132.trans (by rw [upd_upd, nI_1]; rfl)) ?_
      refine zr_goto X (tgt := 12) dX9_numbered_71 (by decide) ?_
      exact zcast (f2 := mW w cy f (upd v 3 (nI (p + (m9 + 1)))) s (upd nu q0 ((10 * a + tx (p + m9)) - 48))) (ls2 := [(0, .ref (w.2 (132))), (1, .int (x)), (2, .int (v 3))]) rfl rfl (ih12 _ (by rw [if_neg h8] at q; exact q) (by omega))
