def dMz (s : Nat → Int32) (mc n : Nat) : Nat → Int32 := zfold (fun i p => upd p (19 + 9 * mc + i) 0) s n
def dMn (s : Nat → Int32) (mc : Nat) (a c : Int32) : Nat → Int32 := upd (upd (dMz s mc 9) (19 + 9 * mc + 0) a) (19 + 9 * mc + 1) c
def dMule (s : Nat → Int32) (mc : Nat) (a c : Int32) : Int32 × Bool × (Nat → Int32) := if (zwin a 1 30) = 0 then (-1000001, false, s) else if (zwin c 1 9) = 0 then (-1000001, false, s) else if s 0 = 4 then (-1000003, false, s) else (s 0, true, upd (dMn s mc a c) 0 ((dMn s mc a c) 0 + 1))
set_option maxHeartbeats 4000000 in
set_option maxRecDepth 100000 in
theorem k_mmule {l : Launch} {D : va_G} {cy : Nat → ClassId} {w : zW} {f : zF} {v s nu : Nat → Int32} {P : Nat → Int32} {k : Nat} {mc : Nat} {a : Int32} {c : Int32} (hw : w.1 = 139) (hp : f 134 = eInts cy 544 P) (hr : v 1 = 0 ∨ v 1 = 1) (hk : v 0 = nI k) (hk4 : k ≤ 4) (hm : s 0 = nI mc) (hmc : mc ≤ 4) : zSd l D cy yX9_mule cX9_mule 5 (some .int) 1 23 [.ref (w.2 (132)), .int (a), .int (c)] w (mW w cy f v s nu) (some (.int ((dMule s mc a c).1))) (mQ w cy f v s nu P k (dMule s mc a c)) := by
  refine zSd.intro (by decide) (Nat.le_of_ble_eq_true rfl) (fun G X E => ?_)
  show G (w, 0, 0) (mW w cy f v s nu) [(0, .ref (w.2 (132))), (1, .int (a)), (2, .int (c))] 0 []
  refine zr_iload_n X 1 dX9_mule_0 rfl rfl ?_
  refine zr_iconst X (v := 1) dX9_mule_1 (by decide) ?_
  refine zr_bipush X (v := 30) dX9_mule_2 (by decide) ?_
  refine zr_cS X (As := [.int (a), .int (1), .int (30)]) (rest := []) (f' := mW w cy f v s nu) (st' := [.int (zwin a 1 30)]) zc_X9_in k_in ⟨Nat.le_of_ble_eq_true rfl, Nat.le_of_ble_eq_true rfl⟩ ⟨Nat.le_refl _, Nat.le_refl _⟩ rfl (Nat.le_of_ble_eq_true rfl) zm_3_227 rfl dX9_mule_4 rfl ?_
  refine zr_if_eq X (tgt := 20) dX9_mule_7 (by decide) (fun h1 => ?_) (fun h2 => ?_)
  · refine zr_ldc X zm_3_230 dX9_mule_20 ?_
    exact zret_i E rfl dX9_mule_22 (by unfold dMule; rw [if_pos h1] <;> rfl) (by unfold dMule; rw [if_pos h1] <;> rfl)
  · refine zr_iload_n X 2 dX9_mule_10 rfl rfl ?_
    refine zr_iconst X (v := 1) dX9_mule_11 (by decide) ?_
    refine zr_bipush X (v := 9) dX9_mule_12 (by decide) ?_
    refine zr_cS X (As := [.int (c), .int (1), .int (9)]) (rest := []) (f' := mW w cy f v s nu) (st' := [.int (zwin c 1 9)]) zc_X9_in k_in ⟨Nat.le_of_ble_eq_true rfl, Nat.le_of_ble_eq_true rfl⟩ ⟨Nat.le_refl _, Nat.le_refl _⟩ rfl (Nat.le_of_ble_eq_true rfl) zm_3_227 rfl dX9_mule_14 rfl ?_
    refine zr_if_ne X (tgt := 23) dX9_mule_17 (by decide) (fun h3 => ?_) (fun h4 => ?_)
    · refine zr_aload_n X 0 dX9_mule_23 rfl rfl ?_
      refine zr_get X zfd_RX9_7 (132) (show 132 < w.1 by rw [hw]; omega) mW_132 (v := .ref (w.2 (133))) rfl dX9_mule_24 ?_
      refine zr_iconst X (v := 0) dX9_mule_27 (by decide) ?_
      refine zr_iald X (133) (show 133 < w.1 by rw [hw]; omega) mW_133 (0) (rfl) (by decide) (by decide) dX9_mule_28 ?_
      refine zr_istore_n X (ls' := [(3, .int (s 0)), (0, .ref (w.2 (132))), (1, .int (a)), (2, .int (c))]) dX9_mule_29 rfl (by decide) rfl ?_
      refine zr_iload_n X 0 dX9_mule_30 rfl rfl ?_
      refine zr_iconst X (v := 4) dX9_mule_31 (by decide) ?_
      refine zr_icmp_ne X (tgt := 38) dX9_mule_32 (by decide) (fun h5 => ?_) (fun h6 => ?_)
      · have hm4 : mc < 4 := by rcases Nat.lt_or_ge mc 4 with q | q; · exact q
                                · exact absurd (hm.trans (congrArg nI (show mc = 4 by omega))) h5
        refine zr_aload_n X 1 dX9_mule_38 rfl rfl ?_
        refine zr_cV X (As := []) (rest := []) (f' := mW w cy (va_up f (134) (eInts cy 544 (dPa v P s k))) (dPv v k) s nu) (st' := []) zc_X9_changes (132) (show 132 < w.1 by rw [hw]; omega) mW_132 (q9 := _) rfl rfl (k_changes hw hp hr hk hk4) ⟨Nat.le_of_ble_eq_true rfl, Nat.le_of_ble_eq_true rfl⟩ ⟨Nat.le_refl _, Nat.le_refl _⟩ rfl (Nat.le_of_ble_eq_true rfl) zm_3_232 rfl dX9_mule_39 rfl ?_
        refine zr_iconst X (v := 0) dX9_mule_42 (by decide) ?_
        refine zr_istore X (ls' := [(4, .int (0)), (3, .int (s 0)), (0, .ref (w.2 (132))), (1, .int (a)), (2, .int (c))]) dX9_mule_43 (by decide) rfl ?_
        refine zr_loc X (ls' := [(0, .ref (w.2 (132))), (1, .int (a)), (2, .int (c)), (3, .int (s 0)), (4, .int (0))]) [2, 3, 4, 1, 0] rfl ?_
        refine zcast (f2 := mW w cy (va_up f (134) (eInts cy 544 (dPa v P s k))) (dPv v k) (dMz s mc (0)) nu) (ls2 := [(0, .ref (w.2 (132))), (1, .int (a)), (2, .int (c)), (3, .int (s 0)), (4, .int (nI (0)))]) rfl rfl ?_
        refine zdown (P := fun n => G (w, 0, 0) (mW w cy (va_up f (134) (eInts cy 544 (dPa v P s k))) (dPv v k) (dMz s mc (n)) nu) [(0, .ref (w.2 (132))), (1, .int (a)), (2, .int (c)), (3, .int (s 0)), (4, .int (nI (n)))] 45 []) (B := 9) ?_ (fun n hn45 ih45 => ?_) 0 (Nat.zero_le _) 
        · show G (w, 0, 0) (mW w cy (va_up f (134) (eInts cy 544 (dPa v P s k))) (dPv v k) (dMz s mc (9)) nu) [(0, .ref (w.2 (132))), (1, .int (a)), (2, .int (c)), (3, .int (s 0)), (4, .int (nI (9)))] 45 []
          refine zr_iload X 4 dX9_mule_45 rfl ?_
          refine zr_bipush X (v := 9) dX9_mule_47 (by decide) ?_
          refine zr_icmp_ge X (tgt := 66) dX9_mule_49 (by decide) (fun _ => ?_) (fun h => False.elim (h (by decide)))
          refine zr_aload_n X 0 dX9_mule_66 rfl rfl ?_
          refine zr_iload_n X 3 dX9_mule_67 rfl rfl ?_
          refine zr_iconst X (v := 0) dX9_mule_68 (by decide) ?_
          refine zr_iload_n X 1 dX9_mule_69 rfl rfl ?_
          refine zr_cV X (As := [.int (s 0), .int (0), .int (a)]) (rest := []) (f' := mW w cy (va_up f (134) (eInts cy 544 (dPa v P s k))) (dPv v k) (upd (dMz s mc (9)) (19 + 9 * mc + 0) a) nu) (st' := []) zc_X9_sets (132) (show 132 < w.1 by rw [hw]; omega) mW_132 (q9 := _) rfl rfl (k_sets (k := mc) (i := 0) hw hm rfl (by omega) (by decide)) ⟨Nat.le_of_ble_eq_true rfl, Nat.le_of_ble_eq_true rfl⟩ ⟨Nat.le_refl _, Nat.le_refl _⟩ rfl (Nat.le_of_ble_eq_true rfl) zm_3_236 rfl dX9_mule_70 rfl ?_
          refine zr_aload_n X 0 dX9_mule_73 rfl rfl ?_
          refine zr_iload_n X 3 dX9_mule_74 rfl rfl ?_
          refine zr_iconst X (v := 1) dX9_mule_75 (by decide) ?_
          refine zr_iload_n X 2 dX9_mule_76 rfl rfl ?_
          refine zr_cV X (As := [.int (s 0), .int (1), .int (c)]) (rest := []) (f' := mW w cy (va_up f (134) (eInts cy 544 (dPa v P s k))) (dPv v k) (upd (upd (dMz s mc (9)) (19 + 9 * mc + 0) a) (19 + 9 * mc + 1) c) nu) (st' := []) zc_X9_sets (132) (show 132 < w.1 by rw [hw]; omega) mW_132 (q9 := _) rfl rfl (k_sets (k := mc) (i := 1) hw hm rfl (by omega) (by decide)) ⟨Nat.le_of_ble_eq_true rfl, Nat.le_of_ble_eq_true rfl⟩ ⟨Nat.le_refl _, Nat.le_refl _⟩ rfl (Nat.le_of_ble_eq_true rfl) zm_3_236 rfl dX9_mule_77 rfl ?_
          refine zr_aload_n X 0 dX9_mule_80 rfl rfl ?_
          refine zr_get X zfd_RX9_7 (132) (show 132 < w.1 by rw [hw]; omega) mW_132 (v := .ref (w.2 (133))) rfl dX9_mule_81 ?_
          refine zr_iconst X (v := 0) dX9_mule_84 (by decide) ?_
          refine zr_dup2 X dX9_mule_85 rfl rfl ?_
          refine zr_iald X (133) (show 133 < w.1 by rw [hw]; omega) mW_133 (0) (rfl) (by decide) (by decide) dX9_mule_86 ?_
          refine zr_iconst X (v := 1) dX9_mule_87 (by decide) ?_
          refine zr_iadd X dX9_mule_88 ?_
          refine zr_iast X (133) (show 133 < w.1 by rw [hw]; omega) mW_133 (0) (rfl) (by decide) (by decide) dX9_mule_89 ?_
          refine zcw (f2 := mW w cy (va_up f (134) (eInts cy 544 (dPa v P s k))) (dPv v k) (upd (upd (upd (dMz s mc (9)) (19 + 9 * mc + 0) a) (19 + 9 * mc + 1) c) 0 (((upd (upd (dMz s mc (9)) (19 + 9 * mc + 0) a) (19 + 9 * mc + 1) c) 0) + 1)) nu) mu_133 ?_
          refine zr_iload_n X 3 dX9_mule_90 rfl rfl ?_
          exact zret_i E rfl dX9_mule_91 (by unfold dMule; rw [if_neg h2, if_neg h3, if_neg h5] <;> rfl) (by unfold dMule; rw [if_neg h2, if_neg h3, if_neg h5] <;> rfl)
        · show G (w, 0, 0) (mW w cy (va_up f (134) (eInts cy 544 (dPa v P s k))) (dPv v k) (dMz s mc (n)) nu) [(0, .ref (w.2 (132))), (1, .int (a)), (2, .int (c)), (3, .int (s 0)), (4, .int (nI (n)))] 45 []
          refine zr_iload X 4 dX9_mule_45 rfl ?_
          refine zr_bipush X (v := 9) dX9_mule_47 (by decide) ?_
          refine zr_icmp_ge X (tgt := 66) dX9_mule_49 (by decide) (fun h => False.elim (nI_ge hn45 (by decide) h)) (fun _ => ?_)
          refine zr_aload_n X 0 dX9_mule_52 rfl rfl ?_
          refine zr_iload_n X 3 dX9_mule_53 rfl rfl ?_
          refine zr_iload X 4 dX9_mule_54 rfl ?_
          refine zr_iconst X (v := 0) dX9_mule_56 (by decide) ?_
          refine zr_cV X (As := [.int (s 0), .int (nI (n)), .int (0)]) (rest := []) (f' := mW w cy (va_up f (134) (eInts cy 544 (dPa v P s k))) (dPv v k) (dMz s mc (n + 1)) nu) (st' := []) zc_X9_sets (132) (show 132 < w.1 by rw [hw]; omega) mW_132 (q9 := _) rfl rfl (k_sets (k := mc) (i := n) hw hm rfl (by omega) (by omega)) ⟨Nat.le_of_ble_eq_true rfl, Nat.le_of_ble_eq_true rfl⟩ ⟨Nat.le_refl _, Nat.le_refl _⟩ rfl (Nat.le_of_ble_eq_true rfl) zm_3_236 rfl dX9_mule_57 rfl ?_
          refine zr_iinc X (v := nI (n + 1)) (ls' := [(4, .int (nI (n + 1))), (0, .ref (w.2 (132))), (1, .int (a)), (2, .int (c)), (3, .int (s 0))]) 4 dX9_mule_60 rfl (zinc1 _) (by decide) rfl ?_
          refine zr_goto X (tgt := 45) dX9_mule_63 (by decide) ?_
          refine zr_loc X (ls' := [(0, .ref (w.2 (132))), (1, .int (a)), (2, .int (c)), (3, .int (s 0)), (4, .int (nI (n + 1)))]) [1, 2, 3, 4, 0] rfl ?_
          exact zcast (f2 := mW w cy (va_up f (134) (eInts cy 544 (dPa v P s k))) (dPv v k) (dMz s mc (n + 1)) nu) (ls2 := [(0, .ref (w.2 (132))), (1, .int (a)), (2, .int (c)), (3, .int (s 0)), (4, .int (nI (n + 1)))]) rfl rfl ih45
      · refine zr_ldc X zm_3_231 dX9_mule_35 ?_
        exact zret_i E rfl dX9_mule_37 (by unfold dMule; rw [if_neg h2, if_neg h3, if_pos h6] <;> rfl) (by unfold dMule; rw [if_neg h2, if_neg h3, if_pos h6] <;> rfl)
    · refine zr_ldc X zm_3_230 dX9_mule_20 ?_
      exact zret_i E rfl dX9_mule_22 (by unfold dMule; rw [if_neg h2, if_pos h4] <;> rfl) (by unfold dMule; rw [if_neg h2, if_pos h4] <;> rfl)
def dWhy (s : Nat → Int32) (k : Nat) (n : Int32) : Int32 := if s (19 + 9 * k + 2) = 0 then (if n ≤ s (19 + 9 * k + 0) then (if (s 6 + n * s 15) ≤ s 16 then 0 else 3) else 2) else 1
theorem dIs_x {s : Nat → Int32} {x : Int32} {mc : Nat} (h : ¬ dIs s x = 0) (hm : s 0 = nI mc) (hmc : mc ≤ 4) : x = nI x.toNatClampNeg ∧ x.toNatClampNeg < mc := by
  unfold dIs at h
  have h1 : ¬ x < 0 := fun q => h (if_pos q)
  rw [if_neg h1] at h
  have h2 : ¬ s 0 ≤ x := fun q => h (if_pos q)
  exact ⟨zix1 h1, zix2 h1 (by omega) (by rw [← hm]; exact h2)⟩
set_option maxHeartbeats 4000000 in
set_option maxRecDepth 100000 in
theorem k_whyN {l : Launch} {D : va_G} {cy : Nat → ClassId} {w : zW} {f : zF} {v s nu : Nat → Int32} {x n : Int32} {k : Nat} (hw : w.1 = 139) (hx : x = nI k) (hk : k < 4) : zSd l D cy yX9_whyNot cX9_whyNot 3 (some .int) 1 22 [.ref (w.2 (132)), .int (x), .int (n)] w (mW w cy f v s nu) (some (.int (dWhy s k n))) (mW w cy f v s nu) := by
  refine zSd.intro (by decide) (Nat.le_of_ble_eq_true rfl) (fun G X E => ?_)
  show G (w, 0, 0) (mW w cy f v s nu) [(0, .ref (w.2 (132))), (1, .int (x)), (2, .int (n))] 0 []
  refine zr_aload_n X 0 dX9_whyNot_0 rfl rfl ?_
  refine zr_iload_n X 1 dX9_whyNot_1 rfl rfl ?_
  refine zr_iconst X (v := 2) dX9_whyNot_2 (by decide) ?_
  refine zr_cV X (As := [.int (x), .int (2)]) (rest := []) (f' := mW w cy f v s nu) (st' := [.int (s (19 + 9 * k + 2))]) zc_X9_of (132) (show 132 < w.1 by rw [hw]; omega) mW_132 (q9 := _) rfl rfl (k_of (k := k) (i := 2) hw hx rfl (by omega) (by omega)) ⟨Nat.le_of_ble_eq_true rfl, Nat.le_of_ble_eq_true rfl⟩ ⟨Nat.le_refl _, Nat.le_refl _⟩ rfl (Nat.le_of_ble_eq_true rfl) zm_4_12 rfl dX9_whyNot_3 rfl ?_
  refine zr_if_eq X (tgt := 11) dX9_whyNot_6 (by decide) (fun h1 => ?_) (fun h2 => ?_)
  · refine zr_iload_n X 2 dX9_whyNot_11 rfl rfl ?_
    refine zr_aload_n X 0 dX9_whyNot_12 rfl rfl ?_
    refine zr_iload_n X 1 dX9_whyNot_13 rfl rfl ?_
    refine zr_iconst X (v := 0) dX9_whyNot_14 (by decide) ?_
    refine zr_cV X (As := [.int (x), .int (0)]) (rest := [.int (n)]) (f' := mW w cy f v s nu) (st' := [.int (s (19 + 9 * k + 0)), .int (n)]) zc_X9_of (132) (show 132 < w.1 by rw [hw]; omega) mW_132 (q9 := _) rfl rfl (k_of (k := k) (i := 0) hw hx rfl (by omega) (by omega)) ⟨Nat.le_of_ble_eq_true rfl, Nat.le_of_ble_eq_true rfl⟩ ⟨Nat.le_refl _, Nat.le_refl _⟩ rfl (Nat.le_of_ble_eq_true rfl) zm_4_12 rfl dX9_whyNot_15 rfl ?_
    refine zr_icmp_le X (tgt := 25) dX9_whyNot_18 (by decide) (fun h3 => ?_) (fun h4 => ?_)
    · refine zr_aload_n X 0 dX9_whyNot_25 rfl rfl ?_
      refine zr_get X zfd_RX9_7 (132) (show 132 < w.1 by rw [hw]; omega) mW_132 (v := .ref (w.2 (133))) rfl dX9_whyNot_26 ?_
      refine zr_bipush X (v := 6) dX9_whyNot_29 (by decide) ?_
      refine zr_iald X (133) (show 133 < w.1 by rw [hw]; omega) mW_133 (6) (rfl) (by decide) (by decide) dX9_whyNot_31 ?_
      refine zr_iload_n X 2 dX9_whyNot_32 rfl rfl ?_
      refine zr_aload_n X 0 dX9_whyNot_33 rfl rfl ?_
      refine zr_get X zfd_RX9_7 (132) (show 132 < w.1 by rw [hw]; omega) mW_132 (v := .ref (w.2 (133))) rfl dX9_whyNot_34 ?_
      refine zr_bipush X (v := 15) dX9_whyNot_37 (by decide) ?_
      refine zr_iald X (133) (show 133 < w.1 by rw [hw]; omega) mW_133 (15) (rfl) (by decide) (by decide) dX9_whyNot_39 ?_
      refine zr_imul X dX9_whyNot_40 ?_
      refine zr_iadd X dX9_whyNot_41 ?_
      refine zr_aload_n X 0 dX9_whyNot_42 rfl rfl ?_
      refine zr_get X zfd_RX9_7 (132) (show 132 < w.1 by rw [hw]; omega) mW_132 (v := .ref (w.2 (133))) rfl dX9_whyNot_43 ?_
      refine zr_bipush X (v := 16) dX9_whyNot_46 (by decide) ?_
      refine zr_iald X (133) (show 133 < w.1 by rw [hw]; omega) mW_133 (16) (rfl) (by decide) (by decide) dX9_whyNot_48 ?_
      refine zr_icmp_le X (tgt := 56) dX9_whyNot_49 (by decide) (fun h5 => ?_) (fun h6 => ?_)
      · refine zr_iconst X (v := 0) dX9_whyNot_56 (by decide) ?_
        exact zret_i E rfl dX9_whyNot_57 (by simp only [dWhy, if_pos h1, if_pos h3, if_pos h5]) rfl
      · refine zr_iconst X (v := 3) dX9_whyNot_52 (by decide) ?_
        refine zr_goto X (tgt := 57) dX9_whyNot_53 (by decide) ?_
        exact zret_i E rfl dX9_whyNot_57 (by simp only [dWhy, if_pos h1, if_pos h3, if_neg h6]) rfl
    · refine zr_iconst X (v := 2) dX9_whyNot_21 (by decide) ?_
      refine zr_goto X (tgt := 57) dX9_whyNot_22 (by decide) ?_
      exact zret_i E rfl dX9_whyNot_57 (by simp only [dWhy, if_pos h1, if_neg h4]) rfl
  · refine zr_iconst X (v := 1) dX9_whyNot_9 (by decide) ?_
    exact zret_i E rfl dX9_whyNot_10 (by simp only [dWhy, if_neg h2]) rfl
def dSe (s : Nat → Int32) (k : Nat) (n : Int32) : Nat → Int32 :=
  let a1 := upd s (19 + 9 * k + 2) 1
  let a2 := upd a1 (19 + 9 * k + 3) 2
  let a3 := upd a2 (19 + 9 * k + 4) n
  let a4 := upd a3 (19 + 9 * k + 5) (a3 3)
  let a5 := upd a4 (19 + 9 * k + 6) (a4 (19 + 9 * k + 6) + 1)
  let a6 := upd a5 7 (a5 7 + n)
  upd a6 6 (a6 6 + n * a6 15)
def dSend (s : Nat → Int32) (x n : Int32) : Int32 × Bool × (Nat → Int32) := if (dIs s x) = 0 then (-1000001, false, s) else if (zwin n 1 30) = 0 then (-1000001, false, s) else if (dWhy s x.toNatClampNeg n) ≤ 0 then ((dSe s x.toNatClampNeg n) 6, true, dSe s x.toNatClampNeg n) else (-1000002, false, s)
set_option maxHeartbeats 4000000 in
set_option maxRecDepth 100000 in
theorem k_msend {l : Launch} {D : va_G} {cy : Nat → ClassId} {w : zW} {f : zF} {v s nu : Nat → Int32} {P : Nat → Int32} {k : Nat} {mc : Nat} {x : Int32} {n : Int32} (hw : w.1 = 139) (hp : f 134 = eInts cy 544 P) (hr : v 1 = 0 ∨ v 1 = 1) (hk : v 0 = nI k) (hk4 : k ≤ 4) (hm : s 0 = nI mc) (hmc : mc ≤ 4) : zSd l D cy yX9_send cX9_send 3 (some .int) 2 44 [.ref (w.2 (132)), .int (x), .int (n)] w (mW w cy f v s nu) (some (.int ((dSend s x n).1))) (mQ w cy f v s nu P k (dSend s x n)) := by
  refine zSd.intro (by decide) (Nat.le_of_ble_eq_true rfl) (fun G X E => ?_)
  show G (w, 0, 0) (mW w cy f v s nu) [(0, .ref (w.2 (132))), (1, .int (x)), (2, .int (n))] 0 []
  refine zr_aload_n X 0 dX9_send_0 rfl rfl ?_
  refine zr_iload_n X 1 dX9_send_1 rfl rfl ?_
  refine zr_cV X (As := [.int (x)]) (rest := []) (f' := mW w cy f v s nu) (st' := [.int (dIs s x)]) zc_X9_isMule (132) (show 132 < w.1 by rw [hw]; omega) mW_132 (q9 := _) rfl rfl (k_isMule hw) ⟨Nat.le_of_ble_eq_true rfl, Nat.le_of_ble_eq_true rfl⟩ ⟨Nat.le_refl _, Nat.le_refl _⟩ rfl (Nat.le_of_ble_eq_true rfl) zm_4_4 rfl dX9_send_2 rfl ?_
  refine zr_if_eq X (tgt := 18) dX9_send_5 (by decide) (fun h1 => ?_) (fun h2 => ?_)
  · refine zr_ldc X zm_3_230 dX9_send_18 ?_
    exact zret_i E rfl dX9_send_20 (by unfold dSend; rw [if_pos h1] <;> rfl) (by unfold dSend; rw [if_pos h1] <;> rfl)
  · refine zr_iload_n X 2 dX9_send_8 rfl rfl ?_
    refine zr_iconst X (v := 1) dX9_send_9 (by decide) ?_
    refine zr_bipush X (v := 30) dX9_send_10 (by decide) ?_
    refine zr_cS X (As := [.int (n), .int (1), .int (30)]) (rest := []) (f' := mW w cy f v s nu) (st' := [.int (zwin n 1 30)]) zc_X9_in k_in ⟨Nat.le_of_ble_eq_true rfl, Nat.le_of_ble_eq_true rfl⟩ ⟨Nat.le_refl _, Nat.le_refl _⟩ rfl (Nat.le_of_ble_eq_true rfl) zm_3_227 rfl dX9_send_12 rfl ?_
    refine zr_if_ne X (tgt := 21) dX9_send_15 (by decide) (fun h3 => ?_) (fun h4 => ?_)
    · obtain ⟨hx9, hx8⟩ := dIs_x h2 hm hmc
      have hx7 : x.toNatClampNeg < 4 := by omega
      refine zr_aload_n X 0 dX9_send_21 rfl rfl ?_
      refine zr_iload_n X 1 dX9_send_22 rfl rfl ?_
      refine zr_iload_n X 2 dX9_send_23 rfl rfl ?_
      refine zr_cV X (As := [.int (x), .int (n)]) (rest := []) (f' := mW w cy f v s nu) (st' := [.int (dWhy s x.toNatClampNeg n)]) zc_X9_whyNot (132) (show 132 < w.1 by rw [hw]; omega) mW_132 (q9 := _) rfl rfl (k_whyN (k := x.toNatClampNeg) hw hx9 hx7) ⟨Nat.le_of_ble_eq_true rfl, Nat.le_of_ble_eq_true rfl⟩ ⟨Nat.le_refl _, Nat.le_refl _⟩ rfl (Nat.le_of_ble_eq_true rfl) zm_4_8 rfl dX9_send_24 rfl ?_
      refine zr_if_le X (tgt := 33) dX9_send_27 (by decide) (fun h5 => ?_) (fun h6 => ?_)
      · refine zr_aload_n X 0 dX9_send_33 rfl rfl ?_
        refine zr_cV X (As := []) (rest := []) (f' := mW w cy (va_up f (134) (eInts cy 544 (dPa v P s k))) (dPv v k) s nu) (st' := []) zc_X9_changes (132) (show 132 < w.1 by rw [hw]; omega) mW_132 (q9 := _) rfl rfl (k_changes hw hp hr hk hk4) ⟨Nat.le_of_ble_eq_true rfl, Nat.le_of_ble_eq_true rfl⟩ ⟨Nat.le_refl _, Nat.le_refl _⟩ rfl (Nat.le_of_ble_eq_true rfl) zm_3_232 rfl dX9_send_34 rfl ?_
        refine zr_aload_n X 0 dX9_send_37 rfl rfl ?_
        refine zr_iload_n X 1 dX9_send_38 rfl rfl ?_
        refine zr_iconst X (v := 2) dX9_send_39 (by decide) ?_
        refine zr_iconst X (v := 1) dX9_send_40 (by decide) ?_
        refine zr_cV X (As := [.int (x), .int (2), .int (1)]) (rest := []) (f' := mW w cy (va_up f (134) (eInts cy 544 (dPa v P s k))) (dPv v k) (upd s (19 + 9 * x.toNatClampNeg + 2) 1) nu) (st' := []) zc_X9_sets (132) (show 132 < w.1 by rw [hw]; omega) mW_132 (q9 := _) rfl rfl (k_sets (k := x.toNatClampNeg) (i := 2) hw hx9 rfl (by omega) (by decide)) ⟨Nat.le_of_ble_eq_true rfl, Nat.le_of_ble_eq_true rfl⟩ ⟨Nat.le_refl _, Nat.le_refl _⟩ rfl (Nat.le_of_ble_eq_true rfl) zm_3_236 rfl dX9_send_41 rfl ?_
        refine zr_aload_n X 0 dX9_send_44 rfl rfl ?_
        refine zr_iload_n X 1 dX9_send_45 rfl rfl ?_
        refine zr_iconst X (v := 3) dX9_send_46 (by decide) ?_
        refine zr_iconst X (v := 2) dX9_send_47 (by decide) ?_
        refine zr_cV X (As := [.int (x), .int (3), .int (2)]) (rest := []) (f' := mW w cy (va_up f (134) (eInts cy 544 (dPa v P s k))) (dPv v k) (upd (upd s (19 + 9 * x.toNatClampNeg + 2) 1) (19 + 9 * x.toNatClampNeg + 3) 2) nu) (st' := []) zc_X9_sets (132) (show 132 < w.1 by rw [hw]; omega) mW_132 (q9 := _) rfl rfl (k_sets (k := x.toNatClampNeg) (i := 3) hw hx9 rfl (by omega) (by decide)) ⟨Nat.le_of_ble_eq_true rfl, Nat.le_of_ble_eq_true rfl⟩ ⟨Nat.le_refl _, Nat.le_refl _⟩ rfl (Nat.le_of_ble_eq_true rfl) zm_3_236 rfl dX9_send_48 rfl ?_
        refine zr_aload_n X 0 dX9_send_51 rfl rfl ?_
        refine zr_iload_n X 1 dX9_send_52 rfl rfl ?_
        refine zr_iconst X (v := 4) dX9_send_53 (by decide) ?_
        refine zr_iload_n X 2 dX9_send_54 rfl rfl ?_
        refine zr_cV X (As := [.int (x), .int (4), .int (n)]) (rest := []) (f' := mW w cy (va_up f (134) (eInts cy 544 (dPa v P s k))) (dPv v k) (upd (upd (upd s (19 + 9 * x.toNatClampNeg + 2) 1) (19 + 9 * x.toNatClampNeg + 3) 2) (19 + 9 * x.toNatClampNeg + 4) n) nu) (st' := []) zc_X9_sets (132) (show 132 < w.1 by rw [hw]; omega) mW_132 (q9 := _) rfl rfl (k_sets (k := x.toNatClampNeg) (i := 4) hw hx9 rfl (by omega) (by decide)) ⟨Nat.le_of_ble_eq_true rfl, Nat.le_of_ble_eq_true rfl⟩ ⟨Nat.le_refl _, Nat.le_refl _⟩ rfl (Nat.le_of_ble_eq_true rfl) zm_3_236 rfl dX9_send_55 rfl ?_
        refine zr_aload_n X 0 dX9_send_58 rfl rfl ?_
        refine zr_iload_n X 1 dX9_send_59 rfl rfl ?_
        refine zr_iconst X (v := 5) dX9_send_60 (by decide) ?_
        refine zr_aload_n X 0 dX9_send_61 rfl rfl ?_
        refine zr_get X zfd_RX9_7 (132) (show 132 < w.1 by rw [hw]; omega) mW_132 (v := .ref (w.2 (133))) rfl dX9_send_62 ?_
        refine zr_iconst X (v := 3) dX9_send_65 (by decide) ?_
        refine zr_iald X (133) (show 133 < w.1 by rw [hw]; omega) mW_133 (3) (rfl) (by decide) (by decide) dX9_send_66 ?_
        refine zr_cV X (As := [.int (x), .int (5), .int ((upd (upd (upd s (19 + 9 * x.toNatClampNeg + 2) 1) (19 + 9 * x.toNatClampNeg + 3) 2) (19 + 9 * x.toNatClampNeg + 4) n) 3)]) (rest := []) (f' := mW w cy (va_up f (134) (eInts cy 544 (dPa v P s k))) (dPv v k) (upd (upd (upd (upd s (19 + 9 * x.toNatClampNeg + 2) 1) (19 + 9 * x.toNatClampNeg + 3) 2) (19 + 9 * x.toNatClampNeg + 4) n) (19 + 9 * x.toNatClampNeg + 5) ((upd (upd (upd s (19 + 9 * x.toNatClampNeg + 2) 1) (19 + 9 * x.toNatClampNeg + 3) 2) (19 + 9 * x.toNatClampNeg + 4) n) 3)) nu) (st' := []) zc_X9_sets (132) (show 132 < w.1 by rw [hw]; omega) mW_132 (q9 := _) rfl rfl (k_sets (k := x.toNatClampNeg) (i := 5) hw hx9 rfl (by omega) (by decide)) ⟨Nat.le_of_ble_eq_true rfl, Nat.le_of_ble_eq_true rfl⟩ ⟨Nat.le_refl _, Nat.le_refl _⟩ rfl (Nat.le_of_ble_eq_true rfl) zm_3_236 rfl dX9_send_67 rfl ?_
        refine zr_aload_n X 0 dX9_send_70 rfl rfl ?_
        refine zr_iload_n X 1 dX9_send_71 rfl rfl ?_
        refine zr_bipush X (v := 6) dX9_send_72 (by decide) ?_
        refine zr_aload_n X 0 dX9_send_74 rfl rfl ?_
        refine zr_iload_n X 1 dX9_send_75 rfl rfl ?_
        refine zr_bipush X (v := 6) dX9_send_76 (by decide) ?_
        refine zr_cV X (As := [.int (x), .int (6)]) (rest := [.int (6), .int (x), .ref (w.2 (132))]) (f' := mW w cy (va_up f (134) (eInts cy 544 (dPa v P s k))) (dPv v k) (upd (upd (upd (upd s (19 + 9 * x.toNatClampNeg + 2) 1) (19 + 9 * x.toNatClampNeg + 3) 2) (19 + 9 * x.toNatClampNeg + 4) n) (19 + 9 * x.toNatClampNeg + 5) ((upd (upd (upd s (19 + 9 * x.toNatClampNeg + 2) 1) (19 + 9 * x.toNatClampNeg + 3) 2) (19 + 9 * x.toNatClampNeg + 4) n) 3)) nu) (st' := [.int ((upd (upd (upd (upd s (19 + 9 * x.toNatClampNeg + 2) 1) (19 + 9 * x.toNatClampNeg + 3) 2) (19 + 9 * x.toNatClampNeg + 4) n) (19 + 9 * x.toNatClampNeg + 5) ((upd (upd (upd s (19 + 9 * x.toNatClampNeg + 2) 1) (19 + 9 * x.toNatClampNeg + 3) 2) (19 + 9 * x.toNatClampNeg + 4) n) 3)) (19 + 9 * x.toNatClampNeg + 6)), .int (6), .int (x), .ref (w.2 (132))]) zc_X9_of (132) (show 132 < w.1 by rw [hw]; omega) mW_132 (q9 := _) rfl rfl (k_of (k := x.toNatClampNeg) (i := 6) hw hx9 rfl (by omega) (by omega)) ⟨Nat.le_of_ble_eq_true rfl, Nat.le_of_ble_eq_true rfl⟩ ⟨Nat.le_refl _, Nat.le_refl _⟩ rfl (Nat.le_of_ble_eq_true rfl) zm_4_12 rfl dX9_send_78 rfl ?_
        refine zr_iconst X (v := 1) dX9_send_81 (by decide) ?_
        refine zr_iadd X dX9_send_82 ?_
        refine zr_cV X (As := [.int (x), .int (6), .int (((upd (upd (upd (upd s (19 + 9 * x.toNatClampNeg + 2) 1) (19 + 9 * x.toNatClampNeg + 3) 2) (19 + 9 * x.toNatClampNeg + 4) n) (19 + 9 * x.toNatClampNeg + 5) ((upd (upd (upd s (19 + 9 * x.toNatClampNeg + 2) 1) (19 + 9 * x.toNatClampNeg + 3) 2) (19 + 9 * x.toNatClampNeg + 4) n) 3)) (19 + 9 * x.toNatClampNeg + 6)) + 1)]) (rest := []) (f' := mW w cy (va_up f (134) (eInts cy 544 (dPa v P s k))) (dPv v k) (upd (upd (upd (upd (upd s (19 + 9 * x.toNatClampNeg + 2) 1) (19 + 9 * x.toNatClampNeg + 3) 2) (19 + 9 * x.toNatClampNeg + 4) n) (19 + 9 * x.toNatClampNeg + 5) ((upd (upd (upd s (19 + 9 * x.toNatClampNeg + 2) 1) (19 + 9 * x.toNatClampNeg + 3) 2) (19 + 9 * x.toNatClampNeg + 4) n) 3)) (19 + 9 * x.toNatClampNeg + 6) (((upd (upd (upd (upd s (19 + 9 * x.toNatClampNeg + 2) 1) (19 + 9 * x.toNatClampNeg + 3) 2) (19 + 9 * x.toNatClampNeg + 4) n) (19 + 9 * x.toNatClampNeg + 5) ((upd (upd (upd s (19 + 9 * x.toNatClampNeg + 2) 1) (19 + 9 * x.toNatClampNeg + 3) 2) (19 + 9 * x.toNatClampNeg + 4) n) 3)) (19 + 9 * x.toNatClampNeg + 6)) + 1)) nu) (st' := []) zc_X9_sets (132) (show 132 < w.1 by rw [hw]; omega) mW_132 (q9 := _) rfl rfl (k_sets (k := x.toNatClampNeg) (i := 6) hw hx9 rfl (by omega) (by decide)) ⟨Nat.le_of_ble_eq_true rfl, Nat.le_of_ble_eq_true rfl⟩ ⟨Nat.le_refl _, Nat.le_refl _⟩ rfl (Nat.le_of_ble_eq_true rfl) zm_3_236 rfl dX9_send_83 rfl ?_
        refine zr_aload_n X 0 dX9_send_86 rfl rfl ?_
        refine zr_get X zfd_RX9_7 (132) (show 132 < w.1 by rw [hw]; omega) mW_132 (v := .ref (w.2 (133))) rfl dX9_send_87 ?_
        refine zr_bipush X (v := 7) dX9_send_90 (by decide) ?_
        refine zr_dup2 X dX9_send_92 rfl rfl ?_
        refine zr_iald X (133) (show 133 < w.1 by rw [hw]; omega) mW_133 (7) (rfl) (by decide) (by decide) dX9_send_93 ?_
        refine zr_iload_n X 2 dX9_send_94 rfl rfl ?_
        refine zr_iadd X dX9_send_95 ?_
        refine zr_iast X (133) (show 133 < w.1 by rw [hw]; omega) mW_133 (7) (rfl) (by decide) (by decide) dX9_send_96 ?_
        refine zcw (f2 := mW w cy (va_up f (134) (eInts cy 544 (dPa v P s k))) (dPv v k) (upd (upd (upd (upd (upd (upd s (19 + 9 * x.toNatClampNeg + 2) 1) (19 + 9 * x.toNatClampNeg + 3) 2) (19 + 9 * x.toNatClampNeg + 4) n) (19 + 9 * x.toNatClampNeg + 5) ((upd (upd (upd s (19 + 9 * x.toNatClampNeg + 2) 1) (19 + 9 * x.toNatClampNeg + 3) 2) (19 + 9 * x.toNatClampNeg + 4) n) 3)) (19 + 9 * x.toNatClampNeg + 6) (((upd (upd (upd (upd s (19 + 9 * x.toNatClampNeg + 2) 1) (19 + 9 * x.toNatClampNeg + 3) 2) (19 + 9 * x.toNatClampNeg + 4) n) (19 + 9 * x.toNatClampNeg + 5) ((upd (upd (upd s (19 + 9 * x.toNatClampNeg + 2) 1) (19 + 9 * x.toNatClampNeg + 3) 2) (19 + 9 * x.toNatClampNeg + 4) n) 3)) (19 + 9 * x.toNatClampNeg + 6)) + 1)) 7 (((upd (upd (upd (upd (upd s (19 + 9 * x.toNatClampNeg + 2) 1) (19 + 9 * x.toNatClampNeg + 3) 2) (19 + 9 * x.toNatClampNeg + 4) n) (19 + 9 * x.toNatClampNeg + 5) ((upd (upd (upd s (19 + 9 * x.toNatClampNeg + 2) 1) (19 + 9 * x.toNatClampNeg + 3) 2) (19 + 9 * x.toNatClampNeg + 4) n) 3)) (19 + 9 * x.toNatClampNeg + 6) (((upd (upd (upd (upd s (19 + 9 * x.toNatClampNeg + 2) 1) (19 + 9 * x.toNatClampNeg + 3) 2) (19 + 9 * x.toNatClampNeg + 4) n) (19 + 9 * x.toNatClampNeg + 5) ((upd (upd (upd s (19 + 9 * x.toNatClampNeg + 2) 1) (19 + 9 * x.toNatClampNeg + 3) 2) (19 + 9 * x.toNatClampNeg + 4) n) 3)) (19 + 9 * x.toNatClampNeg + 6)) + 1)) 7) + n)) nu) mu_133 ?_
        refine zr_aload_n X 0 dX9_send_97 rfl rfl ?_
        refine zr_get X zfd_RX9_7 (132) (show 132 < w.1 by rw [hw]; omega) mW_132 (v := .ref (w.2 (133))) rfl dX9_send_98 ?_
        refine zr_bipush X (v := 6) dX9_send_101 (by decide) ?_
        refine zr_dup2 X dX9_send_103 rfl rfl ?_
        refine zr_iald X (133) (show 133 < w.1 by rw [hw]; omega) mW_133 (6) (rfl) (by decide) (by decide) dX9_send_104 ?_
        refine zr_iload_n X 2 dX9_send_105 rfl rfl ?_
        refine zr_aload_n X 0 dX9_send_106 rfl rfl ?_
        refine zr_get X zfd_RX9_7 (132) (show 132 < w.1 by rw [hw]; omega) mW_132 (v := .ref (w.2 (133))) rfl dX9_send_107 ?_
        refine zr_bipush X (v := 15) dX9_send_110 (by decide) ?_
        refine zr_iald X (133) (show 133 < w.1 by rw [hw]; omega) mW_133 (15) (rfl) (by decide) (by decide) dX9_send_112 ?_
        refine zr_imul X dX9_send_113 ?_
        refine zr_iadd X dX9_send_114 ?_
        refine zr_iast X (133) (show 133 < w.1 by rw [hw]; omega) mW_133 (6) (rfl) (by decide) (by decide) dX9_send_115 ?_
        refine zcw (f2 := mW w cy (va_up f (134) (eInts cy 544 (dPa v P s k))) (dPv v k) (upd (upd (upd (upd (upd (upd (upd s (19 + 9 * x.toNatClampNeg + 2) 1) (19 + 9 * x.toNatClampNeg + 3) 2) (19 + 9 * x.toNatClampNeg + 4) n) (19 + 9 * x.toNatClampNeg + 5) ((upd (upd (upd s (19 + 9 * x.toNatClampNeg + 2) 1) (19 + 9 * x.toNatClampNeg + 3) 2) (19 + 9 * x.toNatClampNeg + 4) n) 3)) (19 + 9 * x.toNatClampNeg + 6) (((upd (upd (upd (upd s (19 + 9 * x.toNatClampNeg + 2) 1) (19 + 9 * x.toNatClampNeg + 3) 2) (19 + 9 * x.toNatClampNeg + 4) n) (19 + 9 * x.toNatClampNeg + 5) ((upd (upd (upd s (19 + 9 * x.toNatClampNeg + 2) 1) (19 + 9 * x.toNatClampNeg + 3) 2) (19 + 9 * x.toNatClampNeg + 4) n) 3)) (19 + 9 * x.toNatClampNeg + 6)) + 1)) 7 (((upd (upd (upd (upd (upd s (19 + 9 * x.toNatClampNeg + 2) 1) (19 + 9 * x.toNatClampNeg + 3) 2) (19 + 9 * x.toNatClampNeg + 4) n) (19 + 9 * x.toNatClampNeg + 5) ((upd (upd (upd s (19 + 9 * x.toNatClampNeg + 2) 1) (19 + 9 * x.toNatClampNeg + 3) 2) (19 + 9 * x.toNatClampNeg + 4) n) 3)) (19 + 9 * x.toNatClampNeg + 6) (((upd (upd (upd (upd s (19 + 9 * x.toNatClampNeg + 2) 1) (19 + 9 * x.toNatClampNeg + 3) 2) (19 + 9 * x.toNatClampNeg + 4) n) (19 + 9 * x.toNatClampNeg + 5) ((upd (upd (upd s (19 + 9 * x.toNatClampNeg + 2) 1) (19 + 9 * x.toNatClampNeg + 3) 2) (19 + 9 * x.toNatClampNeg + 4) n) 3)) (19 + 9 * x.toNatClampNeg + 6)) + 1)) 7) + n)) 6 (((upd (upd (upd (upd (upd (upd s (19 + 9 * x.toNatClampNeg + 2) 1) (19 + 9 * x.toNatClampNeg + 3) 2) (19 + 9 * x.toNatClampNeg + 4) n) (19 + 9 * x.toNatClampNeg + 5) ((upd (upd (upd s (19 + 9 * x.toNatClampNeg + 2) 1) (19 + 9 * x.toNatClampNeg + 3) 2) (19 + 9 * x.toNatClampNeg + 4) n) 3)) (19 + 9 * x.toNatClampNeg + 6) (((upd (upd (upd (upd s (19 + 9 * x.toNatClampNeg + 2) 1) (19 + 9 * x.toNatClampNeg + 3) 2) (19 + 9 * x.toNatClampNeg + 4) n) (19 + 9 * x.toNatClampNeg + 5) ((upd (upd (upd s (19 + 9 * x.toNatClampNeg + 2) 1) (19 + 9 * x.toNatClampNeg + 3) 2) (19 + 9 * x.toNatClampNeg + 4) n) 3)) (19 + 9 * x.toNatClampNeg + 6)) + 1)) 7 (((upd (upd (upd (upd (upd s (19 + 9 * x.toNatClampNeg + 2) 1) (19 + 9 * x.toNatClampNeg + 3) 2) (19 + 9 * x.toNatClampNeg + 4) n) (19 + 9 * x.toNatClampNeg + 5) ((upd (upd (upd s (19 + 9 * x.toNatClampNeg + 2) 1) (19 + 9 * x.toNatClampNeg + 3) 2) (19 + 9 * x.toNatClampNeg + 4) n) 3)) (19 + 9 * x.toNatClampNeg + 6) (((upd (upd (upd (upd s (19 + 9 * x.toNatClampNeg + 2) 1) (19 + 9 * x.toNatClampNeg + 3) 2) (19 + 9 * x.toNatClampNeg + 4) n) (19 + 9 * x.toNatClampNeg + 5) ((upd (upd (upd s (19 + 9 * x.toNatClampNeg + 2) 1) (19 + 9 * x.toNatClampNeg + 3) 2) (19 + 9 * x.toNatClampNeg + 4) n) 3)) (19 + 9 * x.toNatClampNeg + 6)) + 1)) 7) + n)) 6) + (n * ((upd (upd (upd (upd (upd (upd s (19 + 9 * x.toNatClampNeg + 2) 1) (19 + 9 * x.toNatClampNeg + 3) 2) (19 + 9 * x.toNatClampNeg + 4) n) (19 + 9 * x.toNatClampNeg + 5) ((upd (upd (upd s (19 + 9 * x.toNatClampNeg + 2) 1) (19 + 9 * x.toNatClampNeg + 3) 2) (19 + 9 * x.toNatClampNeg + 4) n) 3)) (19 + 9 * x.toNatClampNeg + 6) (((upd (upd (upd (upd s (19 + 9 * x.toNatClampNeg + 2) 1) (19 + 9 * x.toNatClampNeg + 3) 2) (19 + 9 * x.toNatClampNeg + 4) n) (19 + 9 * x.toNatClampNeg + 5) ((upd (upd (upd s (19 + 9 * x.toNatClampNeg + 2) 1) (19 + 9 * x.toNatClampNeg + 3) 2) (19 + 9 * x.toNatClampNeg + 4) n) 3)) (19 + 9 * x.toNatClampNeg + 6)) + 1)) 7 (((upd (upd (upd (upd (upd s (19 + 9 * x.toNatClampNeg + 2) 1) (19 + 9 * x.toNatClampNeg + 3) 2) (19 + 9 * x.toNatClampNeg + 4) n) (19 + 9 * x.toNatClampNeg + 5) ((upd (upd (upd s (19 + 9 * x.toNatClampNeg + 2) 1) (19 + 9 * x.toNatClampNeg + 3) 2) (19 + 9 * x.toNatClampNeg + 4) n) 3)) (19 + 9 * x.toNatClampNeg + 6) (((upd (upd (upd (upd s (19 + 9 * x.toNatClampNeg + 2) 1) (19 + 9 * x.toNatClampNeg + 3) 2) (19 + 9 * x.toNatClampNeg + 4) n) (19 + 9 * x.toNatClampNeg + 5) ((upd (upd (upd s (19 + 9 * x.toNatClampNeg + 2) 1) (19 + 9 * x.toNatClampNeg + 3) 2) (19 + 9 * x.toNatClampNeg + 4) n) 3)) (19 + 9 * x.toNatClampNeg + 6)) + 1)) 7) + n)) 15)))) nu) mu_133 ?_
        refine zr_aload_n X 0 dX9_send_116 rfl rfl ?_
        refine zr_get X zfd_RX9_7 (132) (show 132 < w.1 by rw [hw]; omega) mW_132 (v := .ref (w.2 (133))) rfl dX9_send_117 ?_
        refine zr_bipush X (v := 6) dX9_send_120 (by decide) ?_
        refine zr_iald X (133) (show 133 < w.1 by rw [hw]; omega) mW_133 (6) (rfl) (by decide) (by decide) dX9_send_122 ?_
        exact zret_i E rfl dX9_send_123 (by unfold dSend; rw [if_neg h2, if_neg h3, if_pos h5] <;> rfl) (by unfold dSend; rw [if_neg h2, if_neg h3, if_pos h5] <;> rfl)
      · refine zr_ldc X zm_4_16 dX9_send_30 ?_
        exact zret_i E rfl dX9_send_32 (by unfold dSend; rw [if_neg h2, if_neg h3, if_neg h6] <;> rfl) (by unfold dSend; rw [if_neg h2, if_neg h3, if_neg h6] <;> rfl)
    · refine zr_ldc X zm_3_230 dX9_send_18 ?_
      exact zret_i E rfl dX9_send_20 (by unfold dSend; rw [if_neg h2, if_pos h4] <;> rfl) (by unfold dSend; rw [if_neg h2, if_pos h4] <;> rfl)
def dRest (s : Nat → Int32) (x : Int32) : Int32 × Bool × (Nat → Int32) := if (dIs s x) = 0 then (-1000001, false, s) else if s (19 + 9 * x.toNatClampNeg + 2) = 0 then (s (19 + 9 * x.toNatClampNeg + 6), true, upd s (19 + 9 * x.toNatClampNeg + 6) 0) else (-1000002, false, s)
set_option maxHeartbeats 4000000 in
set_option maxRecDepth 100000 in
theorem k_mrest {l : Launch} {D : va_G} {cy : Nat → ClassId} {w : zW} {f : zF} {v s nu : Nat → Int32} {P : Nat → Int32} {k : Nat} {mc : Nat} {x : Int32} (hw : w.1 = 139) (hp : f 134 = eInts cy 544 P) (hr : v 1 = 0 ∨ v 1 = 1) (hk : v 0 = nI k) (hk4 : k ≤ 4) (hm : s 0 = nI mc) (hmc : mc ≤ 4) : zSd l D cy yX9_rest cX9_rest 3 (some .int) 1 23 [.ref (w.2 (132)), .int (x)] w (mW w cy f v s nu) (some (.int ((dRest s x).1))) (mQ w cy f v s nu P k (dRest s x)) := by
  refine zSd.intro (by decide) (Nat.le_of_ble_eq_true rfl) (fun G X E => ?_)
  show G (w, 0, 0) (mW w cy f v s nu) [(0, .ref (w.2 (132))), (1, .int (x))] 0 []
  refine zr_aload_n X 0 dX9_rest_0 rfl rfl ?_
  refine zr_iload_n X 1 dX9_rest_1 rfl rfl ?_
  refine zr_cV X (As := [.int (x)]) (rest := []) (f' := mW w cy f v s nu) (st' := [.int (dIs s x)]) zc_X9_isMule (132) (show 132 < w.1 by rw [hw]; omega) mW_132 (q9 := _) rfl rfl (k_isMule hw) ⟨Nat.le_of_ble_eq_true rfl, Nat.le_of_ble_eq_true rfl⟩ ⟨Nat.le_refl _, Nat.le_refl _⟩ rfl (Nat.le_of_ble_eq_true rfl) zm_4_4 rfl dX9_rest_2 rfl ?_
  refine zr_if_ne X (tgt := 11) dX9_rest_5 (by decide) (fun h1 => ?_) (fun h2 => ?_)
  · obtain ⟨hx9, hx8⟩ := dIs_x h1 hm hmc
    have hx7 : x.toNatClampNeg < 4 := by omega
    refine zr_aload_n X 0 dX9_rest_11 rfl rfl ?_
    refine zr_iload_n X 1 dX9_rest_12 rfl rfl ?_
    refine zr_iconst X (v := 2) dX9_rest_13 (by decide) ?_
    refine zr_cV X (As := [.int (x), .int (2)]) (rest := []) (f' := mW w cy f v s nu) (st' := [.int (s (19 + 9 * x.toNatClampNeg + 2))]) zc_X9_of (132) (show 132 < w.1 by rw [hw]; omega) mW_132 (q9 := _) rfl rfl (k_of (k := x.toNatClampNeg) (i := 2) hw hx9 rfl (by omega) (by omega)) ⟨Nat.le_of_ble_eq_true rfl, Nat.le_of_ble_eq_true rfl⟩ ⟨Nat.le_refl _, Nat.le_refl _⟩ rfl (Nat.le_of_ble_eq_true rfl) zm_4_12 rfl dX9_rest_14 rfl ?_
    refine zr_if_eq X (tgt := 23) dX9_rest_17 (by decide) (fun h3 => ?_) (fun h4 => ?_)
    · refine zr_aload_n X 0 dX9_rest_23 rfl rfl ?_
      refine zr_cV X (As := []) (rest := []) (f' := mW w cy (va_up f (134) (eInts cy 544 (dPa v P s k))) (dPv v k) s nu) (st' := []) zc_X9_changes (132) (show 132 < w.1 by rw [hw]; omega) mW_132 (q9 := _) rfl rfl (k_changes hw hp hr hk hk4) ⟨Nat.le_of_ble_eq_true rfl, Nat.le_of_ble_eq_true rfl⟩ ⟨Nat.le_refl _, Nat.le_refl _⟩ rfl (Nat.le_of_ble_eq_true rfl) zm_3_232 rfl dX9_rest_24 rfl ?_
      refine zr_aload_n X 0 dX9_rest_27 rfl rfl ?_
      refine zr_iload_n X 1 dX9_rest_28 rfl rfl ?_
      refine zr_bipush X (v := 6) dX9_rest_29 (by decide) ?_
      refine zr_cV X (As := [.int (x), .int (6)]) (rest := []) (f' := mW w cy (va_up f (134) (eInts cy 544 (dPa v P s k))) (dPv v k) s nu) (st' := [.int (s (19 + 9 * x.toNatClampNeg + 6))]) zc_X9_of (132) (show 132 < w.1 by rw [hw]; omega) mW_132 (q9 := _) rfl rfl (k_of (k := x.toNatClampNeg) (i := 6) hw hx9 rfl (by omega) (by omega)) ⟨Nat.le_of_ble_eq_true rfl, Nat.le_of_ble_eq_true rfl⟩ ⟨Nat.le_refl _, Nat.le_refl _⟩ rfl (Nat.le_of_ble_eq_true rfl) zm_4_12 rfl dX9_rest_31 rfl ?_
      refine zr_istore_n X (ls' := [(2, .int (s (19 + 9 * x.toNatClampNeg + 6))), (0, .ref (w.2 (132))), (1, .int (x))]) dX9_rest_34 rfl (by decide) rfl ?_
      refine zr_aload_n X 1 dX9_rest_35 rfl rfl ?_
      refine zr_iload_n X 2 dX9_rest_36 rfl rfl ?_
      refine zr_bipush X (v := 6) dX9_rest_37 (by decide) ?_
      refine zr_iconst X (v := 0) dX9_rest_39 (by decide) ?_
      refine zr_cV X (As := [.int (x), .int (6), .int (0)]) (rest := []) (f' := mW w cy (va_up f (134) (eInts cy 544 (dPa v P s k))) (dPv v k) (upd s (19 + 9 * x.toNatClampNeg + 6) 0) nu) (st' := []) zc_X9_sets (132) (show 132 < w.1 by rw [hw]; omega) mW_132 (q9 := _) rfl rfl (k_sets (k := x.toNatClampNeg) (i := 6) hw hx9 rfl (by omega) (by decide)) ⟨Nat.le_of_ble_eq_true rfl, Nat.le_of_ble_eq_true rfl⟩ ⟨Nat.le_refl _, Nat.le_refl _⟩ rfl (Nat.le_of_ble_eq_true rfl) zm_3_236 rfl dX9_rest_40 rfl ?_
      refine zr_iload_n X 0 dX9_rest_43 rfl rfl ?_
      exact zret_i E rfl dX9_rest_44 (by unfold dRest; rw [if_neg h1, if_pos h3] <;> rfl) (by unfold dRest; rw [if_neg h1, if_pos h3] <;> rfl)
    · refine zr_ldc X zm_4_16 dX9_rest_20 ?_
      exact zret_i E rfl dX9_rest_22 (by unfold dRest; rw [if_neg h1, if_neg h4] <;> rfl) (by unfold dRest; rw [if_neg h1, if_neg h4] <;> rfl)
  · refine zr_ldc X zm_3_230 dX9_rest_8 ?_
    exact zret_i E rfl dX9_rest_10 (by unfold dRest; rw [if_pos h2] <;> rfl) (by unfold dRest; rw [if_pos h2] <;> rfl)
def dPy (s : Nat → Int32) (m : Int32) : Nat → Int32 :=
  let a1 := upd s 5 (s 5 - m)
  let a2 := upd a1 6 (a1 6 - m)
  upd a2 14 (a2 14 + m)
def dPay (s : Nat → Int32) (m : Int32) : Int32 × Bool × (Nat → Int32) := if (zwin m 1 500) = 0 then (-1000001, false, s) else if (s 5) < m then (-1000002, false, s) else if m ≤ (s 6) then ((dPy s m) 6, true, dPy s m) else (-1000002, false, s)
set_option maxHeartbeats 4000000 in
set_option maxRecDepth 100000 in
theorem k_mpay {l : Launch} {D : va_G} {cy : Nat → ClassId} {w : zW} {f : zF} {v s nu : Nat → Int32} {P : Nat → Int32} {k : Nat} {m : Int32} (hw : w.1 = 139) (hp : f 134 = eInts cy 544 P) (hr : v 1 = 0 ∨ v 1 = 1) (hk : v 0 = nI k) (hk4 : k ≤ 4)  : zSd l D cy yX9_pay cX9_pay 2 (some .int) 1 22 [.ref (w.2 (132)), .int (m)] w (mW w cy f v s nu) (some (.int ((dPay s m).1))) (mQ w cy f v s nu P k (dPay s m)) := by
  refine zSd.intro (by decide) (Nat.le_of_ble_eq_true rfl) (fun G X E => ?_)
  show G (w, 0, 0) (mW w cy f v s nu) [(0, .ref (w.2 (132))), (1, .int (m))] 0 []
  refine zr_iload_n X 1 dX9_pay_0 rfl rfl ?_
  refine zr_iconst X (v := 1) dX9_pay_1 (by decide) ?_
  refine zr_sipush X (v := 500) dX9_pay_2 (by decide) ?_
  refine zr_cS X (As := [.int (m), .int (1), .int (500)]) (rest := []) (f' := mW w cy f v s nu) (st' := [.int (zwin m 1 500)]) zc_X9_in k_in ⟨Nat.le_of_ble_eq_true rfl, Nat.le_of_ble_eq_true rfl⟩ ⟨Nat.le_refl _, Nat.le_refl _⟩ rfl (Nat.le_of_ble_eq_true rfl) zm_3_227 rfl dX9_pay_5 rfl ?_
  refine zr_if_ne X (tgt := 14) dX9_pay_8 (by decide) (fun h1 => ?_) (fun h2 => ?_)
  · refine zr_iload_n X 1 dX9_pay_14 rfl rfl ?_
    refine zr_aload_n X 0 dX9_pay_15 rfl rfl ?_
    refine zr_get X zfd_RX9_7 (132) (show 132 < w.1 by rw [hw]; omega) mW_132 (v := .ref (w.2 (133))) rfl dX9_pay_16 ?_
    refine zr_iconst X (v := 5) dX9_pay_19 (by decide) ?_
    refine zr_iald X (133) (show 133 < w.1 by rw [hw]; omega) mW_133 (5) (rfl) (by decide) (by decide) dX9_pay_20 ?_
    refine zr_icmp_gt X (tgt := 35) dX9_pay_21 (by decide) (fun h3 => ?_) (fun h4 => ?_)
    · refine zr_ldc X zm_4_16 dX9_pay_35 ?_
      exact zret_i E rfl dX9_pay_37 (by unfold dPay; rw [if_neg h1, if_pos h3] <;> rfl) (by unfold dPay; rw [if_neg h1, if_pos h3] <;> rfl)
    · refine zr_iload_n X 1 dX9_pay_24 rfl rfl ?_
      refine zr_aload_n X 0 dX9_pay_25 rfl rfl ?_
      refine zr_get X zfd_RX9_7 (132) (show 132 < w.1 by rw [hw]; omega) mW_132 (v := .ref (w.2 (133))) rfl dX9_pay_26 ?_
      refine zr_bipush X (v := 6) dX9_pay_29 (by decide) ?_
      refine zr_iald X (133) (show 133 < w.1 by rw [hw]; omega) mW_133 (6) (rfl) (by decide) (by decide) dX9_pay_31 ?_
      refine zr_icmp_le X (tgt := 38) dX9_pay_32 (by decide) (fun h5 => ?_) (fun h6 => ?_)
      · refine zr_aload_n X 0 dX9_pay_38 rfl rfl ?_
        refine zr_cV X (As := []) (rest := []) (f' := mW w cy (va_up f (134) (eInts cy 544 (dPa v P s k))) (dPv v k) s nu) (st' := []) zc_X9_changes (132) (show 132 < w.1 by rw [hw]; omega) mW_132 (q9 := _) rfl rfl (k_changes hw hp hr hk hk4) ⟨Nat.le_of_ble_eq_true rfl, Nat.le_of_ble_eq_true rfl⟩ ⟨Nat.le_refl _, Nat.le_refl _⟩ rfl (Nat.le_of_ble_eq_true rfl) zm_3_232 rfl dX9_pay_39 rfl ?_
        refine zr_aload_n X 0 dX9_pay_42 rfl rfl ?_
        refine zr_get X zfd_RX9_7 (132) (show 132 < w.1 by rw [hw]; omega) mW_132 (v := .ref (w.2 (133))) rfl dX9_pay_43 ?_
        refine zr_iconst X (v := 5) dX9_pay_46 (by decide) ?_
        refine zr_dup2 X dX9_pay_47 rfl rfl ?_
        refine zr_iald X (133) (show 133 < w.1 by rw [hw]; omega) mW_133 (5) (rfl) (by decide) (by decide) dX9_pay_48 ?_
        refine zr_iload_n X 1 dX9_pay_49 rfl rfl ?_
        refine zr_isub X dX9_pay_50 ?_
        refine zr_iast X (133) (show 133 < w.1 by rw [hw]; omega) mW_133 (5) (rfl) (by decide) (by decide) dX9_pay_51 ?_
        refine zcw (f2 := mW w cy (va_up f (134) (eInts cy 544 (dPa v P s k))) (dPv v k) (upd s 5 ((s 5) - m)) nu) mu_133 ?_
        refine zr_aload_n X 0 dX9_pay_52 rfl rfl ?_
        refine zr_get X zfd_RX9_7 (132) (show 132 < w.1 by rw [hw]; omega) mW_132 (v := .ref (w.2 (133))) rfl dX9_pay_53 ?_
        refine zr_bipush X (v := 6) dX9_pay_56 (by decide) ?_
        refine zr_dup2 X dX9_pay_58 rfl rfl ?_
        refine zr_iald X (133) (show 133 < w.1 by rw [hw]; omega) mW_133 (6) (rfl) (by decide) (by decide) dX9_pay_59 ?_
        refine zr_iload_n X 1 dX9_pay_60 rfl rfl ?_
        refine zr_isub X dX9_pay_61 ?_
        refine zr_iast X (133) (show 133 < w.1 by rw [hw]; omega) mW_133 (6) (rfl) (by decide) (by decide) dX9_pay_62 ?_
        refine zcw (f2 := mW w cy (va_up f (134) (eInts cy 544 (dPa v P s k))) (dPv v k) (upd (upd s 5 ((s 5) - m)) 6 (((upd s 5 ((s 5) - m)) 6) - m)) nu) mu_133 ?_
        refine zr_aload_n X 0 dX9_pay_63 rfl rfl ?_
        refine zr_get X zfd_RX9_7 (132) (show 132 < w.1 by rw [hw]; omega) mW_132 (v := .ref (w.2 (133))) rfl dX9_pay_64 ?_
        refine zr_bipush X (v := 14) dX9_pay_67 (by decide) ?_
        refine zr_dup2 X dX9_pay_69 rfl rfl ?_
        refine zr_iald X (133) (show 133 < w.1 by rw [hw]; omega) mW_133 (14) (rfl) (by decide) (by decide) dX9_pay_70 ?_
        refine zr_iload_n X 1 dX9_pay_71 rfl rfl ?_
        refine zr_iadd X dX9_pay_72 ?_
        refine zr_iast X (133) (show 133 < w.1 by rw [hw]; omega) mW_133 (14) (rfl) (by decide) (by decide) dX9_pay_73 ?_
        refine zcw (f2 := mW w cy (va_up f (134) (eInts cy 544 (dPa v P s k))) (dPv v k) (upd (upd (upd s 5 ((s 5) - m)) 6 (((upd s 5 ((s 5) - m)) 6) - m)) 14 (((upd (upd s 5 ((s 5) - m)) 6 (((upd s 5 ((s 5) - m)) 6) - m)) 14) + m)) nu) mu_133 ?_
        refine zr_aload_n X 0 dX9_pay_74 rfl rfl ?_
        refine zr_get X zfd_RX9_7 (132) (show 132 < w.1 by rw [hw]; omega) mW_132 (v := .ref (w.2 (133))) rfl dX9_pay_75 ?_
        refine zr_bipush X (v := 6) dX9_pay_78 (by decide) ?_
        refine zr_iald X (133) (show 133 < w.1 by rw [hw]; omega) mW_133 (6) (rfl) (by decide) (by decide) dX9_pay_80 ?_
        exact zret_i E rfl dX9_pay_81 (by unfold dPay; rw [if_neg h1, if_neg h4, if_pos h5] <;> rfl) (by unfold dPay; rw [if_neg h1, if_neg h4, if_pos h5] <;> rfl)
      · refine zr_ldc X zm_4_16 dX9_pay_35 ?_
        exact zret_i E rfl dX9_pay_37 (by unfold dPay; rw [if_neg h1, if_neg h4, if_neg h6] <;> rfl) (by unfold dPay; rw [if_neg h1, if_neg h4, if_neg h6] <;> rfl)
  · refine zr_ldc X zm_3_230 dX9_pay_11 ?_
    exact zret_i E rfl dX9_pay_13 (by unfold dPay; rw [if_pos h2] <;> rfl) (by unfold dPay; rw [if_pos h2] <;> rfl)
def dGr (s : Nat → Int32) (bk : Nat) (p d n : Int32) : Nat → Int32 :=
  let a1 := upd s (55 + 6 * bk + 0) (s 2)
  let a2 := upd a1 (55 + 6 * bk + 1) p
  let a3 := upd a2 (55 + 6 * bk + 2) (a2 3 + d)
  let a4 := upd a3 (55 + 6 * bk + 3) n
  let a5 := upd a4 (55 + 6 * bk + 4) 0
  let a6 := upd a5 (55 + 6 * bk + 5) 0
  let a7 := upd a6 1 (a6 1 + 1)
  upd a7 2 (a7 2 + 1)
def dGroup (s : Nat → Int32) (bk : Nat) (p d n : Int32) : Int32 × Bool × (Nat → Int32) := if (zwin p 1 12) = 0 then (-1000001, false, s) else if (zwin d 0 60) = 0 then (-1000001, false, s) else if (zwin n 1 9) = 0 then (-1000001, false, s) else if s 1 = 10 then (-1000003, false, s) else ((dGr s bk p d n) 2 - 1, true, dGr s bk p d n)
set_option maxHeartbeats 4000000 in
set_option maxRecDepth 100000 in
theorem k_mgroup {l : Launch} {D : va_G} {cy : Nat → ClassId} {w : zW} {f : zF} {v s nu : Nat → Int32} {P : Nat → Int32} {k : Nat} {bk : Nat} {p : Int32} {d : Int32} {n : Int32} (hw : w.1 = 139) (hp : f 134 = eInts cy 544 P) (hr : v 1 = 0 ∨ v 1 = 1) (hk : v 0 = nI k) (hk4 : k ≤ 4) (hg : s 1 = nI bk) (hbk : bk ≤ 10) : zSd l D cy yX9_group cX9_group 6 (some .int) 1 22 [.ref (w.2 (132)), .int (p), .int (d), .int (n)] w (mW w cy f v s nu) (some (.int ((dGroup s bk p d n).1))) (mQ w cy f v s nu P k (dGroup s bk p d n)) := by
  refine zSd.intro (by decide) (Nat.le_of_ble_eq_true rfl) (fun G X E => ?_)
  show G (w, 0, 0) (mW w cy f v s nu) [(0, .ref (w.2 (132))), (1, .int (p)), (2, .int (d)), (3, .int (n))] 0 []
  refine zr_iload_n X 1 dX9_group_0 rfl rfl ?_
  refine zr_iconst X (v := 1) dX9_group_1 (by decide) ?_
  refine zr_bipush X (v := 12) dX9_group_2 (by decide) ?_
  refine zr_cS X (As := [.int (p), .int (1), .int (12)]) (rest := []) (f' := mW w cy f v s nu) (st' := [.int (zwin p 1 12)]) zc_X9_in k_in ⟨Nat.le_of_ble_eq_true rfl, Nat.le_of_ble_eq_true rfl⟩ ⟨Nat.le_refl _, Nat.le_refl _⟩ rfl (Nat.le_of_ble_eq_true rfl) zm_3_227 rfl dX9_group_4 rfl ?_
  refine zr_if_eq X (tgt := 30) dX9_group_7 (by decide) (fun h1 => ?_) (fun h2 => ?_)
  · refine zr_ldc X zm_3_230 dX9_group_30 ?_
    exact zret_i E rfl dX9_group_32 (by unfold dGroup; rw [if_pos h1] <;> rfl) (by unfold dGroup; rw [if_pos h1] <;> rfl)
  · refine zr_iload_n X 2 dX9_group_10 rfl rfl ?_
    refine zr_iconst X (v := 0) dX9_group_11 (by decide) ?_
    refine zr_bipush X (v := 60) dX9_group_12 (by decide) ?_
    refine zr_cS X (As := [.int (d), .int (0), .int (60)]) (rest := []) (f' := mW w cy f v s nu) (st' := [.int (zwin d 0 60)]) zc_X9_in k_in ⟨Nat.le_of_ble_eq_true rfl, Nat.le_of_ble_eq_true rfl⟩ ⟨Nat.le_refl _, Nat.le_refl _⟩ rfl (Nat.le_of_ble_eq_true rfl) zm_3_227 rfl dX9_group_14 rfl ?_
    refine zr_if_eq X (tgt := 30) dX9_group_17 (by decide) (fun h3 => ?_) (fun h4 => ?_)
    · refine zr_ldc X zm_3_230 dX9_group_30 ?_
      exact zret_i E rfl dX9_group_32 (by unfold dGroup; rw [if_neg h2, if_pos h3] <;> rfl) (by unfold dGroup; rw [if_neg h2, if_pos h3] <;> rfl)
    · refine zr_iload_n X 3 dX9_group_20 rfl rfl ?_
      refine zr_iconst X (v := 1) dX9_group_21 (by decide) ?_
      refine zr_bipush X (v := 9) dX9_group_22 (by decide) ?_
      refine zr_cS X (As := [.int (n), .int (1), .int (9)]) (rest := []) (f' := mW w cy f v s nu) (st' := [.int (zwin n 1 9)]) zc_X9_in k_in ⟨Nat.le_of_ble_eq_true rfl, Nat.le_of_ble_eq_true rfl⟩ ⟨Nat.le_refl _, Nat.le_refl _⟩ rfl (Nat.le_of_ble_eq_true rfl) zm_3_227 rfl dX9_group_24 rfl ?_
      refine zr_if_ne X (tgt := 33) dX9_group_27 (by decide) (fun h5 => ?_) (fun h6 => ?_)
      · refine zr_aload_n X 0 dX9_group_33 rfl rfl ?_
        refine zr_get X zfd_RX9_7 (132) (show 132 < w.1 by rw [hw]; omega) mW_132 (v := .ref (w.2 (133))) rfl dX9_group_34 ?_
        refine zr_iconst X (v := 1) dX9_group_37 (by decide) ?_
        refine zr_iald X (133) (show 133 < w.1 by rw [hw]; omega) mW_133 (1) (rfl) (by decide) (by decide) dX9_group_38 ?_
        refine zr_istore X (ls' := [(4, .int (s 1)), (0, .ref (w.2 (132))), (1, .int (p)), (2, .int (d)), (3, .int (n))]) dX9_group_39 (by decide) rfl ?_
        refine zr_iload X 0 dX9_group_41 rfl ?_
        refine zr_bipush X (v := 10) dX9_group_43 (by decide) ?_
        refine zr_icmp_ne X (tgt := 51) dX9_group_45 (by decide) (fun h7 => ?_) (fun h8 => ?_)
        · have hb9 : bk < 10 := by rcases Nat.lt_or_ge bk 10 with q | q; · exact q
                                   · exact absurd (hg.trans (congrArg nI (show bk = 10 by omega))) h7
          refine zr_aload_n X 1 dX9_group_51 rfl rfl ?_
          refine zr_cV X (As := []) (rest := []) (f' := mW w cy (va_up f (134) (eInts cy 544 (dPa v P s k))) (dPv v k) s nu) (st' := []) zc_X9_changes (132) (show 132 < w.1 by rw [hw]; omega) mW_132 (q9 := _) rfl rfl (k_changes hw hp hr hk hk4) ⟨Nat.le_of_ble_eq_true rfl, Nat.le_of_ble_eq_true rfl⟩ ⟨Nat.le_refl _, Nat.le_refl _⟩ rfl (Nat.le_of_ble_eq_true rfl) zm_3_232 rfl dX9_group_52 rfl ?_
          refine zr_bipush X (v := 55) dX9_group_55 (by decide) ?_
          refine zr_bipush X (v := 6) dX9_group_57 (by decide) ?_
          refine zr_iload X 0 dX9_group_59 rfl ?_
          refine zr_imul X dX9_group_61 ?_
          refine zr_iadd X dX9_group_62 ?_
          refine zr_istore X (ls' := [(5, .int (55 + (6 * (s 1)))), (4, .int (s 1)), (0, .ref (w.2 (132))), (1, .int (p)), (2, .int (d)), (3, .int (n))]) dX9_group_63 (by decide) rfl ?_
          refine zr_aload_n X 2 dX9_group_65 rfl rfl ?_
          refine zr_get X zfd_RX9_7 (132) (show 132 < w.1 by rw [hw]; omega) mW_132 (v := .ref (w.2 (133))) rfl dX9_group_66 ?_
          refine zr_iload X 0 dX9_group_69 rfl ?_
          refine zr_iconst X (v := 0) dX9_group_71 (by decide) ?_
          refine zr_iadd X dX9_group_72 ?_
          refine zr_aload_n X 2 dX9_group_73 rfl rfl ?_
          refine zr_get X zfd_RX9_7 (132) (show 132 < w.1 by rw [hw]; omega) mW_132 (v := .ref (w.2 (133))) rfl dX9_group_74 ?_
          refine zr_iconst X (v := 2) dX9_group_77 (by decide) ?_
          refine zr_iald X (133) (show 133 < w.1 by rw [hw]; omega) mW_133 (2) (rfl) (by decide) (by decide) dX9_group_78 ?_
          refine zr_iast X (133) (show 133 < w.1 by rw [hw]; omega) mW_133 (55 + 6 * bk + 0) (zi9 (c := 55) (n := 6) hg (show (0 : Int32) = nI 0 from rfl)) (by omega) (by decide) dX9_group_79 ?_
          refine zcw (f2 := mW w cy (va_up f (134) (eInts cy 544 (dPa v P s k))) (dPv v k) (upd s (55 + 6 * bk + 0) (s 2)) nu) mu_133 ?_
          refine zr_aload_n X 2 dX9_group_80 rfl rfl ?_
          refine zr_get X zfd_RX9_7 (132) (show 132 < w.1 by rw [hw]; omega) mW_132 (v := .ref (w.2 (133))) rfl dX9_group_81 ?_
          refine zr_iload X 0 dX9_group_84 rfl ?_
          refine zr_iconst X (v := 1) dX9_group_86 (by decide) ?_
          refine zr_iadd X dX9_group_87 ?_
          refine zr_iload_n X 3 dX9_group_88 rfl rfl ?_
          refine zr_iast X (133) (show 133 < w.1 by rw [hw]; omega) mW_133 (55 + 6 * bk + 1) (zi9 (c := 55) (n := 6) hg (show (1 : Int32) = nI 1 from rfl)) (by omega) (by decide) dX9_group_89 ?_
          refine zcw (f2 := mW w cy (va_up f (134) (eInts cy 544 (dPa v P s k))) (dPv v k) (upd (upd s (55 + 6 * bk + 0) (s 2)) (55 + 6 * bk + 1) p) nu) mu_133 ?_
          refine zr_aload_n X 2 dX9_group_90 rfl rfl ?_
          refine zr_get X zfd_RX9_7 (132) (show 132 < w.1 by rw [hw]; omega) mW_132 (v := .ref (w.2 (133))) rfl dX9_group_91 ?_
          refine zr_iload X 0 dX9_group_94 rfl ?_
          refine zr_iconst X (v := 2) dX9_group_96 (by decide) ?_
          refine zr_iadd X dX9_group_97 ?_
          refine zr_aload_n X 2 dX9_group_98 rfl rfl ?_
          refine zr_get X zfd_RX9_7 (132) (show 132 < w.1 by rw [hw]; omega) mW_132 (v := .ref (w.2 (133))) rfl dX9_group_99 ?_
          refine zr_iconst X (v := 3) dX9_group_102 (by decide) ?_
          refine zr_iald X (133) (show 133 < w.1 by rw [hw]; omega) mW_133 (3) (rfl) (by decide) (by decide) dX9_group_103 ?_
          refine zr_iload_n X 4 dX9_group_104 rfl rfl ?_
          refine zr_iadd X dX9_group_105 ?_
          refine zr_iast X (133) (show 133 < w.1 by rw [hw]; omega) mW_133 (55 + 6 * bk + 2) (zi9 (c := 55) (n := 6) hg (show (2 : Int32) = nI 2 from rfl)) (by omega) (by decide) dX9_group_106 ?_
          refine zcw (f2 := mW w cy (va_up f (134) (eInts cy 544 (dPa v P s k))) (dPv v k) (upd (upd (upd s (55 + 6 * bk + 0) (s 2)) (55 + 6 * bk + 1) p) (55 + 6 * bk + 2) (((upd (upd s (55 + 6 * bk + 0) (s 2)) (55 + 6 * bk + 1) p) 3) + d)) nu) mu_133 ?_
          refine zr_aload_n X 2 dX9_group_107 rfl rfl ?_
          refine zr_get X zfd_RX9_7 (132) (show 132 < w.1 by rw [hw]; omega) mW_132 (v := .ref (w.2 (133))) rfl dX9_group_108 ?_
          refine zr_iload X 0 dX9_group_111 rfl ?_
          refine zr_iconst X (v := 3) dX9_group_113 (by decide) ?_
          refine zr_iadd X dX9_group_114 ?_
          refine zr_iload_n X 5 dX9_group_115 rfl rfl ?_
          refine zr_iast X (133) (show 133 < w.1 by rw [hw]; omega) mW_133 (55 + 6 * bk + 3) (zi9 (c := 55) (n := 6) hg (show (3 : Int32) = nI 3 from rfl)) (by omega) (by decide) dX9_group_116 ?_
          refine zcw (f2 := mW w cy (va_up f (134) (eInts cy 544 (dPa v P s k))) (dPv v k) (upd (upd (upd (upd s (55 + 6 * bk + 0) (s 2)) (55 + 6 * bk + 1) p) (55 + 6 * bk + 2) (((upd (upd s (55 + 6 * bk + 0) (s 2)) (55 + 6 * bk + 1) p) 3) + d)) (55 + 6 * bk + 3) n) nu) mu_133 ?_
          refine zr_aload_n X 2 dX9_group_117 rfl rfl ?_
          refine zr_get X zfd_RX9_7 (132) (show 132 < w.1 by rw [hw]; omega) mW_132 (v := .ref (w.2 (133))) rfl dX9_group_118 ?_
          refine zr_iload X 0 dX9_group_121 rfl ?_
          refine zr_iconst X (v := 4) dX9_group_123 (by decide) ?_
          refine zr_iadd X dX9_group_124 ?_
          refine zr_iconst X (v := 0) dX9_group_125 (by decide) ?_
          refine zr_iast X (133) (show 133 < w.1 by rw [hw]; omega) mW_133 (55 + 6 * bk + 4) (zi9 (c := 55) (n := 6) hg (show (4 : Int32) = nI 4 from rfl)) (by omega) (by decide) dX9_group_126 ?_
          refine zcw (f2 := mW w cy (va_up f (134) (eInts cy 544 (dPa v P s k))) (dPv v k) (upd (upd (upd (upd (upd s (55 + 6 * bk + 0) (s 2)) (55 + 6 * bk + 1) p) (55 + 6 * bk + 2) (((upd (upd s (55 + 6 * bk + 0) (s 2)) (55 + 6 * bk + 1) p) 3) + d)) (55 + 6 * bk + 3) n) (55 + 6 * bk + 4) 0) nu) mu_133 ?_
          refine zr_aload_n X 2 dX9_group_127 rfl rfl ?_
          refine zr_get X zfd_RX9_7 (132) (show 132 < w.1 by rw [hw]; omega) mW_132 (v := .ref (w.2 (133))) rfl dX9_group_128 ?_
          refine zr_iload X 0 dX9_group_131 rfl ?_
          refine zr_iconst X (v := 5) dX9_group_133 (by decide) ?_
          refine zr_iadd X dX9_group_134 ?_
          refine zr_iconst X (v := 0) dX9_group_135 (by decide) ?_
          refine zr_iast X (133) (show 133 < w.1 by rw [hw]; omega) mW_133 (55 + 6 * bk + 5) (zi9 (c := 55) (n := 6) hg (show (5 : Int32) = nI 5 from rfl)) (by omega) (by decide) dX9_group_136 ?_
          refine zcw (f2 := mW w cy (va_up f (134) (eInts cy 544 (dPa v P s k))) (dPv v k) (upd (upd (upd (upd (upd (upd s (55 + 6 * bk + 0) (s 2)) (55 + 6 * bk + 1) p) (55 + 6 * bk + 2) (((upd (upd s (55 + 6 * bk + 0) (s 2)) (55 + 6 * bk + 1) p) 3) + d)) (55 + 6 * bk + 3) n) (55 + 6 * bk + 4) 0) (55 + 6 * bk + 5) 0) nu) mu_133 ?_
          refine zr_aload_n X 2 dX9_group_137 rfl rfl ?_
          refine zr_get X zfd_RX9_7 (132) (show 132 < w.1 by rw [hw]; omega) mW_132 (v := .ref (w.2 (133))) rfl dX9_group_138 ?_
          refine zr_iconst X (v := 1) dX9_group_141 (by decide) ?_
          refine zr_dup2 X dX9_group_142 rfl rfl ?_
          refine zr_iald X (133) (show 133 < w.1 by rw [hw]; omega) mW_133 (1) (rfl) (by decide) (by decide) dX9_group_143 ?_
          refine zr_iconst X (v := 1) dX9_group_144 (by decide) ?_
          refine zr_iadd X dX9_group_145 ?_
          refine zr_iast X (133) (show 133 < w.1 by rw [hw]; omega) mW_133 (1) (rfl) (by decide) (by decide) dX9_group_146 ?_
          refine zcw (f2 := mW w cy (va_up f (134) (eInts cy 544 (dPa v P s k))) (dPv v k) (upd (upd (upd (upd (upd (upd (upd s (55 + 6 * bk + 0) (s 2)) (55 + 6 * bk + 1) p) (55 + 6 * bk + 2) (((upd (upd s (55 + 6 * bk + 0) (s 2)) (55 + 6 * bk + 1) p) 3) + d)) (55 + 6 * bk + 3) n) (55 + 6 * bk + 4) 0) (55 + 6 * bk + 5) 0) 1 (((upd (upd (upd (upd (upd (upd s (55 + 6 * bk + 0) (s 2)) (55 + 6 * bk + 1) p) (55 + 6 * bk + 2) (((upd (upd s (55 + 6 * bk + 0) (s 2)) (55 + 6 * bk + 1) p) 3) + d)) (55 + 6 * bk + 3) n) (55 + 6 * bk + 4) 0) (55 + 6 * bk + 5) 0) 1) + 1)) nu) mu_133 ?_
          refine zr_aload_n X 2 dX9_group_147 rfl rfl ?_
          refine zr_get X zfd_RX9_7 (132) (show 132 < w.1 by rw [hw]; omega) mW_132 (v := .ref (w.2 (133))) rfl dX9_group_148 ?_
          refine zr_iconst X (v := 2) dX9_group_151 (by decide) ?_
          refine zr_dup2 X dX9_group_152 rfl rfl ?_
          refine zr_iald X (133) (show 133 < w.1 by rw [hw]; omega) mW_133 (2) (rfl) (by decide) (by decide) dX9_group_153 ?_
          refine zr_iconst X (v := 1) dX9_group_154 (by decide) ?_
          refine zr_iadd X dX9_group_155 ?_
          refine zr_iast X (133) (show 133 < w.1 by rw [hw]; omega) mW_133 (2) (rfl) (by decide) (by decide) dX9_group_156 ?_
          refine zcw (f2 := mW w cy (va_up f (134) (eInts cy 544 (dPa v P s k))) (dPv v k) (upd (upd (upd (upd (upd (upd (upd (upd s (55 + 6 * bk + 0) (s 2)) (55 + 6 * bk + 1) p) (55 + 6 * bk + 2) (((upd (upd s (55 + 6 * bk + 0) (s 2)) (55 + 6 * bk + 1) p) 3) + d)) (55 + 6 * bk + 3) n) (55 + 6 * bk + 4) 0) (55 + 6 * bk + 5) 0) 1 (((upd (upd (upd (upd (upd (upd s (55 + 6 * bk + 0) (s 2)) (55 + 6 * bk + 1) p) (55 + 6 * bk + 2) (((upd (upd s (55 + 6 * bk + 0) (s 2)) (55 + 6 * bk + 1) p) 3) + d)) (55 + 6 * bk + 3) n) (55 + 6 * bk + 4) 0) (55 + 6 * bk + 5) 0) 1) + 1)) 2 (((upd (upd (upd (upd (upd (upd (upd s (55 + 6 * bk + 0) (s 2)) (55 + 6 * bk + 1) p) (55 + 6 * bk + 2) (((upd (upd s (55 + 6 * bk + 0) (s 2)) (55 + 6 * bk + 1) p) 3) + d)) (55 + 6 * bk + 3) n) (55 + 6 * bk + 4) 0) (55 + 6 * bk + 5) 0) 1 (((upd (upd (upd (upd (upd (upd s (55 + 6 * bk + 0) (s 2)) (55 + 6 * bk + 1) p) (55 + 6 * bk + 2) (((upd (upd s (55 + 6 * bk + 0) (s 2)) (55 + 6 * bk + 1) p) 3) + d)) (55 + 6 * bk + 3) n) (55 + 6 * bk + 4) 0) (55 + 6 * bk + 5) 0) 1) + 1)) 2) + 1)) nu) mu_133 ?_
          refine zr_aload_n X 2 dX9_group_157 rfl rfl ?_
          refine zr_get X zfd_RX9_7 (132) (show 132 < w.1 by rw [hw]; omega) mW_132 (v := .ref (w.2 (133))) rfl dX9_group_158 ?_
          refine zr_iconst X (v := 2) dX9_group_161 (by decide) ?_
          refine zr_iald X (133) (show 133 < w.1 by rw [hw]; omega) mW_133 (2) (rfl) (by decide) (by decide) dX9_group_162 ?_
          refine zr_iconst X (v := 1) dX9_group_163 (by decide) ?_
          refine zr_isub X dX9_group_164 ?_
          exact zret_i E rfl dX9_group_165 (by unfold dGroup; rw [if_neg h2, if_neg h4, if_neg h5, if_neg h7] <;> rfl) (by unfold dGroup; rw [if_neg h2, if_neg h4, if_neg h5, if_neg h7] <;> rfl)
        · refine zr_ldc X zm_3_231 dX9_group_48 ?_
          exact zret_i E rfl dX9_group_50 (by unfold dGroup; rw [if_neg h2, if_neg h4, if_neg h5, if_pos h8] <;> rfl) (by unfold dGroup; rw [if_neg h2, if_neg h4, if_neg h5, if_pos h8] <;> rfl)
      · refine zr_ldc X zm_3_230 dX9_group_30 ?_
        exact zret_i E rfl dX9_group_32 (by unfold dGroup; rw [if_neg h2, if_neg h4, if_pos h6] <;> rfl) (by unfold dGroup; rw [if_neg h2, if_neg h4, if_pos h6] <;> rfl)
theorem dPl_lt {s : Nat → Int32} {g : Int32} : ∀ m k, k + m ≤ 10 → 0 ≤ dPl s g m k → ∃ j, dPl s g m k = nI j ∧ k ≤ j ∧ j < k + m
  | 0, _, _, h => absurd h (by unfold dPl; decide)
  | m + 1, k, hk, h => by
    unfold dPl at h ⊢
    by_cases e : s (55 + 6 * k + 0) = g
    · rw [if_pos e]
      exact ⟨k, rfl, Nat.le_refl _, by omega⟩
    · rw [if_neg e] at h ⊢
      obtain ⟨j, h1, h2, h3⟩ := dPl_lt m (k + 1) (by omega) h
      exact ⟨j, h1, by omega, by omega⟩
theorem dPl_k {s : Nat → Int32} {g : Int32} {bk : Nat} (hb : bk ≤ 10) (h : 0 ≤ dPl s g bk 0) : dPl s g bk 0 = nI (dPl s g bk 0).toNatClampNeg ∧ (dPl s g bk 0).toNatClampNeg < bk := by
  obtain ⟨j, h1, h2, h3⟩ := dPl_lt bk 0 (by omega) h
  rw [h1, nI_clamp (by omega)]
  exact ⟨rfl, by omega⟩
def dOff (s : Nat → Int32) (bk : Nat) (x : Int32) : Int32 × Bool × (Nat → Int32) := if 0 ≤ dPl s x bk 0 then ((dGo s (dPl s x bk 0).toNatClampNeg (bk - 1)) 1, true, dGo s (dPl s x bk 0).toNatClampNeg (bk - 1)) else (-1000001, false, s)
set_option maxHeartbeats 4000000 in
set_option maxRecDepth 100000 in
theorem k_moff {l : Launch} {D : va_G} {cy : Nat → ClassId} {w : zW} {f : zF} {v s nu : Nat → Int32} {P : Nat → Int32} {k : Nat} {bk : Nat} {x : Int32} (hw : w.1 = 139) (hp : f 134 = eInts cy 544 P) (hr : v 1 = 0 ∨ v 1 = 1) (hk : v 0 = nI k) (hk4 : k ≤ 4) (hg : s 1 = nI bk) (hbk : bk ≤ 10) : zSd l D cy yX9_off cX9_off 3 (some .int) 2 44 [.ref (w.2 (132)), .int (x)] w (mW w cy f v s nu) (some (.int ((dOff s bk x).1))) (mQ w cy f v s nu P k (dOff s bk x)) := by
  refine zSd.intro (by decide) (Nat.le_of_ble_eq_true rfl) (fun G X E => ?_)
  show G (w, 0, 0) (mW w cy f v s nu) [(0, .ref (w.2 (132))), (1, .int (x))] 0 []
  refine zr_aload_n X 0 dX9_off_0 rfl rfl ?_
  refine zr_iload_n X 1 dX9_off_1 rfl rfl ?_
  refine zr_cV X (As := [.int (x)]) (rest := []) (f' := mW w cy f v s nu) (st' := [.int (dPl s x bk 0)]) zc_X9_placeOf (132) (show 132 < w.1 by rw [hw]; omega) mW_132 (q9 := _) rfl rfl (k_placeOf hw hg hbk) ⟨Nat.le_of_ble_eq_true rfl, Nat.le_of_ble_eq_true rfl⟩ ⟨Nat.le_refl _, Nat.le_refl _⟩ rfl (Nat.le_of_ble_eq_true rfl) zm_4_33 rfl dX9_off_2 rfl ?_
  refine zr_istore_n X (ls' := [(2, .int (dPl s x bk 0)), (0, .ref (w.2 (132))), (1, .int (x))]) dX9_off_5 rfl (by decide) rfl ?_
  refine zr_iload_n X 0 dX9_off_6 rfl rfl ?_
  refine zr_if_ge X (tgt := 13) dX9_off_7 (by decide) (fun h1 => ?_) (fun h2 => ?_)
  · obtain ⟨hx9, hx8⟩ := dPl_k hbk h1
    refine zr_aload_n X 1 dX9_off_13 rfl rfl ?_
    refine zr_cV X (As := []) (rest := []) (f' := mW w cy (va_up f (134) (eInts cy 544 (dPa v P s k))) (dPv v k) s nu) (st' := []) zc_X9_changes (132) (show 132 < w.1 by rw [hw]; omega) mW_132 (q9 := _) rfl rfl (k_changes hw hp hr hk hk4) ⟨Nat.le_of_ble_eq_true rfl, Nat.le_of_ble_eq_true rfl⟩ ⟨Nat.le_refl _, Nat.le_refl _⟩ rfl (Nat.le_of_ble_eq_true rfl) zm_3_232 rfl dX9_off_14 rfl ?_
    refine zr_aload_n X 1 dX9_off_17 rfl rfl ?_
    refine zr_iload_n X 0 dX9_off_18 rfl rfl ?_
    refine zr_cV X (As := [.int (dPl s x bk 0)]) (rest := []) (f' := mW w cy (va_up f (134) (eInts cy 544 (dPa v P s k))) (dPv v k) (dGo s (dPl s x bk 0).toNatClampNeg (bk - 1)) nu) (st' := []) zc_X9_goes (132) (show 132 < w.1 by rw [hw]; omega) mW_132 (q9 := _) rfl rfl (k_goes (k := (dPl s x bk 0).toNatClampNeg) (b := bk - 1) hw hx9 (by rw [show bk - 1 + 1 = bk by omega]; exact hg) (by omega) (by omega)) ⟨Nat.le_of_ble_eq_true rfl, Nat.le_of_ble_eq_true rfl⟩ ⟨Nat.le_refl _, Nat.le_refl _⟩ rfl (Nat.le_of_ble_eq_true rfl) zm_4_42 rfl dX9_off_19 rfl ?_
    refine zr_aload_n X 1 dX9_off_22 rfl rfl ?_
    refine zr_get X zfd_RX9_7 (132) (show 132 < w.1 by rw [hw]; omega) mW_132 (v := .ref (w.2 (133))) rfl dX9_off_23 ?_
    refine zr_iconst X (v := 1) dX9_off_26 (by decide) ?_
    refine zr_iald X (133) (show 133 < w.1 by rw [hw]; omega) mW_133 (1) (rfl) (by decide) (by decide) dX9_off_27 ?_
    exact zret_i E rfl dX9_off_28 (by unfold dOff; rw [if_pos h1] <;> rfl) (by unfold dOff; rw [if_pos h1] <;> rfl)
  · refine zr_ldc X zm_3_230 dX9_off_10 ?_
    exact zret_i E rfl dX9_off_12 (by unfold dOff; rw [if_neg h2] <;> rfl) (by unfold dOff; rw [if_neg h2] <;> rfl)
theorem zlt31 (x : Int32) : x.toNatClampNeg < 2147483648 := by
  by_cases h : x < 0
  · have e : x.toNatClampNeg = 0 := by
      show x.toInt.toNat = 0
      have : x.toInt < 0 := Int32.lt_iff_toInt_lt.mp h
      omega
    omega
  · obtain ⟨j, hj, e⟩ := nI_of h
    rw [e, nI_clamp hj]
    exact hj
def dEnd (s : Nat → Int32) (x : Int32) : Int32 × Bool × (Nat → Int32) := if (zwin x 1 60) = 0 then (-1000001, false, s) else if (s 3 + x) ≤ 9999 then ((dEN s x.toNatClampNeg) 8 - s 8, true, dEN s x.toNatClampNeg) else (-1000003, false, s)
set_option maxHeartbeats 4000000 in
set_option maxRecDepth 100000 in
theorem k_mend {l : Launch} {D : va_G} {cy : Nat → ClassId} {w : zW} {f : zF} {v s nu : Nat → Int32} {P : Nat → Int32} {k : Nat} {x : Int32} (hw : w.1 = 139) (hp : f 134 = eInts cy 544 P) (hr : v 1 = 0 ∨ v 1 = 1) (hk : v 0 = nI k) (hk4 : k ≤ 4) (hG : ¬ (zwin x 1 60) = 0 → (s 3 + x) ≤ 9999 → ∀ i, i < x.toNatClampNeg → dGood (dEN s i)) : zSd l D cy yX9_end cX9_end 2 (some .int) 6 136 [.ref (w.2 (132)), .int (x)] w (mW w cy f v s nu) (some (.int ((dEnd s x).1))) (mQ w cy f v s nu P k (dEnd s x)) := by
  refine zSd.intro (by decide) (Nat.le_of_ble_eq_true rfl) (fun G X E => ?_)
  show G (w, 0, 0) (mW w cy f v s nu) [(0, .ref (w.2 (132))), (1, .int (x))] 0 []
  refine zr_iload_n X 1 dX9_end_0 rfl rfl ?_
  refine zr_iconst X (v := 1) dX9_end_1 (by decide) ?_
  refine zr_bipush X (v := 60) dX9_end_2 (by decide) ?_
  refine zr_cS X (As := [.int (x), .int (1), .int (60)]) (rest := []) (f' := mW w cy f v s nu) (st' := [.int (zwin x 1 60)]) zc_X9_in k_in ⟨Nat.le_of_ble_eq_true rfl, Nat.le_of_ble_eq_true rfl⟩ ⟨Nat.le_refl _, Nat.le_refl _⟩ rfl (Nat.le_of_ble_eq_true rfl) zm_3_227 rfl dX9_end_4 rfl ?_
  refine zr_if_ne X (tgt := 13) dX9_end_7 (by decide) (fun h1 => ?_) (fun h2 => ?_)
  · refine zr_aload_n X 0 dX9_end_13 rfl rfl ?_
    refine zr_get X zfd_RX9_7 (132) (show 132 < w.1 by rw [hw]; omega) mW_132 (v := .ref (w.2 (133))) rfl dX9_end_14 ?_
    refine zr_iconst X (v := 3) dX9_end_17 (by decide) ?_
    refine zr_iald X (133) (show 133 < w.1 by rw [hw]; omega) mW_133 (3) (rfl) (by decide) (by decide) dX9_end_18 ?_
    refine zr_iload_n X 1 dX9_end_19 rfl rfl ?_
    refine zr_iadd X dX9_end_20 ?_
    refine zr_sipush X (v := 9999) dX9_end_21 (by decide) ?_
    refine zr_icmp_le X (tgt := 30) dX9_end_24 (by decide) (fun h3 => ?_) (fun h4 => ?_)
    · have hx9 := zix1 (zwin_nn h1 (by decide))
      have hx8 := hG h1 h3
      refine zr_aload_n X 0 dX9_end_30 rfl rfl ?_
      refine zr_cV X (As := []) (rest := []) (f' := mW w cy (va_up f (134) (eInts cy 544 (dPa v P s k))) (dPv v k) s nu) (st' := []) zc_X9_changes (132) (show 132 < w.1 by rw [hw]; omega) mW_132 (q9 := _) rfl rfl (k_changes hw hp hr hk hk4) ⟨Nat.le_of_ble_eq_true rfl, Nat.le_of_ble_eq_true rfl⟩ ⟨Nat.le_refl _, Nat.le_refl _⟩ rfl (Nat.le_of_ble_eq_true rfl) zm_3_232 rfl dX9_end_31 rfl ?_
      refine zr_aload_n X 0 dX9_end_34 rfl rfl ?_
      refine zr_iload_n X 1 dX9_end_35 rfl rfl ?_
      refine zr_cV X (As := [.int (x)]) (rest := []) (f' := mW w cy (va_up f (134) (eInts cy 544 (dPa v P s k))) (dPv v k) (dEN s x.toNatClampNeg) nu) (st' := [.int ((dEN s x.toNatClampNeg) 8 - s 8)]) zc_X9_endsFor (132) (show 132 < w.1 by rw [hw]; omega) mW_132 (q9 := _) rfl rfl (k_endsFor hw hx9 (zlt31 _) hx8) ⟨Nat.le_of_ble_eq_true rfl, Nat.le_of_ble_eq_true rfl⟩ ⟨Nat.le_refl _, Nat.le_refl _⟩ rfl (Nat.le_of_ble_eq_true rfl) zm_4_50 rfl dX9_end_36 rfl ?_
      exact zret_i E rfl dX9_end_39 (by unfold dEnd; rw [if_neg h1, if_pos h3] <;> rfl) (by unfold dEnd; rw [if_neg h1, if_pos h3] <;> rfl)
    · refine zr_ldc X zm_3_231 dX9_end_27 ?_
      exact zret_i E rfl dX9_end_29 (by unfold dEnd; rw [if_neg h1, if_neg h4] <;> rfl) (by unfold dEnd; rw [if_neg h1, if_neg h4] <;> rfl)
  · refine zr_ldc X zm_3_230 dX9_end_10 ?_
    exact zret_i E rfl dX9_end_12 (by unfold dEnd; rw [if_pos h2] <;> rfl) (by unfold dEnd; rw [if_pos h2] <;> rfl)
def dMay (x y : Int32) : Int32 := if x = 0 then zwin y 1 9 else if x = 1 then zwin y 10 500 else if x = 2 then zwin y 0 15 else zwin y 0 90
set_option maxHeartbeats 4000000 in
set_option maxRecDepth 100000 in
theorem k_maySet {l : Launch} {D : va_G} {cy : Nat → ClassId} {w : zW} {f : zF} {x y : Int32}  : zSd l D cy yX9_maySet cX9_maySet 2 (some .boolean) 1 22 [.int (x), .int (y)] w f (some (.int (dMay x y))) f := by
  refine zSd.intro (by decide) (Nat.le_of_ble_eq_true rfl) (fun G X E => ?_)
  show G (w, 0, 0) f [(0, .int (x)), (1, .int (y))] 0 []
  refine zr_iload_n X 0 dX9_maySet_0 rfl rfl ?_
  by_cases h1 : x = 0
  · refine zr_tableIn X (off := 27) (tgt := 28) dX9_maySet_1 (by rw [h1]; decide) (by rw [h1]; decide) (by rw [h1]; decide) (by decide) ?_
    refine zr_iload_n X 1 dX9_maySet_28 rfl rfl ?_
    refine zr_iconst X (v := 1) dX9_maySet_29 (by decide) ?_
    refine zr_bipush X (v := 9) dX9_maySet_30 (by decide) ?_
    refine zr_cS X (As := [.int (y), .int (1), .int (9)]) (rest := []) (f' := f) (st' := [.int (zwin y 1 9)]) zc_X9_in k_in ⟨Nat.le_of_ble_eq_true rfl, Nat.le_of_ble_eq_true rfl⟩ ⟨Nat.le_refl _, Nat.le_refl _⟩ rfl (Nat.le_of_ble_eq_true rfl) zm_3_227 rfl dX9_maySet_32 rfl ?_
    exact zret_z E rfl (zwin_01) dX9_maySet_35 (by simp only [dMay, if_pos h1]) rfl
  by_cases h2 : x = 1
  · refine zr_tableIn X (off := 35) (tgt := 36) dX9_maySet_1 (by rw [h2]; decide) (by rw [h2]; decide) (by rw [h2]; decide) (by decide) ?_
    refine zr_iload_n X 1 dX9_maySet_36 rfl rfl ?_
    refine zr_bipush X (v := 10) dX9_maySet_37 (by decide) ?_
    refine zr_sipush X (v := 500) dX9_maySet_39 (by decide) ?_
    refine zr_cS X (As := [.int (y), .int (10), .int (500)]) (rest := []) (f' := f) (st' := [.int (zwin y 10 500)]) zc_X9_in k_in ⟨Nat.le_of_ble_eq_true rfl, Nat.le_of_ble_eq_true rfl⟩ ⟨Nat.le_refl _, Nat.le_refl _⟩ rfl (Nat.le_of_ble_eq_true rfl) zm_3_227 rfl dX9_maySet_42 rfl ?_
    exact zret_z E rfl (zwin_01) dX9_maySet_45 (by simp only [dMay, if_neg h1, if_pos h2]) rfl
  by_cases h3 : x = 2
  · refine zr_tableIn X (off := 45) (tgt := 46) dX9_maySet_1 (by rw [h3]; decide) (by rw [h3]; decide) (by rw [h3]; decide) (by decide) ?_
    refine zr_iload_n X 1 dX9_maySet_46 rfl rfl ?_
    refine zr_iconst X (v := 0) dX9_maySet_47 (by decide) ?_
    refine zr_bipush X (v := 15) dX9_maySet_48 (by decide) ?_
    refine zr_cS X (As := [.int (y), .int (0), .int (15)]) (rest := []) (f' := f) (st' := [.int (zwin y 0 15)]) zc_X9_in k_in ⟨Nat.le_of_ble_eq_true rfl, Nat.le_of_ble_eq_true rfl⟩ ⟨Nat.le_refl _, Nat.le_refl _⟩ rfl (Nat.le_of_ble_eq_true rfl) zm_3_227 rfl dX9_maySet_50 rfl ?_
    exact zret_z E rfl (zwin_01) dX9_maySet_53 (by simp only [dMay, if_neg h1, if_neg h2, if_pos h3]) rfl
  refine zr_tableOut X (tgt := 54) dX9_maySet_1 (by have e0 := lv_neT h1 (show (0 : Int32).toInt = 0 from by decide); have e1 := lv_neT h2 (show (1 : Int32).toInt = 1 from by decide); have e2 := lv_neT h3 (show (2 : Int32).toInt = 2 from by decide); omega) (by decide) ?_
  refine zr_iload_n X 1 dX9_maySet_54 rfl rfl ?_
  refine zr_iconst X (v := 0) dX9_maySet_55 (by decide) ?_
  refine zr_bipush X (v := 90) dX9_maySet_56 (by decide) ?_
  refine zr_cS X (As := [.int (y), .int (0), .int (90)]) (rest := []) (f' := f) (st' := [.int (zwin y 0 90)]) zc_X9_in k_in ⟨Nat.le_of_ble_eq_true rfl, Nat.le_of_ble_eq_true rfl⟩ ⟨Nat.le_refl _, Nat.le_refl _⟩ rfl (Nat.le_of_ble_eq_true rfl) zm_3_227 rfl dX9_maySet_58 rfl ?_
  exact zret_z E rfl (zwin_01) dX9_maySet_61 (by simp only [dMay, if_neg h1, if_neg h2, if_neg h3]) rfl
def dSet (s : Nat → Int32) (x y : Int32) : Int32 × Bool × (Nat → Int32) := if (zwin x 0 3) = 0 then (-1000001, false, s) else if (dMay x y) = 0 then (-1000001, false, s) else (s (15 + x.toNatClampNeg), true, upd s (15 + x.toNatClampNeg) y)
set_option maxHeartbeats 4000000 in
set_option maxRecDepth 100000 in
theorem k_mset {l : Launch} {D : va_G} {cy : Nat → ClassId} {w : zW} {f : zF} {v s nu : Nat → Int32} {P : Nat → Int32} {k : Nat} {x : Int32} {y : Int32} (hw : w.1 = 139) (hp : f 134 = eInts cy 544 P) (hr : v 1 = 0 ∨ v 1 = 1) (hk : v 0 = nI k) (hk4 : k ≤ 4)  : zSd l D cy yX9_set cX9_set 4 (some .int) 2 43 [.ref (w.2 (132)), .int (x), .int (y)] w (mW w cy f v s nu) (some (.int ((dSet s x y).1))) (mQ w cy f v s nu P k (dSet s x y)) := by
  refine zSd.intro (by decide) (Nat.le_of_ble_eq_true rfl) (fun G X E => ?_)
  show G (w, 0, 0) (mW w cy f v s nu) [(0, .ref (w.2 (132))), (1, .int (x)), (2, .int (y))] 0 []
  refine zr_iload_n X 1 dX9_set_0 rfl rfl ?_
  refine zr_iconst X (v := 0) dX9_set_1 (by decide) ?_
  refine zr_iconst X (v := 3) dX9_set_2 (by decide) ?_
  refine zr_cS X (As := [.int (x), .int (0), .int (3)]) (rest := []) (f' := mW w cy f v s nu) (st' := [.int (zwin x 0 3)]) zc_X9_in k_in ⟨Nat.le_of_ble_eq_true rfl, Nat.le_of_ble_eq_true rfl⟩ ⟨Nat.le_refl _, Nat.le_refl _⟩ rfl (Nat.le_of_ble_eq_true rfl) zm_3_227 rfl dX9_set_3 rfl ?_
  refine zr_if_eq X (tgt := 17) dX9_set_6 (by decide) (fun h1 => ?_) (fun h2 => ?_)
  · refine zr_ldc X zm_3_230 dX9_set_17 ?_
    exact zret_i E rfl dX9_set_19 (by unfold dSet; rw [if_pos h1] <;> rfl) (by unfold dSet; rw [if_pos h1] <;> rfl)
  · refine zr_iload_n X 1 dX9_set_9 rfl rfl ?_
    refine zr_iload_n X 2 dX9_set_10 rfl rfl ?_
    refine zr_cS X (As := [.int (x), .int (y)]) (rest := []) (f' := mW w cy f v s nu) (st' := [.int (dMay x y)]) zc_X9_maySet k_maySet ⟨Nat.le_of_ble_eq_true rfl, Nat.le_of_ble_eq_true rfl⟩ ⟨Nat.le_refl _, Nat.le_refl _⟩ rfl (Nat.le_of_ble_eq_true rfl) zm_4_104 rfl dX9_set_11 rfl ?_
    refine zr_if_ne X (tgt := 20) dX9_set_14 (by decide) (fun h3 => ?_) (fun h4 => ?_)
    · have hx9 := zwin_nn h2 (by decide)
      have hx8 := zwin_hi h2 (by decide) (show (3 : Int32) = nI 3 from rfl) (by decide)
      refine zr_aload_n X 0 dX9_set_20 rfl rfl ?_
      refine zr_cV X (As := []) (rest := []) (f' := mW w cy (va_up f (134) (eInts cy 544 (dPa v P s k))) (dPv v k) s nu) (st' := []) zc_X9_changes (132) (show 132 < w.1 by rw [hw]; omega) mW_132 (q9 := _) rfl rfl (k_changes hw hp hr hk hk4) ⟨Nat.le_of_ble_eq_true rfl, Nat.le_of_ble_eq_true rfl⟩ ⟨Nat.le_refl _, Nat.le_refl _⟩ rfl (Nat.le_of_ble_eq_true rfl) zm_3_232 rfl dX9_set_21 rfl ?_
      refine zr_aload_n X 0 dX9_set_24 rfl rfl ?_
      refine zr_get X zfd_RX9_7 (132) (show 132 < w.1 by rw [hw]; omega) mW_132 (v := .ref (w.2 (133))) rfl dX9_set_25 ?_
      refine zr_bipush X (v := 15) dX9_set_28 (by decide) ?_
      refine zr_iload_n X 1 dX9_set_30 rfl rfl ?_
      refine zr_iadd X dX9_set_31 ?_
      refine zr_iald X (133) (show 133 < w.1 by rw [hw]; omega) mW_133 (15 + x.toNatClampNeg) (zia (c := 15) hx9) (by omega) (by decide) dX9_set_32 ?_
      refine zr_istore_n X (ls' := [(3, .int (s (15 + x.toNatClampNeg))), (0, .ref (w.2 (132))), (1, .int (x)), (2, .int (y))]) dX9_set_33 rfl (by decide) rfl ?_
      refine zr_aload_n X 1 dX9_set_34 rfl rfl ?_
      refine zr_get X zfd_RX9_7 (132) (show 132 < w.1 by rw [hw]; omega) mW_132 (v := .ref (w.2 (133))) rfl dX9_set_35 ?_
      refine zr_bipush X (v := 15) dX9_set_38 (by decide) ?_
      refine zr_iload_n X 2 dX9_set_40 rfl rfl ?_
      refine zr_iadd X dX9_set_41 ?_
      refine zr_iload_n X 3 dX9_set_42 rfl rfl ?_
      refine zr_iast X (133) (show 133 < w.1 by rw [hw]; omega) mW_133 (15 + x.toNatClampNeg) (zia (c := 15) hx9) (by omega) (by decide) dX9_set_43 ?_
      refine zcw (f2 := mW w cy (va_up f (134) (eInts cy 544 (dPa v P s k))) (dPv v k) (upd s (15 + x.toNatClampNeg) y) nu) mu_133 ?_
      refine zr_iload_n X 0 dX9_set_44 rfl rfl ?_
      exact zret_i E rfl dX9_set_45 (by unfold dSet; rw [if_neg h2, if_neg h3] <;> rfl) (by unfold dSet; rw [if_neg h2, if_neg h3] <;> rfl)
    · refine zr_ldc X zm_3_230 dX9_set_17 ?_
      exact zret_i E rfl dX9_set_19 (by unfold dSet; rw [if_neg h2, if_pos h4] <;> rfl) (by unfold dSet; rw [if_neg h2, if_pos h4] <;> rfl)
