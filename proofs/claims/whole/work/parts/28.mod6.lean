theorem nI_ltn {x : Int32} {n j : Nat} (hx : x = nI j) (hn : n < 2147483648) (hj : j < 2147483648) (h : ¬ nI n ≤ x) : j < n := by
  rw [hx] at h
  rcases Nat.lt_or_ge j n with q | q
  · exact q
  · exact absurd ((nI_leI hn hj).mpr q) h
def dMuleOf (s : Nat → Int32) (x y : Int32) : Int32 := if (dIs s x) = 0 then (-1000001) else if (zwin y 0 7) = 0 then (-1000001) else if 5 ≤ y then s (19 + 9 * x.toNatClampNeg + (y.toNatClampNeg + 1)) else s (19 + 9 * x.toNatClampNeg + y.toNatClampNeg)
set_option maxHeartbeats 4000000 in
set_option maxRecDepth 100000 in
theorem k_mmuleOf {l : Launch} {D : va_G} {cy : Nat → ClassId} {w : zW} {f : zF} {v s nu : Nat → Int32} {mc : Nat} {x : Int32} {y : Int32} (hw : w.1 = 139) (hm : s 0 = nI mc) (hmc : mc ≤ 4) : zSd l D cy yX9_muleOf cX9_muleOf 3 (some .int) 1 22 [.ref (w.2 (132)), .int (x), .int (y)] w (mW w cy f v s nu) (some (.int (dMuleOf s x y))) (mW w cy f v s nu) := by
  refine zSd.intro (by decide) (Nat.le_of_ble_eq_true rfl) (fun G X E => ?_)
  show G (w, 0, 0) (mW w cy f v s nu) [(0, .ref (w.2 (132))), (1, .int (x)), (2, .int (y))] 0 []
  refine zr_aload_n X 0 dX9_muleOf_0 rfl rfl ?_
  refine zr_iload_n X 1 dX9_muleOf_1 rfl rfl ?_
  refine zr_cV X (As := [.int (x)]) (rest := []) (f' := mW w cy f v s nu) (st' := [.int (dIs s x)]) zc_X9_isMule (132) (show 132 < w.1 by rw [hw]; omega) mW_132 (q9 := _) rfl rfl (k_isMule hw) ⟨Nat.le_of_ble_eq_true rfl, Nat.le_of_ble_eq_true rfl⟩ ⟨Nat.le_refl _, Nat.le_refl _⟩ rfl (Nat.le_of_ble_eq_true rfl) zm_4_4 rfl dX9_muleOf_2 rfl ?_
  refine zr_if_eq X (tgt := 18) dX9_muleOf_5 (by decide) (fun h1 => ?_) (fun h2 => ?_)
  · refine zr_ldc X zm_3_230 dX9_muleOf_18 ?_
    exact zret_i E rfl dX9_muleOf_20 (by unfold dMuleOf; rw [if_pos h1]) rfl
  · refine zr_iload_n X 2 dX9_muleOf_8 rfl rfl ?_
    refine zr_iconst X (v := 0) dX9_muleOf_9 (by decide) ?_
    refine zr_bipush X (v := 7) dX9_muleOf_10 (by decide) ?_
    refine zr_cS X (As := [.int (y), .int (0), .int (7)]) (rest := []) (f' := mW w cy f v s nu) (st' := [.int (zwin y 0 7)]) zc_X9_in k_in ⟨Nat.le_of_ble_eq_true rfl, Nat.le_of_ble_eq_true rfl⟩ ⟨Nat.le_refl _, Nat.le_refl _⟩ rfl (Nat.le_of_ble_eq_true rfl) zm_3_227 rfl dX9_muleOf_12 rfl ?_
    refine zr_if_ne X (tgt := 21) dX9_muleOf_15 (by decide) (fun h3 => ?_) (fun h4 => ?_)
    · obtain ⟨hx9, hx8⟩ := dIs_x h2 hm hmc
      have hx7 : x.toNatClampNeg < 4 := by omega
      have hy9 := zix1 (zwin_nn h3 (by decide))
      have hy8 := zwin_hi h3 (by decide) (show (7 : Int32) = nI 7 from rfl) (by decide)
      refine zr_aload_n X 0 dX9_muleOf_21 rfl rfl ?_
      refine zr_iload_n X 1 dX9_muleOf_22 rfl rfl ?_
      refine zr_iload_n X 2 dX9_muleOf_23 rfl rfl ?_
      refine zr_iconst X (v := 5) dX9_muleOf_24 (by decide) ?_
      refine zr_icmp_ge X (tgt := 32) dX9_muleOf_25 (by decide) (fun h5 => ?_) (fun h6 => ?_)
      · refine zr_iload_n X 2 dX9_muleOf_32 rfl rfl ?_
        refine zr_iconst X (v := 1) dX9_muleOf_33 (by decide) ?_
        refine zr_iadd X dX9_muleOf_34 ?_
        refine zr_cV X (As := [.int (x), .int (y + 1)]) (rest := []) (f' := mW w cy f v s nu) (st' := [.int (s (19 + 9 * x.toNatClampNeg + (y.toNatClampNeg + 1)))]) zc_X9_of (132) (show 132 < w.1 by rw [hw]; omega) mW_132 (q9 := _) rfl rfl (k_of (k := x.toNatClampNeg) (i := y.toNatClampNeg + 1) hw hx9 ((congrArg (fun z => z + 1) hy9).trans (nI_1 _)) (by omega) (by omega)) ⟨Nat.le_of_ble_eq_true rfl, Nat.le_of_ble_eq_true rfl⟩ ⟨Nat.le_refl _, Nat.le_refl _⟩ rfl (Nat.le_of_ble_eq_true rfl) zm_4_12 rfl dX9_muleOf_35 rfl ?_
        exact zret_i E rfl dX9_muleOf_38 (by unfold dMuleOf; rw [if_neg h2, if_neg h3, if_pos h5]) rfl
      · refine zr_iload_n X 2 dX9_muleOf_28 rfl rfl ?_
        refine zr_goto X (tgt := 35) dX9_muleOf_29 (by decide) ?_
        refine zr_cV X (As := [.int (x), .int (y)]) (rest := []) (f' := mW w cy f v s nu) (st' := [.int (s (19 + 9 * x.toNatClampNeg + y.toNatClampNeg))]) zc_X9_of (132) (show 132 < w.1 by rw [hw]; omega) mW_132 (q9 := _) rfl rfl (k_of (k := x.toNatClampNeg) (i := y.toNatClampNeg) hw hx9 hy9 (by omega) (by omega)) ⟨Nat.le_of_ble_eq_true rfl, Nat.le_of_ble_eq_true rfl⟩ ⟨Nat.le_refl _, Nat.le_refl _⟩ rfl (Nat.le_of_ble_eq_true rfl) zm_4_12 rfl dX9_muleOf_35 rfl ?_
        exact zret_i E rfl dX9_muleOf_38 (by unfold dMuleOf; rw [if_neg h2, if_neg h3, if_neg h6]) rfl
    · refine zr_ldc X zm_3_230 dX9_muleOf_18 ?_
      exact zret_i E rfl dX9_muleOf_20 (by unfold dMuleOf; rw [if_neg h2, if_pos h4]) rfl
def dGrp (s : Nat → Int32) (k : Nat) (y : Int32) : Int32 := if y = 3 then (s (55 + 6 * k + 1) + 1) / 2 else if y = 4 then (if zwin (s 3 - s (55 + 6 * k + 2)) 0 (s (55 + 6 * k + 3) - 1) = 0 then 0 else 1) else if y = 5 then s (55 + 6 * k + 4) else if y = 6 then s (55 + 6 * k + 5) else s (55 + 6 * k + (y.toNatClampNeg + 1))
def dGroupOf (s : Nat → Int32) (bk : Nat) (x y : Int32) : Int32 := if dPl s x bk 0 < 0 then (-1000001) else if zwin y 0 6 = 0 then (-1000001) else dGrp s (dPl s x bk 0).toNatClampNeg y
set_option maxHeartbeats 4000000 in
set_option maxRecDepth 100000 in
theorem k_mgroupOf {l : Launch} {D : va_G} {cy : Nat → ClassId} {w : zW} {f : zF} {v s nu : Nat → Int32} {bk : Nat} {x : Int32} {y : Int32} (hw : w.1 = 139) (hg : s 1 = nI bk) (hbk : bk ≤ 10) : zSd l D cy yX9_groupOf cX9_groupOf 4 (some .int) 2 44 [.ref (w.2 (132)), .int (x), .int (y)] w (mW w cy f v s nu) (some (.int (dGroupOf s bk x y))) (mW w cy f v s nu) := by
  refine zSd.intro (by decide) (Nat.le_of_ble_eq_true rfl) (fun G X E => ?_)
  show G (w, 0, 0) (mW w cy f v s nu) [(0, .ref (w.2 (132))), (1, .int (x)), (2, .int (y))] 0 []
  refine zr_aload_n X 0 dX9_groupOf_0 rfl rfl ?_
  refine zr_iload_n X 1 dX9_groupOf_1 rfl rfl ?_
  refine zr_cV X (As := [.int (x)]) (rest := []) (f' := mW w cy f v s nu) (st' := [.int (dPl s x bk 0)]) zc_X9_placeOf (132) (show 132 < w.1 by rw [hw]; omega) mW_132 (q9 := _) rfl rfl (k_placeOf hw hg hbk) ⟨Nat.le_of_ble_eq_true rfl, Nat.le_of_ble_eq_true rfl⟩ ⟨Nat.le_refl _, Nat.le_refl _⟩ rfl (Nat.le_of_ble_eq_true rfl) zm_4_33 rfl dX9_groupOf_2 rfl ?_
  refine zr_istore_n X (ls' := [(3, .int (dPl s x bk 0)), (0, .ref (w.2 (132))), (1, .int (x)), (2, .int (y))]) dX9_groupOf_5 rfl (by decide) rfl ?_
  refine zr_iload_n X 0 dX9_groupOf_6 rfl rfl ?_
  refine zr_if_lt X (tgt := 20) dX9_groupOf_7 (by decide) (fun h1 => ?_) (fun h2 => ?_)
  · refine zr_ldc X zm_3_230 dX9_groupOf_20 ?_
    exact zret_i E rfl dX9_groupOf_22 (by unfold dGroupOf; rw [if_pos h1]) rfl
  · refine zr_iload_n X 3 dX9_groupOf_10 rfl rfl ?_
    refine zr_iconst X (v := 0) dX9_groupOf_11 (by decide) ?_
    refine zr_bipush X (v := 6) dX9_groupOf_12 (by decide) ?_
    refine zr_cS X (As := [.int (y), .int (0), .int (6)]) (rest := []) (f' := mW w cy f v s nu) (st' := [.int (zwin y 0 6)]) zc_X9_in k_in ⟨Nat.le_of_ble_eq_true rfl, Nat.le_of_ble_eq_true rfl⟩ ⟨Nat.le_refl _, Nat.le_refl _⟩ rfl (Nat.le_of_ble_eq_true rfl) zm_3_227 rfl dX9_groupOf_14 rfl ?_
    refine zr_if_ne X (tgt := 23) dX9_groupOf_17 (by decide) (fun h3 => ?_) (fun h4 => ?_)
    · obtain ⟨hx9, hx8⟩ := dPl_k hbk (Int32.not_lt.mp h2)
      have hy9 := zix1 (zwin_nn h3 (by decide))
      have hy8 := zwin_hi h3 (by decide) (show (6 : Int32) = nI 6 from rfl) (by decide)
      refine zr_iload_n X 3 dX9_groupOf_23 rfl rfl ?_
      by_cases h5 : y = 3
      · refine zr_tableIn X (off := 32) (tgt := 56) dX9_groupOf_24 (by rw [h5]; decide) (by rw [h5]; decide) (by rw [h5]; decide) (by decide) ?_
        refine zr_aload_n X 1 dX9_groupOf_56 rfl rfl ?_
        refine zr_iload_n X 0 dX9_groupOf_57 rfl rfl ?_
        refine zr_iconst X (v := 1) dX9_groupOf_58 (by decide) ?_
        refine zr_cV X (As := [.int (dPl s x bk 0), .int (1)]) (rest := []) (f' := mW w cy f v s nu) (st' := [.int (s (55 + 6 * (dPl s x bk 0).toNatClampNeg + 1))]) zc_X9_ofGroup (132) (show 132 < w.1 by rw [hw]; omega) mW_132 (q9 := _) rfl rfl (k_ofGroup (k := (dPl s x bk 0).toNatClampNeg) (i := 1) hw hx9 rfl (by omega) (by omega)) ⟨Nat.le_of_ble_eq_true rfl, Nat.le_of_ble_eq_true rfl⟩ ⟨Nat.le_refl _, Nat.le_refl _⟩ rfl (Nat.le_of_ble_eq_true rfl) zm_4_37 rfl dX9_groupOf_59 rfl ?_
        have kwants9 := k_wants (l := l) (D := D) (cy := cy) (w := w) (f := f) (v := v) (s := s) (nu := nu) (x := s (55 + 6 * (dPl s x bk 0).toNatClampNeg + 1)) hw
        refine zr_cS X (As := [.int (s (55 + 6 * (dPl s x bk 0).toNatClampNeg + 1))]) (rest := []) (f' := mW w cy f v s nu) (st' := [.int (((s (55 + 6 * (dPl s x bk 0).toNatClampNeg + 1)) + 1) / 2)]) zc_X9_wants kwants9 ⟨Nat.le_of_ble_eq_true rfl, Nat.le_of_ble_eq_true rfl⟩ ⟨Nat.le_refl _, Nat.le_refl _⟩ rfl (Nat.le_of_ble_eq_true rfl) zm_4_89 rfl dX9_groupOf_62 rfl ?_
        exact zret_i E rfl dX9_groupOf_65 (by unfold dGroupOf dGrp; rw [if_neg h2, if_neg h3, if_pos h5]) rfl
      by_cases h6 : y = 4
      · refine zr_tableIn X (off := 42) (tgt := 66) dX9_groupOf_24 (by rw [h6]; decide) (by rw [h6]; decide) (by rw [h6]; decide) (by decide) ?_
        refine zr_aload_n X 1 dX9_groupOf_66 rfl rfl ?_
        refine zr_iload_n X 0 dX9_groupOf_67 rfl rfl ?_
        refine zr_aload_n X 1 dX9_groupOf_68 rfl rfl ?_
        refine zr_get X zfd_RX9_7 (132) (show 132 < w.1 by rw [hw]; omega) mW_132 (v := .ref (w.2 (133))) rfl dX9_groupOf_69 ?_
        refine zr_iconst X (v := 3) dX9_groupOf_72 (by decide) ?_
        refine zr_iald X (133) (show 133 < w.1 by rw [hw]; omega) mW_133 (3) (rfl) (by decide) (by decide) dX9_groupOf_73 ?_
        refine zr_cV X (As := [.int (dPl s x bk 0), .int (s 3)]) (rest := []) (f' := mW w cy f v s nu) (st' := [.int (zwin (s 3 - s (55 + 6 * (dPl s x bk 0).toNatClampNeg + 2)) 0 (s (55 + 6 * (dPl s x bk 0).toNatClampNeg + 3) - 1))]) zc_X9_isThere (132) (show 132 < w.1 by rw [hw]; omega) mW_132 (q9 := _) rfl rfl (k_isThere (k := (dPl s x bk 0).toNatClampNeg) hw hx9 (by omega)) ⟨Nat.le_of_ble_eq_true rfl, Nat.le_of_ble_eq_true rfl⟩ ⟨Nat.le_refl _, Nat.le_refl _⟩ rfl (Nat.le_of_ble_eq_true rfl) zm_4_81 rfl dX9_groupOf_74 rfl ?_
        refine zr_if_eq X (tgt := 84) dX9_groupOf_77 (by decide) (fun h7 => ?_) (fun h8 => ?_)
        · refine zr_iconst X (v := 0) dX9_groupOf_84 (by decide) ?_
          exact zret_i E rfl dX9_groupOf_85 (by unfold dGroupOf dGrp; rw [if_neg h2, if_neg h3, if_neg h5, if_pos h6, if_pos h7]) rfl
        · refine zr_iconst X (v := 1) dX9_groupOf_80 (by decide) ?_
          refine zr_goto X (tgt := 85) dX9_groupOf_81 (by decide) ?_
          exact zret_i E rfl dX9_groupOf_85 (by unfold dGroupOf dGrp; rw [if_neg h2, if_neg h3, if_neg h5, if_pos h6, if_neg h8]) rfl
      by_cases h9 : y = 5
      · refine zr_tableIn X (off := 62) (tgt := 86) dX9_groupOf_24 (by rw [h9]; decide) (by rw [h9]; decide) (by rw [h9]; decide) (by decide) ?_
        refine zr_aload_n X 1 dX9_groupOf_86 rfl rfl ?_
        refine zr_iload_n X 0 dX9_groupOf_87 rfl rfl ?_
        refine zr_iload_n X 3 dX9_groupOf_88 rfl rfl ?_
        refine zr_iconst X (v := 1) dX9_groupOf_89 (by decide) ?_
        refine zr_isub X dX9_groupOf_90 ?_
        refine zr_cV X (As := [.int (dPl s x bk 0), .int (y - 1)]) (rest := []) (f' := mW w cy f v s nu) (st' := [.int (s (55 + 6 * (dPl s x bk 0).toNatClampNeg + 4))]) zc_X9_ofGroup (132) (show 132 < w.1 by rw [hw]; omega) mW_132 (q9 := _) rfl rfl (k_ofGroup (k := (dPl s x bk 0).toNatClampNeg) (i := 4) hw hx9 (by rw [h9]; decide) (by omega) (by omega)) ⟨Nat.le_of_ble_eq_true rfl, Nat.le_of_ble_eq_true rfl⟩ ⟨Nat.le_refl _, Nat.le_refl _⟩ rfl (Nat.le_of_ble_eq_true rfl) zm_4_37 rfl dX9_groupOf_91 rfl ?_
        exact zret_i E rfl dX9_groupOf_94 (by unfold dGroupOf dGrp; rw [if_neg h2, if_neg h3, if_neg h5, if_neg h6, if_pos h9]) rfl
      by_cases h10 : y = 6
      · refine zr_tableIn X (off := 62) (tgt := 86) dX9_groupOf_24 (by rw [h10]; decide) (by rw [h10]; decide) (by rw [h10]; decide) (by decide) ?_
        refine zr_aload_n X 1 dX9_groupOf_86 rfl rfl ?_
        refine zr_iload_n X 0 dX9_groupOf_87 rfl rfl ?_
        refine zr_iload_n X 3 dX9_groupOf_88 rfl rfl ?_
        refine zr_iconst X (v := 1) dX9_groupOf_89 (by decide) ?_
        refine zr_isub X dX9_groupOf_90 ?_
        refine zr_cV X (As := [.int (dPl s x bk 0), .int (y - 1)]) (rest := []) (f' := mW w cy f v s nu) (st' := [.int (s (55 + 6 * (dPl s x bk 0).toNatClampNeg + 5))]) zc_X9_ofGroup (132) (show 132 < w.1 by rw [hw]; omega) mW_132 (q9 := _) rfl rfl (k_ofGroup (k := (dPl s x bk 0).toNatClampNeg) (i := 5) hw hx9 (by rw [h10]; decide) (by omega) (by omega)) ⟨Nat.le_of_ble_eq_true rfl, Nat.le_of_ble_eq_true rfl⟩ ⟨Nat.le_refl _, Nat.le_refl _⟩ rfl (Nat.le_of_ble_eq_true rfl) zm_4_37 rfl dX9_groupOf_91 rfl ?_
        exact zret_i E rfl dX9_groupOf_94 (by unfold dGroupOf dGrp; rw [if_neg h2, if_neg h3, if_neg h5, if_neg h6, if_neg h9, if_pos h10]) rfl
      refine zr_tableOut X (tgt := 95) dX9_groupOf_24 (by have e0 := lv_neT h5 (show (3 : Int32).toInt = 3 from by decide); have e1 := lv_neT h6 (show (4 : Int32).toInt = 4 from by decide); have e2 := lv_neT h9 (show (5 : Int32).toInt = 5 from by decide); have e3 := lv_neT h10 (show (6 : Int32).toInt = 6 from by decide); omega) (by decide) ?_
      refine zr_aload_n X 1 dX9_groupOf_95 rfl rfl ?_
      refine zr_iload_n X 0 dX9_groupOf_96 rfl rfl ?_
      refine zr_iload_n X 3 dX9_groupOf_97 rfl rfl ?_
      refine zr_iconst X (v := 1) dX9_groupOf_98 (by decide) ?_
      refine zr_iadd X dX9_groupOf_99 ?_
      have hz3 : y.toNatClampNeg ≠ 3 := fun q => h5 (hy9.trans (congrArg nI q))
      have hz4 : y.toNatClampNeg ≠ 4 := fun q => h6 (hy9.trans (congrArg nI q))
      have hz5 : y.toNatClampNeg ≠ 5 := fun q => h9 (hy9.trans (congrArg nI q))
      have hz6 : y.toNatClampNeg ≠ 6 := fun q => h10 (hy9.trans (congrArg nI q))
      refine zr_cV X (As := [.int (dPl s x bk 0), .int (y + 1)]) (rest := []) (f' := mW w cy f v s nu) (st' := [.int (s (55 + 6 * (dPl s x bk 0).toNatClampNeg + (y.toNatClampNeg + 1)))]) zc_X9_ofGroup (132) (show 132 < w.1 by rw [hw]; omega) mW_132 (q9 := _) rfl rfl (k_ofGroup (k := (dPl s x bk 0).toNatClampNeg) (i := y.toNatClampNeg + 1) hw hx9 ((congrArg (fun z => z + 1) hy9).trans (nI_1 _)) (by omega) (by omega)) ⟨Nat.le_of_ble_eq_true rfl, Nat.le_of_ble_eq_true rfl⟩ ⟨Nat.le_refl _, Nat.le_refl _⟩ rfl (Nat.le_of_ble_eq_true rfl) zm_4_37 rfl dX9_groupOf_100 rfl ?_
      exact zret_i E rfl dX9_groupOf_103 (by unfold dGroupOf dGrp; rw [if_neg h2, if_neg h3, if_neg h5, if_neg h6, if_neg h9, if_neg h10]) rfl
    · refine zr_ldc X zm_3_230 dX9_groupOf_20 ?_
      exact zret_i E rfl dX9_groupOf_22 (by unfold dGroupOf; rw [if_neg h2, if_pos h4]) rfl
def dNumber (s : Nat → Int32) (x : Int32) : Int32 := if 0 ≤ x then (if s 1 ≤ x then (-1000004) else s (55 + 6 * x.toNatClampNeg + 0)) else (-1000001)
set_option maxHeartbeats 4000000 in
set_option maxRecDepth 100000 in
theorem k_mnumber {l : Launch} {D : va_G} {cy : Nat → ClassId} {w : zW} {f : zF} {v s nu : Nat → Int32} {bk : Nat} {x : Int32} (hw : w.1 = 139) (hg : s 1 = nI bk) (hbk : bk ≤ 10) : zSd l D cy yX9_number cX9_number 2 (some .int) 1 22 [.ref (w.2 (132)), .int (x)] w (mW w cy f v s nu) (some (.int (dNumber s x))) (mW w cy f v s nu) := by
  refine zSd.intro (by decide) (Nat.le_of_ble_eq_true rfl) (fun G X E => ?_)
  show G (w, 0, 0) (mW w cy f v s nu) [(0, .ref (w.2 (132))), (1, .int (x))] 0 []
  refine zr_iload_n X 1 dX9_number_0 rfl rfl ?_
  refine zr_if_ge X (tgt := 7) dX9_number_1 (by decide) (fun h1 => ?_) (fun h2 => ?_)
  · refine zr_iload_n X 1 dX9_number_7 rfl rfl ?_
    refine zr_aload_n X 0 dX9_number_8 rfl rfl ?_
    refine zr_get X zfd_RX9_7 (132) (show 132 < w.1 by rw [hw]; omega) mW_132 (v := .ref (w.2 (133))) rfl dX9_number_9 ?_
    refine zr_iconst X (v := 1) dX9_number_12 (by decide) ?_
    refine zr_iald X (133) (show 133 < w.1 by rw [hw]; omega) mW_133 (1) (rfl) (by decide) (by decide) dX9_number_13 ?_
    refine zr_icmp_ge X (tgt := 26) dX9_number_14 (by decide) (fun h3 => ?_) (fun h4 => ?_)
    · refine zr_ldc X zm_4_41 dX9_number_26 ?_
      exact zret_i E rfl dX9_number_28 (by unfold dNumber; rw [if_pos h1, if_pos h3]) rfl
    · have hx9 := zix1 (Int32.not_lt.mpr h1)
      have hx8 : x.toNatClampNeg < bk := zix2 (Int32.not_lt.mpr h1) (by omega) (by rw [← hg]; exact h4)
      refine zr_aload_n X 0 dX9_number_17 rfl rfl ?_
      refine zr_iload_n X 1 dX9_number_18 rfl rfl ?_
      refine zr_iconst X (v := 0) dX9_number_19 (by decide) ?_
      refine zr_cV X (As := [.int (x), .int (0)]) (rest := []) (f' := mW w cy f v s nu) (st' := [.int (s (55 + 6 * x.toNatClampNeg + 0))]) zc_X9_ofGroup (132) (show 132 < w.1 by rw [hw]; omega) mW_132 (q9 := _) rfl rfl (k_ofGroup (k := x.toNatClampNeg) (i := 0) hw hx9 rfl (by omega) (by omega)) ⟨Nat.le_of_ble_eq_true rfl, Nat.le_of_ble_eq_true rfl⟩ ⟨Nat.le_refl _, Nat.le_refl _⟩ rfl (Nat.le_of_ble_eq_true rfl) zm_4_37 rfl dX9_number_20 rfl ?_
      refine zr_goto X (tgt := 28) dX9_number_23 (by decide) ?_
      exact zret_i E rfl dX9_number_28 (by unfold dNumber; rw [if_pos h1, if_neg h4]) rfl
  · refine zr_ldc X zm_3_230 dX9_number_4 ?_
    exact zret_i E rfl dX9_number_6 (by unfold dNumber; rw [if_neg h2]) rfl
def dLoaves (s : Nat → Int32) (x : Int32) : Int32 := if zwin x 0 20 = 0 then (-1000001) else s (115 + x.toNatClampNeg)
set_option maxHeartbeats 4000000 in
set_option maxRecDepth 100000 in
theorem k_mloaves {l : Launch} {D : va_G} {cy : Nat → ClassId} {w : zW} {f : zF} {v s nu : Nat → Int32} {x : Int32} (hw : w.1 = 139)  : zSd l D cy yX9_loaves cX9_loaves 2 (some .int) 1 22 [.ref (w.2 (132)), .int (x)] w (mW w cy f v s nu) (some (.int (dLoaves s x))) (mW w cy f v s nu) := by
  refine zSd.intro (by decide) (Nat.le_of_ble_eq_true rfl) (fun G X E => ?_)
  show G (w, 0, 0) (mW w cy f v s nu) [(0, .ref (w.2 (132))), (1, .int (x))] 0 []
  refine zr_iload_n X 1 dX9_loaves_0 rfl rfl ?_
  refine zr_iconst X (v := 0) dX9_loaves_1 (by decide) ?_
  refine zr_bipush X (v := 20) dX9_loaves_2 (by decide) ?_
  refine zr_cS X (As := [.int (x), .int (0), .int (20)]) (rest := []) (f' := mW w cy f v s nu) (st' := [.int (zwin x 0 20)]) zc_X9_in k_in ⟨Nat.le_of_ble_eq_true rfl, Nat.le_of_ble_eq_true rfl⟩ ⟨Nat.le_refl _, Nat.le_refl _⟩ rfl (Nat.le_of_ble_eq_true rfl) zm_3_227 rfl dX9_loaves_4 rfl ?_
  refine zr_if_eq X (tgt := 22) dX9_loaves_7 (by decide) (fun h1 => ?_) (fun h2 => ?_)
  · refine zr_ldc X zm_3_230 dX9_loaves_22 ?_
    exact zret_i E rfl dX9_loaves_24 (by unfold dLoaves; rw [if_pos h1]) rfl
  · have hx9 := zwin_nn h2 (by decide)
    have hx8 := zwin_hi h2 (by decide) (show (20 : Int32) = nI 20 from rfl) (by decide)
    refine zr_aload_n X 0 dX9_loaves_10 rfl rfl ?_
    refine zr_get X zfd_RX9_7 (132) (show 132 < w.1 by rw [hw]; omega) mW_132 (v := .ref (w.2 (133))) rfl dX9_loaves_11 ?_
    refine zr_bipush X (v := 115) dX9_loaves_14 (by decide) ?_
    refine zr_iload_n X 1 dX9_loaves_16 rfl rfl ?_
    refine zr_iadd X dX9_loaves_17 ?_
    refine zr_iald X (133) (show 133 < w.1 by rw [hw]; omega) mW_133 (115 + x.toNatClampNeg) (zia (c := 115) hx9) (by omega) (by decide) dX9_loaves_18 ?_
    refine zr_goto X (tgt := 24) dX9_loaves_19 (by decide) ?_
    exact zret_i E rfl dX9_loaves_24 (by unfold dLoaves; rw [if_neg h2]) rfl
def dWhyQ (s : Nat → Int32) (x n : Int32) : Int32 := if dIs s x = 0 then (-1000001) else if zwin n 1 30 = 0 then (-1000001) else dWhy s x.toNatClampNeg n
set_option maxHeartbeats 4000000 in
set_option maxRecDepth 100000 in
theorem k_mwhy {l : Launch} {D : va_G} {cy : Nat → ClassId} {w : zW} {f : zF} {v s nu : Nat → Int32} {mc : Nat} {x : Int32} {n : Int32} (hw : w.1 = 139) (hm : s 0 = nI mc) (hmc : mc ≤ 4) : zSd l D cy yX9_why cX9_why 3 (some .int) 2 44 [.ref (w.2 (132)), .int (x), .int (n)] w (mW w cy f v s nu) (some (.int (dWhyQ s x n))) (mW w cy f v s nu) := by
  refine zSd.intro (by decide) (Nat.le_of_ble_eq_true rfl) (fun G X E => ?_)
  show G (w, 0, 0) (mW w cy f v s nu) [(0, .ref (w.2 (132))), (1, .int (x)), (2, .int (n))] 0 []
  refine zr_aload_n X 0 dX9_why_0 rfl rfl ?_
  refine zr_iload_n X 1 dX9_why_1 rfl rfl ?_
  refine zr_cV X (As := [.int (x)]) (rest := []) (f' := mW w cy f v s nu) (st' := [.int (dIs s x)]) zc_X9_isMule (132) (show 132 < w.1 by rw [hw]; omega) mW_132 (q9 := _) rfl rfl (k_isMule hw) ⟨Nat.le_of_ble_eq_true rfl, Nat.le_of_ble_eq_true rfl⟩ ⟨Nat.le_refl _, Nat.le_refl _⟩ rfl (Nat.le_of_ble_eq_true rfl) zm_4_4 rfl dX9_why_2 rfl ?_
  refine zr_if_eq X (tgt := 27) dX9_why_5 (by decide) (fun h1 => ?_) (fun h2 => ?_)
  · refine zr_ldc X zm_3_230 dX9_why_27 ?_
    exact zret_i E rfl dX9_why_29 (by unfold dWhyQ; rw [if_pos h1]) rfl
  · refine zr_iload_n X 2 dX9_why_8 rfl rfl ?_
    refine zr_iconst X (v := 1) dX9_why_9 (by decide) ?_
    refine zr_bipush X (v := 30) dX9_why_10 (by decide) ?_
    refine zr_cS X (As := [.int (n), .int (1), .int (30)]) (rest := []) (f' := mW w cy f v s nu) (st' := [.int (zwin n 1 30)]) zc_X9_in k_in ⟨Nat.le_of_ble_eq_true rfl, Nat.le_of_ble_eq_true rfl⟩ ⟨Nat.le_refl _, Nat.le_refl _⟩ rfl (Nat.le_of_ble_eq_true rfl) zm_3_227 rfl dX9_why_12 rfl ?_
    refine zr_if_eq X (tgt := 27) dX9_why_15 (by decide) (fun h3 => ?_) (fun h4 => ?_)
    · refine zr_ldc X zm_3_230 dX9_why_27 ?_
      exact zret_i E rfl dX9_why_29 (by unfold dWhyQ; rw [if_neg h2, if_pos h3]) rfl
    · obtain ⟨hx9, hx8⟩ := dIs_x h2 hm hmc
      have hx7 : x.toNatClampNeg < 4 := by omega
      refine zr_aload_n X 0 dX9_why_18 rfl rfl ?_
      refine zr_iload_n X 1 dX9_why_19 rfl rfl ?_
      refine zr_iload_n X 2 dX9_why_20 rfl rfl ?_
      refine zr_cV X (As := [.int (x), .int (n)]) (rest := []) (f' := mW w cy f v s nu) (st' := [.int (dWhy s x.toNatClampNeg n)]) zc_X9_whyNot (132) (show 132 < w.1 by rw [hw]; omega) mW_132 (q9 := _) rfl rfl (k_whyN (k := x.toNatClampNeg) hw hx9 hx7) ⟨Nat.le_of_ble_eq_true rfl, Nat.le_of_ble_eq_true rfl⟩ ⟨Nat.le_refl _, Nat.le_refl _⟩ rfl (Nat.le_of_ble_eq_true rfl) zm_4_8 rfl dX9_why_21 rfl ?_
      refine zr_goto X (tgt := 29) dX9_why_24 (by decide) ?_
      exact zret_i E rfl dX9_why_29 (by unfold dWhyQ; rw [if_neg h2, if_neg h4]) rfl
def dWaS (s : Nat → Int32) (x : Int32) (k : Nat) (m : Int32) : Int32 := m + (if zwin ((s 3 + x) - s (55 + 6 * k + 2)) 0 (s (55 + 6 * k + 3) - 1) = 0 then 0 else (s (55 + 6 * k + 1) + 1) / 2)
def dWa (s : Nat → Int32) (x : Int32) (n : Nat) : Int32 := zfold (dWaS s x) 0 n
theorem dWa_s {s : Nat → Int32} {x : Int32} {n : Nat} : dWa s x (n + 1) = dWaS s x n (dWa s x n) := rfl
def dWanted (s : Nat → Int32) (bk : Nat) (x : Int32) : Int32 := if zwin x 0 60 = 0 then (-1000001) else dWa s x bk
set_option maxHeartbeats 4000000 in
set_option maxRecDepth 100000 in
theorem k_mwanted {l : Launch} {D : va_G} {cy : Nat → ClassId} {w : zW} {f : zF} {v s nu : Nat → Int32} {bk : Nat} {x : Int32} (hw : w.1 = 139) (hg : s 1 = nI bk) (hbk : bk ≤ 10) : zSd l D cy yX9_wanted cX9_wanted 4 (some .int) 2 44 [.ref (w.2 (132)), .int (x)] w (mW w cy f v s nu) (some (.int (dWanted s bk x))) (mW w cy f v s nu) := by
  refine zSd.intro (by decide) (Nat.le_of_ble_eq_true rfl) (fun G X E => ?_)
  show G (w, 0, 0) (mW w cy f v s nu) [(0, .ref (w.2 (132))), (1, .int (x))] 0 []
  refine zr_iload_n X 1 dX9_wanted_0 rfl rfl ?_
  refine zr_iconst X (v := 0) dX9_wanted_1 (by decide) ?_
  refine zr_bipush X (v := 60) dX9_wanted_2 (by decide) ?_
  refine zr_cS X (As := [.int (x), .int (0), .int (60)]) (rest := []) (f' := mW w cy f v s nu) (st' := [.int (zwin x 0 60)]) zc_X9_in k_in ⟨Nat.le_of_ble_eq_true rfl, Nat.le_of_ble_eq_true rfl⟩ ⟨Nat.le_refl _, Nat.le_refl _⟩ rfl (Nat.le_of_ble_eq_true rfl) zm_3_227 rfl dX9_wanted_4 rfl ?_
  refine zr_if_ne X (tgt := 13) dX9_wanted_7 (by decide) (fun h1 => ?_) (fun h2 => ?_)
  · refine zr_iconst X (v := 0) dX9_wanted_13 (by decide) ?_
    refine zr_istore_n X (ls' := [(2, .int (0)), (0, .ref (w.2 (132))), (1, .int (x))]) dX9_wanted_14 rfl (by decide) rfl ?_
    refine zr_iconst X (v := 0) dX9_wanted_15 (by decide) ?_
    refine zr_istore_n X (ls' := [(3, .int (0)), (2, .int (0)), (0, .ref (w.2 (132))), (1, .int (x))]) dX9_wanted_16 rfl (by decide) rfl ?_
    refine zr_loc X (ls' := [(0, .ref (w.2 (132))), (1, .int (x)), (2, .int (0)), (3, .int (0))]) [2, 3, 1, 0] rfl ?_
    refine zcast (f2 := mW w cy f v s nu) (ls2 := [(0, .ref (w.2 (132))), (1, .int (x)), (2, .int (dWa s x (0))), (3, .int (nI (0)))]) rfl rfl ?_
    refine zdown (P := fun n => G (w, 0, 0) (mW w cy f v s nu) [(0, .ref (w.2 (132))), (1, .int (x)), (2, .int (dWa s x (n))), (3, .int (nI (n)))] 17 []) (B := bk) ?_ (fun n hn17 ih17 => ?_) 0 (Nat.zero_le _) 
    · show G (w, 0, 0) (mW w cy f v s nu) [(0, .ref (w.2 (132))), (1, .int (x)), (2, .int (dWa s x (bk))), (3, .int (nI (bk)))] 17 []
      refine zr_iload_n X 3 dX9_wanted_17 rfl rfl ?_
      refine zr_aload_n X 0 dX9_wanted_18 rfl rfl ?_
      refine zr_get X zfd_RX9_7 (132) (show 132 < w.1 by rw [hw]; omega) mW_132 (v := .ref (w.2 (133))) rfl dX9_wanted_19 ?_
      refine zr_iconst X (v := 1) dX9_wanted_22 (by decide) ?_
      refine zr_iald X (133) (show 133 < w.1 by rw [hw]; omega) mW_133 (1) (rfl) (by decide) (by decide) dX9_wanted_23 ?_
      refine zr_icmp_ge X (tgt := 65) dX9_wanted_24 (by decide) (fun _ => ?_) (fun h => False.elim (h (by rw [hg]; exact Int32.le_refl _)))
      refine zr_iload_n X 2 dX9_wanted_65 rfl rfl ?_
      exact zret_i E rfl dX9_wanted_66 (by unfold dWanted; rw [if_neg h1]) rfl
    · show G (w, 0, 0) (mW w cy f v s nu) [(0, .ref (w.2 (132))), (1, .int (x)), (2, .int (dWa s x (n))), (3, .int (nI (n)))] 17 []
      refine zr_iload_n X 3 dX9_wanted_17 rfl rfl ?_
      refine zr_aload_n X 0 dX9_wanted_18 rfl rfl ?_
      refine zr_get X zfd_RX9_7 (132) (show 132 < w.1 by rw [hw]; omega) mW_132 (v := .ref (w.2 (133))) rfl dX9_wanted_19 ?_
      refine zr_iconst X (v := 1) dX9_wanted_22 (by decide) ?_
      refine zr_iald X (133) (show 133 < w.1 by rw [hw]; omega) mW_133 (1) (rfl) (by decide) (by decide) dX9_wanted_23 ?_
      refine zr_icmp_ge X (tgt := 65) dX9_wanted_24 (by decide) (fun h => False.elim (nI_ge hn17 (by omega) (by rw [← hg]; exact h))) (fun _ => ?_)
      refine zr_iload_n X 2 dX9_wanted_27 rfl rfl ?_
      refine zr_aload_n X 0 dX9_wanted_28 rfl rfl ?_
      refine zr_iload_n X 3 dX9_wanted_29 rfl rfl ?_
      refine zr_aload_n X 0 dX9_wanted_30 rfl rfl ?_
      refine zr_get X zfd_RX9_7 (132) (show 132 < w.1 by rw [hw]; omega) mW_132 (v := .ref (w.2 (133))) rfl dX9_wanted_31 ?_
      refine zr_iconst X (v := 3) dX9_wanted_34 (by decide) ?_
      refine zr_iald X (133) (show 133 < w.1 by rw [hw]; omega) mW_133 (3) (rfl) (by decide) (by decide) dX9_wanted_35 ?_
      refine zr_iload_n X 1 dX9_wanted_36 rfl rfl ?_
      refine zr_iadd X dX9_wanted_37 ?_
      refine zr_cV X (As := [.int (nI (n)), .int ((s 3) + x)]) (rest := [.int (dWa s x (n))]) (f' := mW w cy f v s nu) (st' := [.int (zwin ((s 3 + x) - s (55 + 6 * n + 2)) 0 (s (55 + 6 * n + 3) - 1)), .int (dWa s x (n))]) zc_X9_isThere (132) (show 132 < w.1 by rw [hw]; omega) mW_132 (q9 := _) rfl rfl (k_isThere (k := n) hw rfl (by omega)) ⟨Nat.le_of_ble_eq_true rfl, Nat.le_of_ble_eq_true rfl⟩ ⟨Nat.le_refl _, Nat.le_refl _⟩ rfl (Nat.le_of_ble_eq_true rfl) zm_4_81 rfl dX9_wanted_38 rfl ?_
      refine zr_if_eq X (tgt := 56) dX9_wanted_41 (by decide) (fun h3 => ?_) (fun h4 => ?_)
      · refine zr_iconst X (v := 0) dX9_wanted_56 (by decide) ?_
        refine zr_iadd X dX9_wanted_57 ?_
        refine zr_istore_n X (ls' := [(2, .int ((dWa s x (n)) + 0)), (0, .ref (w.2 (132))), (1, .int (x)), (3, .int (nI (n)))]) dX9_wanted_58 rfl (by decide) rfl ?_
        refine zr_iinc X (v := nI (n + 1)) (ls' := [(3, .int (nI (n + 1))), (2, .int ((dWa s x (n)) + 0)), (0, .ref (w.2 (132))), (1, .int (x))]) 3 dX9_wanted_59 rfl (zinc1 _) (by decide) rfl ?_
        refine zr_goto X (tgt := 17) dX9_wanted_62 (by decide) ?_
        refine zr_loc X (ls' := [(0, .ref (w.2 (132))), (1, .int (x)), (2, .int ((dWa s x (n)) + 0)), (3, .int (nI (n + 1)))]) [2, 3, 1, 0] rfl ?_
        exact zcast (f2 := mW w cy f v s nu) (ls2 := [(0, .ref (w.2 (132))), (1, .int (x)), (2, .int (dWa s x (n + 1))), (3, .int (nI (n + 1)))]) rfl (by rw [dWa_s]; unfold dWaS; rw [if_pos h3]) ih17
      · refine zr_aload_n X 0 dX9_wanted_44 rfl rfl ?_
        refine zr_iload_n X 3 dX9_wanted_45 rfl rfl ?_
        refine zr_iconst X (v := 1) dX9_wanted_46 (by decide) ?_
        refine zr_cV X (As := [.int (nI (n)), .int (1)]) (rest := [.int (dWa s x (n))]) (f' := mW w cy f v s nu) (st' := [.int (s (55 + 6 * (n) + 1)), .int (dWa s x (n))]) zc_X9_ofGroup (132) (show 132 < w.1 by rw [hw]; omega) mW_132 (q9 := _) rfl rfl (k_ofGroup (k := (n)) (i := 1) hw rfl rfl (by omega) (by omega)) ⟨Nat.le_of_ble_eq_true rfl, Nat.le_of_ble_eq_true rfl⟩ ⟨Nat.le_refl _, Nat.le_refl _⟩ rfl (Nat.le_of_ble_eq_true rfl) zm_4_37 rfl dX9_wanted_47 rfl ?_
        have kwants9 := k_wants (l := l) (D := D) (cy := cy) (w := w) (f := f) (v := v) (s := s) (nu := nu) (x := s (55 + 6 * (n) + 1)) hw
        refine zr_cS X (As := [.int (s (55 + 6 * (n) + 1))]) (rest := [.int (dWa s x (n))]) (f' := mW w cy f v s nu) (st' := [.int (((s (55 + 6 * (n) + 1)) + 1) / 2), .int (dWa s x (n))]) zc_X9_wants kwants9 ⟨Nat.le_of_ble_eq_true rfl, Nat.le_of_ble_eq_true rfl⟩ ⟨Nat.le_refl _, Nat.le_refl _⟩ rfl (Nat.le_of_ble_eq_true rfl) zm_4_89 rfl dX9_wanted_50 rfl ?_
        refine zr_goto X (tgt := 57) dX9_wanted_53 (by decide) ?_
        refine zr_iadd X dX9_wanted_57 ?_
        refine zr_istore_n X (ls' := [(2, .int ((dWa s x (n)) + (((s (55 + 6 * (n) + 1)) + 1) / 2))), (0, .ref (w.2 (132))), (1, .int (x)), (3, .int (nI (n)))]) dX9_wanted_58 rfl (by decide) rfl ?_
        refine zr_iinc X (v := nI (n + 1)) (ls' := [(3, .int (nI (n + 1))), (2, .int ((dWa s x (n)) + (((s (55 + 6 * (n) + 1)) + 1) / 2))), (0, .ref (w.2 (132))), (1, .int (x))]) 3 dX9_wanted_59 rfl (zinc1 _) (by decide) rfl ?_
        refine zr_goto X (tgt := 17) dX9_wanted_62 (by decide) ?_
        refine zr_loc X (ls' := [(0, .ref (w.2 (132))), (1, .int (x)), (2, .int ((dWa s x (n)) + (((s (55 + 6 * (n) + 1)) + 1) / 2))), (3, .int (nI (n + 1)))]) [2, 3, 1, 0] rfl ?_
        exact zcast (f2 := mW w cy f v s nu) (ls2 := [(0, .ref (w.2 (132))), (1, .int (x)), (2, .int (dWa s x (n + 1))), (3, .int (nI (n + 1)))]) rfl (by rw [dWa_s]; unfold dWaS; rw [if_neg h4]) ih17
  · refine zr_ldc X zm_3_230 dX9_wanted_10 ?_
    exact zret_i E rfl dX9_wanted_12 (by unfold dWanted; rw [if_pos h2]) rfl
