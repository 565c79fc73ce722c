def zflJ (j n T : Nat) : UInt32 := zfl (127 + (j - n)) T
theorem zflJ_end {j T : Nat} : zflJ j j T = zfl 127 T := by
  unfold zflJ
  rw [Nat.sub_self]
theorem zflJ_half {j n T : Nat} (hn : n < j) (hj : j ≤ 13) (hT : T < 8388608) : FP.fdiv (zflJ j n T) FP.fconst2 = zflJ j (n + 1) T := by
  unfold zflJ
  rw [show 127 + (j - n) = 127 + (j - (n + 1)) + 1 by omega]
  exact zfl_half (by omega) (by omega) hT
theorem zflJ_n {j n T : Nat} (hj : j ≤ 13) (hT : T < 8388608) : vf_n32 (zflJ j n T) := by
  unfold zflJ
  exact zfl_n32 (by omega) hT
theorem zflJ_lo {j T : Nat} (hT : T < 8388608) : Op.cmpValue (FP.fcmp (zflJ j j T) FP.fconst2) .l < 0 := by
  rw [zflJ_end, zfl_lo hT]
  decide
theorem zflJ_hi {j n T : Nat} (hn : n < j) (hj : j ≤ 13) (hT : T < 8388608) : ¬ Op.cmpValue (FP.fcmp (zflJ j n T) FP.fconst2) .l < 0 := by
  unfold zflJ
  obtain ⟨a, b⟩ := zfl_hi (E := 127 + (j - n)) (by omega) (by omega) hT
  generalize FP.fcmp (zfl (127 + (j - n)) T) FP.fconst2 = o at *
  match o with
  | none => exact absurd rfl b
  | some .lt => exact absurd rfl a
  | some .eq => decide
  | some .gt => decide
set_option maxHeartbeats 4000000 in
set_option maxRecDepth 100000 in
theorem k_bitsOf {l : Launch} {D : va_G} {cy : Nat → ClassId} {w : zW} {f : zF} {j T : Nat} (hj : j ≤ 13) (hT : T < 8388608) : zSd l D cy yX8_bitsOf cX8_bitsOf 4 (some .int) 0 0 [.float (zfl (127 + j) T)] w f (some (.int ((zfl (127 + j) T).toInt32))) f := by
  refine zSd.intro (by decide) (Nat.le_of_ble_eq_true rfl) (fun G X E => ?_)
  show G (w, 0, 0) f [(0, .float (zfl (127 + j) T))] 0 []
  refine zr_fload_n X 0 dX8_bitsOf_0 rfl rfl ?_
  refine zr_fstore_n X (ls' := [(1, .float (zfl (127 + j) T)), (0, .float (zfl (127 + j) T))]) dX8_bitsOf_1 rfl (by decide) rfl ?_
  refine zr_bipush X (v := 127) dX8_bitsOf_2 (by decide) ?_
  refine zr_istore_n X (ls' := [(2, .int (127)), (1, .float (zfl (127 + j) T)), (0, .float (zfl (127 + j) T))]) dX8_bitsOf_4 rfl (by decide) rfl ?_
  refine zr_iconst X (v := 0) dX8_bitsOf_5 (by decide) ?_
  refine zr_istore_n X (ls' := [(3, .int (0)), (2, .int (127)), (1, .float (zfl (127 + j) T)), (0, .float (zfl (127 + j) T))]) dX8_bitsOf_6 rfl (by decide) rfl ?_
  refine zr_loc X (ls' := [(0, .float (zfl (127 + j) T)), (1, .float (zfl (127 + j) T)), (2, .int (127)), (3, .int (0))]) [3, 2, 1, 0] rfl ?_
  refine zcast (f2 := f) (ls2 := [(0, .float (zfl (127 + j) T)), (1, .float (zflJ j (0) T)), (2, .int (nI (127 + (0)))), (3, .int (nI (0)))]) rfl rfl ?_
  refine zdown (P := fun n => G (w, 0, 0) (f) [(0, .float (zfl (127 + j) T)), (1, .float (zflJ j (n) T)), (2, .int (nI (127 + (n)))), (3, .int (nI (n)))] 7 []) (B := j) ?_ (fun n hn7 ih7 => ?_) 0 (Nat.zero_le _) 
  · show G (w, 0, 0) (f) [(0, .float (zfl (127 + j) T)), (1, .float (zflJ j (j) T)), (2, .int (nI (127 + (j)))), (3, .int (nI (j)))] 7 []
    refine zr_iload_n X 3 dX8_bitsOf_7 rfl rfl ?_
    refine zr_bipush X (v := 127) dX8_bitsOf_8 (by decide) ?_
    refine zr_icmp_ge X (tgt := 32) dX8_bitsOf_10 (by decide) (fun h => False.elim (nI_ge (show j < 127 by omega) (by decide) h)) (fun _ => ?_)
    refine zr_fload_n X 1 dX8_bitsOf_13 rfl rfl ?_
    refine zr_fconst2 X dX8_bitsOf_14 ?_
    refine zr_fcmp X dX8_bitsOf_15 ?_
    refine zr_if_lt X (tgt := 32) dX8_bitsOf_16 (by decide) (fun _ => ?_) (fun h => False.elim (h (zflJ_lo hT)))
    refine zr_iload_n X 2 dX8_bitsOf_32 rfl rfl ?_
    refine zr_bipush X (v := 23) dX8_bitsOf_33 (by decide) ?_
    refine zr_ishl X dX8_bitsOf_35 ?_
    refine zr_fload_n X 1 dX8_bitsOf_36 rfl rfl ?_
    refine zr_fconst1 X dX8_bitsOf_37 ?_
    refine zr_fsub X dX8_bitsOf_38 (by rw [zflJ_end]; exact (zfl_frac hT).1) ?_
    refine zr_ldcf X zm_3_90 dX8_bitsOf_39 ?_
    refine zr_fmul X dX8_bitsOf_41 (by rw [zflJ_end]; exact (zfl_frac hT).2.1) ?_
    refine zr_f2i X dX8_bitsOf_42 ?_
    refine zr_ior X dX8_bitsOf_43 ?_
    exact zret_i E rfl dX8_bitsOf_44 (by rw [zflJ_end, (zfl_frac hT).2.2]; exact zfl_bits (by omega) hT) rfl
  · show G (w, 0, 0) (f) [(0, .float (zfl (127 + j) T)), (1, .float (zflJ j (n) T)), (2, .int (nI (127 + (n)))), (3, .int (nI (n)))] 7 []
    refine zr_iload_n X 3 dX8_bitsOf_7 rfl rfl ?_
    refine zr_bipush X (v := 127) dX8_bitsOf_8 (by decide) ?_
    refine zr_icmp_ge X (tgt := 32) dX8_bitsOf_10 (by decide) (fun h => False.elim (nI_ge (show n < 127 by omega) (by decide) h)) (fun _ => ?_)
    refine zr_fload_n X 1 dX8_bitsOf_13 rfl rfl ?_
    refine zr_fconst2 X dX8_bitsOf_14 ?_
    refine zr_fcmp X dX8_bitsOf_15 ?_
    refine zr_if_lt X (tgt := 32) dX8_bitsOf_16 (by decide) (fun h => False.elim (zflJ_hi hn7 hj hT h)) (fun _ => ?_)
    refine zr_fload_n X 1 dX8_bitsOf_19 rfl rfl ?_
    refine zr_fconst2 X dX8_bitsOf_20 ?_
    refine zr_fdiv X dX8_bitsOf_21 (by rw [zflJ_half hn7 hj hT]; exact zflJ_n hj hT) ?_
    refine zr_fstore_n X (ls' := [(1, .float (FP.fdiv (zflJ j (n) T) FP.fconst2)), (0, .float (zfl (127 + j) T)), (2, .int (nI (127 + (n)))), (3, .int (nI (n)))]) dX8_bitsOf_22 rfl (by decide) rfl ?_
    refine zr_iinc X (v := nI (127 + (n) + 1)) (ls' := [(2, .int (nI (127 + (n) + 1))), (1, .float (FP.fdiv (zflJ j (n) T) FP.fconst2)), (0, .float (zfl (127 + j) T)), (3, .int (nI (n)))]) 2 dX8_bitsOf_23 rfl (zinc1 _) (by decide) rfl ?_
    refine zr_iinc X (v := nI (n + 1)) (ls' := [(3, .int (nI (n + 1))), (2, .int (nI (127 + (n) + 1))), (1, .float (FP.fdiv (zflJ j (n) T) FP.fconst2)), (0, .float (zfl (127 + j) T))]) 3 dX8_bitsOf_26 rfl (zinc1 _) (by decide) rfl ?_
    refine zr_goto X (tgt := 7) dX8_bitsOf_29 (by decide) ?_
    refine zr_loc X (ls' := [(0, .float (zfl (127 + j) T)), (1, .float (FP.fdiv (zflJ j (n) T) FP.fconst2)), (2, .int (nI (127 + (n) + 1))), (3, .int (nI (n + 1)))]) [3, 2, 1, 0] rfl ?_
    exact zcast (f2 := f) (ls2 := [(0, .float (zfl (127 + j) T)), (1, .float (zflJ j (n + 1) T)), (2, .int (nI (127 + (n + 1)))), (3, .int (nI (n + 1)))]) rfl (by rw [zflJ_half hn7 hj hT]; rfl) ih7
def cMany (s : zGS) : Int32 := shMany (fun k9 => s.2 (115 + k9)) 0 20 21
def cAges (s : zGS) : Int32 := shAges (fun k9 => s.2 (115 + k9)) 21
def cMean (s : zGS) : Int32 := if 0 < cMany s then (FP.fdiv (FP.i2f (cAges s)) (FP.i2f (cMany s))).toInt32 else (-1000004)
set_option maxHeartbeats 4000000 in
set_option maxRecDepth 100000 in
theorem k_mean {l : Launch} {D : va_G} {cy : Nat → ClassId} {w : zW} {f : zF} {s0 s1 : zGS} {hs : Nat → zGS} {δ : Nat → Nat} {k : Nat} (hw : w.1 = 139) (hc : zCl w cy f s0 s1 hs δ k) (hi : zInv s0 s1 hs δ k) (hM : 0 < cMany s0 → ∃ j T, j ≤ 13 ∧ T < 8388608 ∧ FP.fdiv (FP.i2f (cAges s0)) (FP.i2f (cMany s0)) = zfl (127 + j) T) : zSd l D cy yX8_mean cX8_mean 2 (some .int) 1 24 [.ref (w.2 (0))] w f (some (.int (cMean s0))) f := by
  refine zSd.intro (by decide) (Nat.le_of_ble_eq_true rfl) (fun G X E => ?_)
  show G (w, 0, 0) f [(0, .ref (w.2 (0)))] 0 []
  refine zr_aload_n X 0 dX8_mean_0 rfl rfl ?_
  refine zr_get X zfd_RX8_10 (0) (show 0 < w.1 by rw [hw]; omega) hc.1 (v := .ref (w.2 (1))) rfl dX8_mean_1 ?_
  refine zr_getN X zfn_RX8_106 (1) (show 1 < w.1 by rw [hw]; omega) (hc.2.1 (0) (by omega)) (v := .ref (w.2 (1 + 3))) rfl dX8_mean_4 ?_
  refine zr_iconst X (v := 0) dX8_mean_7 (by decide) ?_
  refine zr_bipush X (v := 20) dX8_mean_8 (by decide) ?_
  refine zr_cV X (As := [.int (0), .int (20)]) (rest := []) (f' := f) (st' := [.int (shMany (fun k9 => s0.2 (115 + k9)) 0 20 21)]) zc_X7_howMany (1 + 3) (show 1 + 3 < w.1 by rw [hw]; omega) (hc.2.1 (3) (by omega)) (q9 := _) rfl rfl (k_Shelf_howMany (show 1 + 3 < w.1 by rw [hw]; omega) (show 1 + 4 < w.1 by rw [hw]; omega) (hc.2.1 (3) (by omega)) (hc.2.1 (4) (by omega)) (by omega)) ⟨Nat.le_of_ble_eq_true rfl, Nat.le_of_ble_eq_true rfl⟩ ⟨Nat.le_refl _, Nat.le_refl _⟩ rfl (Nat.le_of_ble_eq_true rfl) zm_3_35 rfl dX8_mean_10 rfl ?_
  refine zr_istore_n X (ls' := [(1, .int (shMany (fun k9 => s0.2 (115 + k9)) 0 20 21)), (0, .ref (w.2 (0)))]) dX8_mean_13 rfl (by decide) rfl ?_
  refine zr_iload_n X 0 dX8_mean_14 rfl rfl ?_
  refine zr_if_gt X (tgt := 21) dX8_mean_15 (by decide) (fun h1 => ?_) (fun h2 => ?_)
  · obtain ⟨j9, T9, hj9, hT9, eq9⟩ := hM h1
    refine zr_aload_n X 1 dX8_mean_21 rfl rfl ?_
    refine zr_get X zfd_RX8_10 (0) (show 0 < w.1 by rw [hw]; omega) hc.1 (v := .ref (w.2 (1))) rfl dX8_mean_22 ?_
    refine zr_getN X zfn_RX8_106 (1) (show 1 < w.1 by rw [hw]; omega) (hc.2.1 (0) (by omega)) (v := .ref (w.2 (1 + 3))) rfl dX8_mean_25 ?_
    refine zr_cV X (As := []) (rest := []) (f' := f) (st' := [.int (shAges (fun k9 => s0.2 (115 + k9)) 21)]) zc_X7_agesTogether (1 + 3) (show 1 + 3 < w.1 by rw [hw]; omega) (hc.2.1 (3) (by omega)) (q9 := _) rfl rfl (k_Shelf_agesTogether (show 1 + 3 < w.1 by rw [hw]; omega) (show 1 + 4 < w.1 by rw [hw]; omega) (hc.2.1 (3) (by omega)) (hc.2.1 (4) (by omega)) (by omega)) ⟨Nat.le_of_ble_eq_true rfl, Nat.le_of_ble_eq_true rfl⟩ ⟨Nat.le_refl _, Nat.le_refl _⟩ rfl (Nat.le_of_ble_eq_true rfl) zm_3_83 rfl dX8_mean_28 rfl ?_
    refine zr_i2f X dX8_mean_31 ?_
    refine zr_iload_n X 0 dX8_mean_32 rfl rfl ?_
    refine zr_i2f X dX8_mean_33 ?_
    refine zr_fdiv X dX8_mean_34 (by show vf_n32 (FP.fdiv (FP.i2f (cAges s0)) (FP.i2f (cMany s0))); rw [eq9]; exact zfl_n32 (by omega) hT9) ?_
    have kB := k_bitsOf (l := l) (D := D) (cy := cy) (w := w) (f := f) hj9 hT9
    rw [← eq9] at kB
    refine zr_cS X (As := [.float (FP.fdiv (FP.i2f (shAges (fun k9 => s0.2 (115 + k9)) 21)) (FP.i2f (shMany (fun k9 => s0.2 (115 + k9)) 0 20 21)))]) (rest := []) (f' := f) (st' := [.int ((FP.fdiv (FP.i2f (cAges s0)) (FP.i2f (cMany s0))).toInt32)]) zc_X8_bitsOf kB ⟨Nat.le_of_ble_eq_true rfl, Nat.le_of_ble_eq_true rfl⟩ ⟨Nat.le_refl _, Nat.le_refl _⟩ rfl (Nat.le_of_ble_eq_true rfl) zm_3_87 rfl dX8_mean_35 rfl ?_
    exact zret_i E rfl dX8_mean_38 ((if_pos h1).symm) rfl
  · refine zr_ldc X zm_3_29 dX8_mean_18 ?_
    exact zret_i E rfl dX8_mean_20 ((if_neg h2).symm) rfl
