/-! WHAT THE LAW COMPARES -/
theorem mo_no {s : Nat → Int32} {x y : Int32} (h : x < 0 ∨ s 0 ≤ x) : dMuleOf s x y = -1000001 := by
  unfold dMuleOf
  rw [if_pos (dIs_0 h)]
theorem mo_a {s : Nat → Int32} {mc n j : Nat} (hm : s 0 = nI mc) (hm4 : mc ≤ 4) (hn : n < mc) (hj : j < 5) : dMuleOf s (nI n) (nI j) = s (19 + 9 * n + j) := by
  unfold dMuleOf
  rw [if_neg (dIs_in hm hm4 hn), if_neg (show ¬ zwin (nI j) 0 7 = 0 from zw_in (lo := 0) (hi := 7) (Nat.zero_le _) (by omega) (by decide)), if_neg (show ¬ (5 : Int32) ≤ nI j from fun z => by have y := tle.mp z; rw [tk5, tnI (by omega)] at y; omega), nI_clamp (by omega), nI_clamp (by omega)]
theorem mo_b {s : Nat → Int32} {mc n j : Nat} (hm : s 0 = nI mc) (hm4 : mc ≤ 4) (hn : n < mc) (hj : 5 ≤ j) (hj2 : j < 8) : dMuleOf s (nI n) (nI j) = s (19 + 9 * n + (j + 1)) := by
  unfold dMuleOf
  rw [if_neg (dIs_in hm hm4 hn), if_neg (show ¬ zwin (nI j) 0 7 = 0 from zw_in (lo := 0) (hi := 7) (Nat.zero_le _) (by omega) (by decide)), if_pos (show (5 : Int32) ≤ nI j from tle.mpr (by rw [tk5, tnI (by omega)]; omega)), nI_clamp (by omega), nI_clamp (by omega)]
theorem mo_8 {s : Nat → Int32} {mc n : Nat} (hm : s 0 = nI mc) (hm4 : mc ≤ 4) (hn : n < mc) : dMuleOf s (nI n) 8 = -1000001 := by
  unfold dMuleOf
  rw [if_neg (dIs_in hm hm4 hn), if_pos (by decide)]
theorem jx_3 {s : Nat → Int32} {n : Nat} (h : iMu s n) (x : jX s n) (c : ¬ 0 < s (19 + 9 * n + 2)) : s (19 + 9 * n + 3) = 0 := by
  refine x.1 ?_
  rcases h.2.2.1 with e | e | e | e
  · exact e
  · exact absurd (by rw [e]; decide) c
  · exact absurd (by rw [e]; decide) c
  · exact absurd (by rw [e]; decide) c
theorem ct_9 {v s : Nat → Int32} {mc fr : Nat} : dCount v s mc fr 9 = dOt s mc := rfl
set_option maxHeartbeats 4000000 in
set_option maxRecDepth 100000 in
theorem kl_areMules {l : Launch} {D : va_G} {cy : Nat → ClassId} {w : zW} {f : zF} {s : Nat → Int32} {B : Int} {gs : zGS} {mc bk fr : Nat} (hw : w.1 = 136) (hX : CX w cy f B s) (kn : Kn B gs mc bk fr s) : zSd l D cy yL_areMules cL_areMules 7 (some .boolean) 4 86 [.ref (w.2 (0)), .ref (w.2 (132)), .ref (w.2 (133))] w (lW cy f s) (some (.int (1))) (lW cy f s) := by
  refine zSd.intro (by decide) (Nat.le_of_ble_eq_true rfl) (fun G X E => ?_)
  obtain ⟨r, o, v, jn, e17, hfr⟩ := id kn
  have hm := r.s0.1
  have hm4 := r.s0.2
  have hb := r.s1.1
  have hb10 := r.s1.2
  have hM := v.1
  show G (w, 0, 0) (lW cy f s) [(0, .ref (w.2 (0))), (1, .ref (w.2 (132))), (2, .ref (w.2 (133)))] 0 []
  refine zr_aload_n X 0 dL_areMules_0 rfl rfl ?_
  refine zr_aload_n X 1 dL_areMules_1 rfl rfl ?_
  refine zr_iconst X (v := 0) dL_areMules_2 (by decide) ?_
  refine zr_lld X hw lr_g (0) (0) (rfl) (by decide) rfl dL_areMules_3 ?_
  refine zr_iconst X (v := 0) dL_areMules_4 (by decide) ?_
  refine zr_cV X (As := [.int (s 0), .int (0)]) (rest := []) (f' := lW cy f s) (st' := [.int (dMuleOf s (s 0) 0)]) zc_X8_muleOf (0) (show 0 < w.1 by rw [hw]; decide) ((lW_lo (by decide)).trans (CX_0 hX)) (q9 := _) rfl rfl (cq_muleOf hw (CX_lW hX)) ⟨Nat.le_of_ble_eq_true rfl, Nat.le_of_ble_eq_true rfl⟩ ⟨Nat.le_refl _, Nat.le_refl _⟩ rfl (Nat.le_of_ble_eq_true rfl) zm_3_44 rfl dL_areMules_5 rfl ?_
  refine zr_ldc X zm_2_142 dL_areMules_8 ?_
  refine zr_icmp_ne X (tgt := 28) dL_areMules_10 (by decide) (fun h => False.elim (h (mo_no (.inr (Int32.le_refl _))))) (fun _ => ?_)
  refine zr_aload_n X 0 dL_areMules_13 rfl rfl ?_
  refine zr_iconst X (v := (-1)) dL_areMules_14 (by decide) ?_
  refine zr_iconst X (v := 0) dL_areMules_15 (by decide) ?_
  refine zr_cV X (As := [.int ((-1)), .int (0)]) (rest := []) (f' := lW cy f s) (st' := [.int (dMuleOf s (-1) 0)]) zc_X8_muleOf (0) (show 0 < w.1 by rw [hw]; decide) ((lW_lo (by decide)).trans (CX_0 hX)) (q9 := _) rfl rfl (cq_muleOf hw (CX_lW hX)) ⟨Nat.le_of_ble_eq_true rfl, Nat.le_of_ble_eq_true rfl⟩ ⟨Nat.le_refl _, Nat.le_refl _⟩ rfl (Nat.le_of_ble_eq_true rfl) zm_3_44 rfl dL_areMules_16 rfl ?_
  refine zr_ldc X zm_2_142 dL_areMules_19 ?_
  refine zr_icmp_ne X (tgt := 28) dL_areMules_21 (by decide) (fun h => False.elim (h (mo_no (.inl (by decide))))) (fun _ => ?_)
  refine zr_iconst X (v := 1) dL_areMules_24 (by decide) ?_
  refine zr_goto X (tgt := 29) dL_areMules_25 (by decide) ?_
  refine zr_istore_n X (ls' := [(3, .int (1)), (0, .ref (w.2 (0))), (1, .ref (w.2 (132))), (2, .ref (w.2 (133)))]) dL_areMules_29 rfl (by decide) rfl ?_
  refine zr_iconst X (v := 0) dL_areMules_30 (by decide) ?_
  refine zr_istore X (ls' := [(4, .int (0)), (3, .int (1)), (0, .ref (w.2 (0))), (1, .ref (w.2 (132))), (2, .ref (w.2 (133)))]) dL_areMules_31 (by decide) rfl ?_
  refine zr_iconst X (v := 0) dL_areMules_33 (by decide) ?_
  refine zr_istore X (ls' := [(5, .int (0)), (4, .int (0)), (3, .int (1)), (0, .ref (w.2 (0))), (1, .ref (w.2 (132))), (2, .ref (w.2 (133)))]) dL_areMules_34 (by decide) rfl ?_
  refine zr_loc X (ls' := [(0, .ref (w.2 (0))), (1, .ref (w.2 (132))), (2, .ref (w.2 (133))), (3, .int (1)), (4, .int (0)), (5, .int (0))]) [3, 4, 5, 2, 1, 0] rfl ?_
  refine zcast (f2 := lW cy f s) (ls2 := [(0, .ref (w.2 (0))), (1, .ref (w.2 (132))), (2, .ref (w.2 (133))), (3, .int (1)), (4, .int (dOt s (0))), (5, .int (nI (0)))]) rfl rfl ?_
  refine zdown (P := fun n => G (w, 0, 0) (lW cy f s) [(0, .ref (w.2 (0))), (1, .ref (w.2 (132))), (2, .ref (w.2 (133))), (3, .int (1)), (4, .int (dOt s (n))), (5, .int (nI (n)))] 36 []) (B := mc) ?_ (fun n hn36 ih36 => ?_) 0 (Nat.zero_le _) 
  · show G (w, 0, 0) (lW cy f s) [(0, .ref (w.2 (0))), (1, .ref (w.2 (132))), (2, .ref (w.2 (133))), (3, .int (1)), (4, .int (dOt s (mc))), (5, .int (nI (mc)))] 36 []
    refine zr_iload X 5 dL_areMules_36 rfl ?_
    refine zr_aload_n X 1 dL_areMules_38 rfl rfl ?_
    refine zr_iconst X (v := 0) dL_areMules_39 (by decide) ?_
    refine zr_lld X hw lr_g (0) (0) (rfl) (by decide) rfl dL_areMules_40 ?_
    refine zr_icmp_ge X (tgt := 259) dL_areMules_41 (by decide) (fun _ => ?_) (fun h => False.elim (h (by rw [hm]; exact Int32.le_refl _)))
    refine zr_iload_n X 3 dL_areMules_259 rfl rfl ?_
    refine zr_if_eq X (tgt := 278) dL_areMules_260 (by decide) (fun h => absurd h (by decide)) (fun _ => ?_)
    refine zr_aload_n X 0 dL_areMules_263 rfl rfl ?_
    refine zr_bipush X (v := 9) dL_areMules_264 (by decide) ?_
    refine zr_cV X (As := [.int (9)]) (rest := []) (f' := lW cy f s) (st' := [.int (dCount (fun _ => 0) s mc fr 9)]) zc_X8_count (0) (show 0 < w.1 by rw [hw]; decide) ((lW_lo (by decide)).trans (CX_0 hX)) (q9 := _) rfl rfl (cq_count mc fr hm hm4 e17 hfr (by decide) hw (CX_lW hX)) ⟨Nat.le_of_ble_eq_true rfl, Nat.le_of_ble_eq_true rfl⟩ ⟨Nat.le_refl _, Nat.le_refl _⟩ rfl (Nat.le_of_ble_eq_true rfl) zm_2_26 rfl dL_areMules_266 rfl ?_
    refine zr_iload X 4 dL_areMules_269 rfl ?_
    refine zr_icmp_ne X (tgt := 278) dL_areMules_271 (by decide) (fun h => False.elim (h ct_9)) (fun _ => ?_)
    refine zr_iconst X (v := 1) dL_areMules_274 (by decide) ?_
    refine zr_goto X (tgt := 279) dL_areMules_275 (by decide) ?_
    exact zret_z E rfl (Or.inr rfl) dL_areMules_279 rfl rfl
  · show G (w, 0, 0) (lW cy f s) [(0, .ref (w.2 (0))), (1, .ref (w.2 (132))), (2, .ref (w.2 (133))), (3, .int (1)), (4, .int (dOt s (n))), (5, .int (nI (n)))] 36 []
    refine zr_iload X 5 dL_areMules_36 rfl ?_
    refine zr_aload_n X 1 dL_areMules_38 rfl rfl ?_
    refine zr_iconst X (v := 0) dL_areMules_39 (by decide) ?_
    refine zr_lld X hw lr_g (0) (0) (rfl) (by decide) rfl dL_areMules_40 ?_
    refine zr_icmp_ge X (tgt := 259) dL_areMules_41 (by decide) (fun h => False.elim (nI_ge hn36 (by omega) (by rw [← hm]; exact h))) (fun _ => ?_)
    refine zr_iload_n X 3 dL_areMules_44 rfl rfl ?_
    refine zr_if_eq X (tgt := 259) dL_areMules_45 (by decide) (fun h => absurd h (by decide)) (fun _ => ?_)
    refine zr_bipush X (v := 9) dL_areMules_48 (by decide) ?_
    refine zr_iload X 5 dL_areMules_50 rfl ?_
    refine zr_imul X dL_areMules_52 ?_
    refine zr_istore X (ls' := [(6, .int (9 * (nI (n)))), (0, .ref (w.2 (0))), (1, .ref (w.2 (132))), (2, .ref (w.2 (133))), (3, .int (1)), (4, .int (dOt s (n))), (5, .int (nI (n)))]) dL_areMules_53 (by decide) rfl ?_
    rw [show (9 : Int32) * nI n = nI (9 * n) from nI_ml (c := 9)]
    show G (w, 0, 0) (lW cy f s) [(6, .int (nI (9 * n))), (0, .ref (w.2 (0))), (1, .ref (w.2 (132))), (2, .ref (w.2 (133))), (3, .int (1)), (4, .int (dOt s (n))), (5, .int (nI (n)))] 55 []
    refine zr_iload X 5 dL_areMules_55 rfl ?_
    refine zr_aload_n X 3 dL_areMules_57 rfl rfl ?_
    refine zr_iload X 0 dL_areMules_58 rfl ?_
    refine zr_iconst X (v := 4) dL_areMules_60 (by decide) ?_
    refine zr_iadd X dL_areMules_61 ?_
    refine zr_lld X hw lr_m (9 * n + 4) (19 + 9 * n + 4) (nI_add _ 4) (by omega) (by omega) dL_areMules_62 ?_
    refine zr_iadd X dL_areMules_63 ?_
    refine zr_istore X (ls' := [(4, .int ((dOt s (n)) + (s (19 + 9 * n + 4)))), (6, .int (nI (9 * n))), (0, .ref (w.2 (0))), (1, .ref (w.2 (132))), (2, .ref (w.2 (133))), (3, .int (1)), (5, .int (nI (n)))]) dL_areMules_64 (by decide) rfl ?_
    refine zr_aload_n X 2 dL_areMules_66 rfl rfl ?_
    refine zr_iload X 6 dL_areMules_67 rfl ?_
    refine zr_iconst X (v := 0) dL_areMules_69 (by decide) ?_
    refine zr_cV X (As := [.int (nI (n)), .int (0)]) (rest := []) (f' := lW cy f s) (st' := [.int (dMuleOf s (nI (n)) 0)]) zc_X8_muleOf (0) (show 0 < w.1 by rw [hw]; decide) ((lW_lo (by decide)).trans (CX_0 hX)) (q9 := _) rfl rfl (cq_muleOf hw (CX_lW hX)) ⟨Nat.le_of_ble_eq_true rfl, Nat.le_of_ble_eq_true rfl⟩ ⟨Nat.le_refl _, Nat.le_refl _⟩ rfl (Nat.le_of_ble_eq_true rfl) zm_3_44 rfl dL_areMules_70 rfl ?_
    refine zr_aload_n X 4 dL_areMules_73 rfl rfl ?_
    refine zr_iload X 1 dL_areMules_74 rfl ?_
    refine zr_lld X hw lr_m (9 * n) (19 + 9 * n) (rfl) (by omega) (by omega) dL_areMules_76 ?_
    refine zr_icmp_ne X (tgt := 251) dL_areMules_77 (by decide) (fun h => False.elim (h (mo_a hm hm4 hn36 (j := 0) (by decide)))) (fun _ => ?_)
    refine zr_aload_n X 2 dL_areMules_80 rfl rfl ?_
    refine zr_iload X 6 dL_areMules_81 rfl ?_
    refine zr_iconst X (v := 1) dL_areMules_83 (by decide) ?_
    refine zr_cV X (As := [.int (nI (n)), .int (1)]) (rest := []) (f' := lW cy f s) (st' := [.int (dMuleOf s (nI (n)) 1)]) zc_X8_muleOf (0) (show 0 < w.1 by rw [hw]; decide) ((lW_lo (by decide)).trans (CX_0 hX)) (q9 := _) rfl rfl (cq_muleOf hw (CX_lW hX)) ⟨Nat.le_of_ble_eq_true rfl, Nat.le_of_ble_eq_true rfl⟩ ⟨Nat.le_refl _, Nat.le_refl _⟩ rfl (Nat.le_of_ble_eq_true rfl) zm_3_44 rfl dL_areMules_84 rfl ?_
    refine zr_aload_n X 4 dL_areMules_87 rfl rfl ?_
    refine zr_iload X 1 dL_areMules_88 rfl ?_
    refine zr_iconst X (v := 1) dL_areMules_90 (by decide) ?_
    refine zr_iadd X dL_areMules_91 ?_
    refine zr_lld X hw lr_m (9 * n + 1) (19 + 9 * n + 1) (nI_add _ 1) (by omega) (by omega) dL_areMules_92 ?_
    refine zr_icmp_ne X (tgt := 251) dL_areMules_93 (by decide) (fun h => False.elim (h (mo_a hm hm4 hn36 (j := 1) (by decide)))) (fun _ => ?_)
    refine zr_aload_n X 2 dL_areMules_96 rfl rfl ?_
    refine zr_iload X 6 dL_areMules_97 rfl ?_
    refine zr_iconst X (v := 2) dL_areMules_99 (by decide) ?_
    refine zr_cV X (As := [.int (nI (n)), .int (2)]) (rest := []) (f' := lW cy f s) (st' := [.int (dMuleOf s (nI (n)) 2)]) zc_X8_muleOf (0) (show 0 < w.1 by rw [hw]; decide) ((lW_lo (by decide)).trans (CX_0 hX)) (q9 := _) rfl rfl (cq_muleOf hw (CX_lW hX)) ⟨Nat.le_of_ble_eq_true rfl, Nat.le_of_ble_eq_true rfl⟩ ⟨Nat.le_refl _, Nat.le_refl _⟩ rfl (Nat.le_of_ble_eq_true rfl) zm_3_44 rfl dL_areMules_100 rfl ?_
    refine zr_aload_n X 4 dL_areMules_103 rfl rfl ?_
    refine zr_iload X 1 dL_areMules_104 rfl ?_
    refine zr_iconst X (v := 2) dL_areMules_106 (by decide) ?_
    refine zr_iadd X dL_areMules_107 ?_
    refine zr_lld X hw lr_m (9 * n + 2) (19 + 9 * n + 2) (nI_add _ 2) (by omega) (by omega) dL_areMules_108 ?_
    refine zr_icmp_ne X (tgt := 251) dL_areMules_109 (by decide) (fun h => False.elim (h (mo_a hm hm4 hn36 (j := 2) (by decide)))) (fun _ => ?_)
    refine zr_aload_n X 2 dL_areMules_112 rfl rfl ?_
    refine zr_iload X 6 dL_areMules_113 rfl ?_
    refine zr_iconst X (v := 3) dL_areMules_115 (by decide) ?_
    refine zr_cV X (As := [.int (nI (n)), .int (3)]) (rest := []) (f' := lW cy f s) (st' := [.int (dMuleOf s (nI (n)) 3)]) zc_X8_muleOf (0) (show 0 < w.1 by rw [hw]; decide) ((lW_lo (by decide)).trans (CX_0 hX)) (q9 := _) rfl rfl (cq_muleOf hw (CX_lW hX)) ⟨Nat.le_of_ble_eq_true rfl, Nat.le_of_ble_eq_true rfl⟩ ⟨Nat.le_refl _, Nat.le_refl _⟩ rfl (Nat.le_of_ble_eq_true rfl) zm_3_44 rfl dL_areMules_116 rfl ?_
    refine zr_aload_n X 4 dL_areMules_119 rfl rfl ?_
    refine zr_iload X 1 dL_areMules_120 rfl ?_
    refine zr_iconst X (v := 3) dL_areMules_122 (by decide) ?_
    refine zr_iadd X dL_areMules_123 ?_
    refine zr_lld X hw lr_m (9 * n + 3) (19 + 9 * n + 3) (nI_add _ 3) (by omega) (by omega) dL_areMules_124 ?_
    refine zr_icmp_ne X (tgt := 251) dL_areMules_125 (by decide) (fun h => False.elim (h (mo_a hm hm4 hn36 (j := 3) (by decide)))) (fun _ => ?_)
    refine zr_aload_n X 2 dL_areMules_128 rfl rfl ?_
    refine zr_iload X 6 dL_areMules_129 rfl ?_
    refine zr_iconst X (v := 4) dL_areMules_131 (by decide) ?_
    refine zr_cV X (As := [.int (nI (n)), .int (4)]) (rest := []) (f' := lW cy f s) (st' := [.int (dMuleOf s (nI (n)) 4)]) zc_X8_muleOf (0) (show 0 < w.1 by rw [hw]; decide) ((lW_lo (by decide)).trans (CX_0 hX)) (q9 := _) rfl rfl (cq_muleOf hw (CX_lW hX)) ⟨Nat.le_of_ble_eq_true rfl, Nat.le_of_ble_eq_true rfl⟩ ⟨Nat.le_refl _, Nat.le_refl _⟩ rfl (Nat.le_of_ble_eq_true rfl) zm_3_44 rfl dL_areMules_132 rfl ?_
    refine zr_aload_n X 4 dL_areMules_135 rfl rfl ?_
    refine zr_iload X 1 dL_areMules_136 rfl ?_
    refine zr_iconst X (v := 4) dL_areMules_138 (by decide) ?_
    refine zr_iadd X dL_areMules_139 ?_
    refine zr_lld X hw lr_m (9 * n + 4) (19 + 9 * n + 4) (nI_add _ 4) (by omega) (by omega) dL_areMules_140 ?_
    refine zr_icmp_ne X (tgt := 251) dL_areMules_141 (by decide) (fun h => False.elim (h (mo_a hm hm4 hn36 (j := 4) (by decide)))) (fun _ => ?_)
    refine zr_aload_n X 2 dL_areMules_144 rfl rfl ?_
    refine zr_iload X 6 dL_areMules_145 rfl ?_
    refine zr_iconst X (v := 5) dL_areMules_147 (by decide) ?_
    refine zr_cV X (As := [.int (nI (n)), .int (5)]) (rest := []) (f' := lW cy f s) (st' := [.int (dMuleOf s (nI (n)) 5)]) zc_X8_muleOf (0) (show 0 < w.1 by rw [hw]; decide) ((lW_lo (by decide)).trans (CX_0 hX)) (q9 := _) rfl rfl (cq_muleOf hw (CX_lW hX)) ⟨Nat.le_of_ble_eq_true rfl, Nat.le_of_ble_eq_true rfl⟩ ⟨Nat.le_refl _, Nat.le_refl _⟩ rfl (Nat.le_of_ble_eq_true rfl) zm_3_44 rfl dL_areMules_148 rfl ?_
    refine zr_aload_n X 4 dL_areMules_151 rfl rfl ?_
    refine zr_iload X 1 dL_areMules_152 rfl ?_
    refine zr_bipush X (v := 6) dL_areMules_154 (by decide) ?_
    refine zr_iadd X dL_areMules_156 ?_
    refine zr_lld X hw lr_m (9 * n + 6) (19 + 9 * n + 6) (nI_add _ 6) (by omega) (by omega) dL_areMules_157 ?_
    refine zr_icmp_ne X (tgt := 251) dL_areMules_158 (by decide) (fun h => False.elim (h (mo_b hm hm4 hn36 (j := 5) (by decide) (by decide)))) (fun _ => ?_)
    refine zr_aload_n X 2 dL_areMules_161 rfl rfl ?_
    refine zr_iload X 6 dL_areMules_162 rfl ?_
    refine zr_bipush X (v := 6) dL_areMules_164 (by decide) ?_
    refine zr_cV X (As := [.int (nI (n)), .int (6)]) (rest := []) (f' := lW cy f s) (st' := [.int (dMuleOf s (nI (n)) 6)]) zc_X8_muleOf (0) (show 0 < w.1 by rw [hw]; decide) ((lW_lo (by decide)).trans (CX_0 hX)) (q9 := _) rfl rfl (cq_muleOf hw (CX_lW hX)) ⟨Nat.le_of_ble_eq_true rfl, Nat.le_of_ble_eq_true rfl⟩ ⟨Nat.le_refl _, Nat.le_refl _⟩ rfl (Nat.le_of_ble_eq_true rfl) zm_3_44 rfl dL_areMules_166 rfl ?_
    refine zr_aload_n X 4 dL_areMules_169 rfl rfl ?_
    refine zr_iload X 1 dL_areMules_170 rfl ?_
    refine zr_bipush X (v := 7) dL_areMules_172 (by decide) ?_
    refine zr_iadd X dL_areMules_174 ?_
    refine zr_lld X hw lr_m (9 * n + 7) (19 + 9 * n + 7) (nI_add _ 7) (by omega) (by omega) dL_areMules_175 ?_
    refine zr_icmp_ne X (tgt := 251) dL_areMules_176 (by decide) (fun h => False.elim (h (mo_b hm hm4 hn36 (j := 6) (by decide) (by decide)))) (fun _ => ?_)
    refine zr_aload_n X 2 dL_areMules_179 rfl rfl ?_
    refine zr_iload X 6 dL_areMules_180 rfl ?_
    refine zr_bipush X (v := 7) dL_areMules_182 (by decide) ?_
    refine zr_cV X (As := [.int (nI (n)), .int (7)]) (rest := []) (f' := lW cy f s) (st' := [.int (dMuleOf s (nI (n)) 7)]) zc_X8_muleOf (0) (show 0 < w.1 by rw [hw]; decide) ((lW_lo (by decide)).trans (CX_0 hX)) (q9 := _) rfl rfl (cq_muleOf hw (CX_lW hX)) ⟨Nat.le_of_ble_eq_true rfl, Nat.le_of_ble_eq_true rfl⟩ ⟨Nat.le_refl _, Nat.le_refl _⟩ rfl (Nat.le_of_ble_eq_true rfl) zm_3_44 rfl dL_areMules_184 rfl ?_
    refine zr_aload_n X 4 dL_areMules_187 rfl rfl ?_
    refine zr_iload X 1 dL_areMules_188 rfl ?_
    refine zr_bipush X (v := 8) dL_areMules_190 (by decide) ?_
    refine zr_iadd X dL_areMules_192 ?_
    refine zr_lld X hw lr_m (9 * n + 8) (19 + 9 * n + 8) (nI_add _ 8) (by omega) (by omega) dL_areMules_193 ?_
    refine zr_icmp_ne X (tgt := 251) dL_areMules_194 (by decide) (fun h => False.elim (h (mo_b hm hm4 hn36 (j := 7) (by decide) (by decide)))) (fun _ => ?_)
    refine zr_aload_n X 2 dL_areMules_197 rfl rfl ?_
    refine zr_iload X 6 dL_areMules_198 rfl ?_
    refine zr_bipush X (v := 8) dL_areMules_200 (by decide) ?_
    refine zr_cV X (As := [.int (nI (n)), .int (8)]) (rest := []) (f' := lW cy f s) (st' := [.int (dMuleOf s (nI (n)) 8)]) zc_X8_muleOf (0) (show 0 < w.1 by rw [hw]; decide) ((lW_lo (by decide)).trans (CX_0 hX)) (q9 := _) rfl rfl (cq_muleOf hw (CX_lW hX)) ⟨Nat.le_of_ble_eq_true rfl, Nat.le_of_ble_eq_true rfl⟩ ⟨Nat.le_refl _, Nat.le_refl _⟩ rfl (Nat.le_of_ble_eq_true rfl) zm_3_44 rfl dL_areMules_202 rfl ?_
    refine zr_ldc X zm_2_142 dL_areMules_205 ?_
    refine zr_icmp_ne X (tgt := 251) dL_areMules_207 (by decide) (fun h => False.elim (h (mo_8 hm hm4 hn36))) (fun _ => ?_)
    refine zr_aload_n X 4 dL_areMules_210 rfl rfl ?_
    refine zr_iload X 1 dL_areMules_211 rfl ?_
    refine zr_iconst X (v := 2) dL_areMules_213 (by decide) ?_
    refine zr_iadd X dL_areMules_214 ?_
    refine zr_lld X hw lr_m (9 * n + 2) (19 + 9 * n + 2) (nI_add _ 2) (by omega) (by omega) dL_areMules_215 ?_
    refine zr_if_gt X (tgt := 228) dL_areMules_216 (by decide) (fun h1 => ?_) (fun h2 => ?_)
    · refine zr_aload_n X 4 dL_areMules_228 rfl rfl ?_
      refine zr_iload X 1 dL_areMules_229 rfl ?_
      refine zr_iconst X (v := 2) dL_areMules_231 (by decide) ?_
      refine zr_iadd X dL_areMules_232 ?_
      refine zr_lld X hw lr_m (9 * n + 2) (19 + 9 * n + 2) (nI_add _ 2) (by omega) (by omega) dL_areMules_233 ?_
      refine zr_iconst X (v := 1) dL_areMules_234 (by decide) ?_
      refine zr_icmp_eq X (tgt := 247) dL_areMules_235 (by decide) (fun h3 => ?_) (fun h4 => ?_)
      · refine zr_iconst X (v := 1) dL_areMules_247 (by decide) ?_
        refine zr_goto X (tgt := 252) dL_areMules_248 (by decide) ?_
        refine zr_istore_n X (ls' := [(3, .int (1)), (4, .int ((dOt s (n)) + (s (19 + 9 * n + 4)))), (6, .int (nI (9 * n))), (0, .ref (w.2 (0))), (1, .ref (w.2 (132))), (2, .ref (w.2 (133))), (5, .int (nI (n)))]) dL_areMules_252 rfl (by decide) rfl ?_
        refine zr_iinc X (v := nI (n + 1)) (ls' := [(5, .int (nI (n + 1))), (3, .int (1)), (4, .int ((dOt s (n)) + (s (19 + 9 * n + 4)))), (6, .int (nI (9 * n))), (0, .ref (w.2 (0))), (1, .ref (w.2 (132))), (2, .ref (w.2 (133)))]) 6 dL_areMules_253 rfl (zinc1 _) (by decide) rfl ?_
        refine zr_goto X (tgt := 36) dL_areMules_256 (by decide) ?_
        refine zr_loc X (ls' := [(0, .ref (w.2 (0))), (1, .ref (w.2 (132))), (2, .ref (w.2 (133))), (3, .int (1)), (4, .int ((dOt s (n)) + (s (19 + 9 * n + 4)))), (5, .int (nI (n + 1)))]) [4, 5, 6, 1, 2, 0] rfl ?_
        exact zcast (f2 := lW cy f s) (ls2 := [(0, .ref (w.2 (0))), (1, .ref (w.2 (132))), (2, .ref (w.2 (133))), (3, .int (1)), (4, .int (dOt s (n + 1))), (5, .int (nI (n + 1)))]) rfl rfl ih36
      · refine zr_aload_n X 4 dL_areMules_238 rfl rfl ?_
        refine zr_iload X 1 dL_areMules_239 rfl ?_
        refine zr_iconst X (v := 4) dL_areMules_241 (by decide) ?_
        refine zr_iadd X dL_areMules_242 ?_
        refine zr_lld X hw lr_m (9 * n + 4) (19 + 9 * n + 4) (nI_add _ 4) (by omega) (by omega) dL_areMules_243 ?_
        refine zr_if_ne X (tgt := 251) dL_areMules_244 (by decide) (fun h => False.elim (h ((jn.1 n hn36).2 h4))) (fun _ => ?_)
        refine zr_iconst X (v := 1) dL_areMules_247 (by decide) ?_
        refine zr_goto X (tgt := 252) dL_areMules_248 (by decide) ?_
        refine zr_istore_n X (ls' := [(3, .int (1)), (4, .int ((dOt s (n)) + (s (19 + 9 * n + 4)))), (6, .int (nI (9 * n))), (0, .ref (w.2 (0))), (1, .ref (w.2 (132))), (2, .ref (w.2 (133))), (5, .int (nI (n)))]) dL_areMules_252 rfl (by decide) rfl ?_
        refine zr_iinc X (v := nI (n + 1)) (ls' := [(5, .int (nI (n + 1))), (3, .int (1)), (4, .int ((dOt s (n)) + (s (19 + 9 * n + 4)))), (6, .int (nI (9 * n))), (0, .ref (w.2 (0))), (1, .ref (w.2 (132))), (2, .ref (w.2 (133)))]) 6 dL_areMules_253 rfl (zinc1 _) (by decide) rfl ?_
        refine zr_goto X (tgt := 36) dL_areMules_256 (by decide) ?_
        refine zr_loc X (ls' := [(0, .ref (w.2 (0))), (1, .ref (w.2 (132))), (2, .ref (w.2 (133))), (3, .int (1)), (4, .int ((dOt s (n)) + (s (19 + 9 * n + 4)))), (5, .int (nI (n + 1)))]) [4, 5, 6, 1, 2, 0] rfl ?_
        exact zcast (f2 := lW cy f s) (ls2 := [(0, .ref (w.2 (0))), (1, .ref (w.2 (132))), (2, .ref (w.2 (133))), (3, .int (1)), (4, .int (dOt s (n + 1))), (5, .int (nI (n + 1)))]) rfl rfl ih36
    · refine zr_aload_n X 4 dL_areMules_219 rfl rfl ?_
      refine zr_iload X 1 dL_areMules_220 rfl ?_
      refine zr_iconst X (v := 3) dL_areMules_222 (by decide) ?_
      refine zr_iadd X dL_areMules_223 ?_
      refine zr_lld X hw lr_m (9 * n + 3) (19 + 9 * n + 3) (nI_add _ 3) (by omega) (by omega) dL_areMules_224 ?_
      refine zr_if_ne X (tgt := 251) dL_areMules_225 (by decide) (fun h => False.elim (h (jx_3 (hM n hn36) (jn.1 n hn36) h2))) (fun _ => ?_)
      refine zr_aload_n X 4 dL_areMules_228 rfl rfl ?_
      refine zr_iload X 1 dL_areMules_229 rfl ?_
      refine zr_iconst X (v := 2) dL_areMules_231 (by decide) ?_
      refine zr_iadd X dL_areMules_232 ?_
      refine zr_lld X hw lr_m (9 * n + 2) (19 + 9 * n + 2) (nI_add _ 2) (by omega) (by omega) dL_areMules_233 ?_
      refine zr_iconst X (v := 1) dL_areMules_234 (by decide) ?_
      refine zr_icmp_eq X (tgt := 247) dL_areMules_235 (by decide) (fun h5 => ?_) (fun h6 => ?_)
      · refine zr_iconst X (v := 1) dL_areMules_247 (by decide) ?_
        refine zr_goto X (tgt := 252) dL_areMules_248 (by decide) ?_
        refine zr_istore_n X (ls' := [(3, .int (1)), (4, .int ((dOt s (n)) + (s (19 + 9 * n + 4)))), (6, .int (nI (9 * n))), (0, .ref (w.2 (0))), (1, .ref (w.2 (132))), (2, .ref (w.2 (133))), (5, .int (nI (n)))]) dL_areMules_252 rfl (by decide) rfl ?_
        refine zr_iinc X (v := nI (n + 1)) (ls' := [(5, .int (nI (n + 1))), (3, .int (1)), (4, .int ((dOt s (n)) + (s (19 + 9 * n + 4)))), (6, .int (nI (9 * n))), (0, .ref (w.2 (0))), (1, .ref (w.2 (132))), (2, .ref (w.2 (133)))]) 6 dL_areMules_253 rfl (zinc1 _) (by decide) rfl ?_
        refine zr_goto X (tgt := 36) dL_areMules_256 (by decide) ?_
        refine zr_loc X (ls' := [(0, .ref (w.2 (0))), (1, .ref (w.2 (132))), (2, .ref (w.2 (133))), (3, .int (1)), (4, .int ((dOt s (n)) + (s (19 + 9 * n + 4)))), (5, .int (nI (n + 1)))]) [4, 5, 6, 1, 2, 0] rfl ?_
        exact zcast (f2 := lW cy f s) (ls2 := [(0, .ref (w.2 (0))), (1, .ref (w.2 (132))), (2, .ref (w.2 (133))), (3, .int (1)), (4, .int (dOt s (n + 1))), (5, .int (nI (n + 1)))]) rfl rfl ih36
      · refine zr_aload_n X 4 dL_areMules_238 rfl rfl ?_
        refine zr_iload X 1 dL_areMules_239 rfl ?_
        refine zr_iconst X (v := 4) dL_areMules_241 (by decide) ?_
        refine zr_iadd X dL_areMules_242 ?_
        refine zr_lld X hw lr_m (9 * n + 4) (19 + 9 * n + 4) (nI_add _ 4) (by omega) (by omega) dL_areMules_243 ?_
        refine zr_if_ne X (tgt := 251) dL_areMules_244 (by decide) (fun h => False.elim (h ((jn.1 n hn36).2 h6))) (fun _ => ?_)
        refine zr_iconst X (v := 1) dL_areMules_247 (by decide) ?_
        refine zr_goto X (tgt := 252) dL_areMules_248 (by decide) ?_
        refine zr_istore_n X (ls' := [(3, .int (1)), (4, .int ((dOt s (n)) + (s (19 + 9 * n + 4)))), (6, .int (nI (9 * n))), (0, .ref (w.2 (0))), (1, .ref (w.2 (132))), (2, .ref (w.2 (133))), (5, .int (nI (n)))]) dL_areMules_252 rfl (by decide) rfl ?_
        refine zr_iinc X (v := nI (n + 1)) (ls' := [(5, .int (nI (n + 1))), (3, .int (1)), (4, .int ((dOt s (n)) + (s (19 + 9 * n + 4)))), (6, .int (nI (9 * n))), (0, .ref (w.2 (0))), (1, .ref (w.2 (132))), (2, .ref (w.2 (133)))]) 6 dL_areMules_253 rfl (zinc1 _) (by decide) rfl ?_
        refine zr_goto X (tgt := 36) dL_areMules_256 (by decide) ?_
        refine zr_loc X (ls' := [(0, .ref (w.2 (0))), (1, .ref (w.2 (132))), (2, .ref (w.2 (133))), (3, .int (1)), (4, .int ((dOt s (n)) + (s (19 + 9 * n + 4)))), (5, .int (nI (n + 1)))]) [4, 5, 6, 1, 2, 0] rfl ?_
        exact zcast (f2 := lW cy f s) (ls2 := [(0, .ref (w.2 (0))), (1, .ref (w.2 (132))), (2, .ref (w.2 (133))), (3, .int (1)), (4, .int (dOt s (n + 1))), (5, .int (nI (n + 1)))]) rfl rfl ih36
theorem nu_top {s : Nat → Int32} {bk : Nat} (hb : s 1 = nI bk) (hb10 : bk ≤ 10) : dNumber s (s 1) = -1000004 := by
  unfold dNumber
  rw [if_pos (show (0 : Int32) ≤ s 1 from tle.mpr (by rw [hb, tk0, tnI (by omega)]; omega)), if_pos (Int32.le_refl _)]
theorem nu_at {s : Nat → Int32} {bk n : Nat} (hb : s 1 = nI bk) (hb10 : bk ≤ 10) (hn : n < bk) : dNumber s (nI n) = s (55 + 6 * n) := by
  unfold dNumber
  rw [if_pos (show (0 : Int32) ≤ nI n from tle.mpr (by rw [tk0, tnI (by omega)]; omega)), if_neg (fun z => by have y := tle.mp z; rw [hb, tnI (by omega), tnI (by omega)] at y; omega), nI_clamp (by omega)]
  rfl
theorem go_no {s : Nat → Int32} {bk : Nat} {x y : Int32} (hb10 : bk ≤ 10) (h : jL (gl s bk) (s 2).toInt) (c : x.toInt < 0 ∨ (s 2).toInt ≤ x.toInt) : dGroupOf s bk x y = -1000001 := by
  have e := (dPl_num h hb10 (x := x) bk 0 (by omega)).2 (fun j _ hj z => by
    have := (jl_num h).1 j hj
    rw [z] at this
    omega)
  unfold dGroupOf
  rw [e, if_pos (by decide)]
theorem go_at {s : Nat → Int32} {bk n : Nat} {d : Int} {y : Int32} (hb10 : bk ≤ 10) (h : jL (gl s bk) d) (hn : n < bk) (hy : ¬ zwin y 0 6 = 0) : dGroupOf s bk (s (55 + 6 * n)) y = dGrp s n y := by
  have e := (dPl_num h hb10 (x := s (55 + 6 * n)) bk 0 (by omega)).1 n (Nat.zero_le _) hn rfl
  unfold dGroupOf
  rw [e, if_neg (fun z => by have y := tlt.mp z; rw [tk0, tnI (by omega)] at y; omega), if_neg hy, nI_clamp (by omega)]
theorem go_7 {s : Nat → Int32} {bk n : Nat} {d : Int} (hb10 : bk ≤ 10) (h : jL (gl s bk) d) (hn : n < bk) : dGroupOf s bk (s (55 + 6 * n)) 7 = -1000001 := by
  have e := (dPl_num h hb10 (x := s (55 + 6 * n)) bk 0 (by omega)).1 n (Nat.zero_le _) hn rfl
  unfold dGroupOf
  rw [e, if_neg (fun z => by have y := tlt.mp z; rw [tk0, tnI (by omega)] at y; omega), if_pos (by decide)]
theorem gr_lt {s : Nat → Int32} {n : Nat} (h : iGr s n ∧ (s 3).toInt < (s (55 + 6 * n + 2)).toInt + (s (55 + 6 * n + 3)).toInt) (c : s (55 + 6 * n + 2) + s (55 + 6 * n + 3) ≤ s 3) : False := by
  obtain ⟨⟨-, ⟨f0, f1⟩, ⟨g0, g1⟩⟩, l⟩ := h
  have y := tle.mp c
  rw [tadd (by omega) (by omega)] at y
  omega
theorem gt_4 {s : Nat → Int32} {n : Nat} (h : iGr s n) (d0 : 0 ≤ (s 3).toInt) (d1 : (s 3).toInt ≤ 20000) : dGrp s n 4 = if s 3 < s (55 + 6 * n + 2) then 0 else if s (55 + 6 * n + 2) + s (55 + 6 * n + 3) ≤ s 3 then 0 else 1 := by
  obtain ⟨-, ⟨f0, f1⟩, ⟨g0, g1⟩⟩ := h
  have t := there_t (d := s 3) (f := s (55 + 6 * n + 2)) (n := s (55 + 6 * n + 3)) d0 d1 f0 f1 g0 g1
  have e : dGrp s n 4 = if zwin (s 3 - s (55 + 6 * n + 2)) 0 (s (55 + 6 * n + 3) - 1) = 0 then 0 else 1 := rfl
  rw [e, ← t]
  split
  · rw [if_pos rfl]
  · split
    · rw [if_pos rfl]
    · rw [if_neg (by decide)]
set_option maxHeartbeats 4000000 in
set_option maxRecDepth 100000 in
theorem kl_areGroups {l : Launch} {D : va_G} {cy : Nat → ClassId} {w : zW} {f : zF} {s : Nat → Int32} {B : Int} {gs : zGS} {mc bk fr : Nat} (hw : w.1 = 136) (hX : CX w cy f B s) (kn : Kn B gs mc bk fr s) : zSd l D cy yL_areGroups cL_areGroups 7 (some .boolean) 3 67 [.ref (w.2 (0)), .ref (w.2 (132)), .ref (w.2 (134))] w (lW cy f s) (some (.int (1))) (lW cy f s) := by
  refine zSd.intro (by decide) (Nat.le_of_ble_eq_true rfl) (fun G X E => ?_)
  obtain ⟨r, o, v, jn, e17, hfr⟩ := id kn
  have hm := r.s0.1
  have hm4 := r.s0.2
  have hb := r.s1.1
  have hb10 := r.s1.2
  have hM := v.1
  show G (w, 0, 0) (lW cy f s) [(0, .ref (w.2 (0))), (1, .ref (w.2 (132))), (2, .ref (w.2 (134)))] 0 []
  refine zr_aload_n X 0 dL_areGroups_0 rfl rfl ?_
  refine zr_iconst X (v := (-1)) dL_areGroups_1 (by decide) ?_
  refine zr_cV X (As := [.int ((-1))]) (rest := []) (f' := lW cy f s) (st' := [.int (dNumber s (-1))]) zc_X8_number (0) (show 0 < w.1 by rw [hw]; decide) ((lW_lo (by decide)).trans (CX_0 hX)) (q9 := _) rfl rfl (cq_number hw (CX_lW hX)) ⟨Nat.le_of_ble_eq_true rfl, Nat.le_of_ble_eq_true rfl⟩ ⟨Nat.le_refl _, Nat.le_refl _⟩ rfl (Nat.le_of_ble_eq_true rfl) zm_3_58 rfl dL_areGroups_2 rfl ?_
  refine zr_ldc X zm_2_142 dL_areGroups_5 ?_
  refine zr_icmp_ne X (tgt := 50) dL_areGroups_7 (by decide) (fun h => False.elim (h rfl)) (fun _ => ?_)
  refine zr_aload_n X 0 dL_areGroups_10 rfl rfl ?_
  refine zr_aload_n X 1 dL_areGroups_11 rfl rfl ?_
  refine zr_iconst X (v := 1) dL_areGroups_12 (by decide) ?_
  refine zr_lld X hw lr_g (1) (1) (rfl) (by decide) rfl dL_areGroups_13 ?_
  refine zr_cV X (As := [.int (s 1)]) (rest := []) (f' := lW cy f s) (st' := [.int (dNumber s (s 1))]) zc_X8_number (0) (show 0 < w.1 by rw [hw]; decide) ((lW_lo (by decide)).trans (CX_0 hX)) (q9 := _) rfl rfl (cq_number hw (CX_lW hX)) ⟨Nat.le_of_ble_eq_true rfl, Nat.le_of_ble_eq_true rfl⟩ ⟨Nat.le_refl _, Nat.le_refl _⟩ rfl (Nat.le_of_ble_eq_true rfl) zm_3_58 rfl dL_areGroups_14 rfl ?_
  refine zr_ldc X zm_3_64 dL_areGroups_17 ?_
  refine zr_icmp_ne X (tgt := 50) dL_areGroups_19 (by decide) (fun h => False.elim (h (nu_top hb hb10))) (fun _ => ?_)
  refine zr_aload_n X 0 dL_areGroups_22 rfl rfl ?_
  refine zr_aload_n X 1 dL_areGroups_23 rfl rfl ?_
  refine zr_iconst X (v := 2) dL_areGroups_24 (by decide) ?_
  refine zr_lld X hw lr_g (2) (2) (rfl) (by decide) rfl dL_areGroups_25 ?_
  refine zr_iconst X (v := 0) dL_areGroups_26 (by decide) ?_
  refine zr_cV X (As := [.int (s 2), .int (0)]) (rest := []) (f' := lW cy f s) (st' := [.int (dGroupOf s bk (s 2) 0)]) zc_X8_groupOf (0) (show 0 < w.1 by rw [hw]; decide) ((lW_lo (by decide)).trans (CX_0 hX)) (q9 := _) rfl rfl (cq_groupOf bk hb hb10 hw (CX_lW hX)) ⟨Nat.le_of_ble_eq_true rfl, Nat.le_of_ble_eq_true rfl⟩ ⟨Nat.le_refl _, Nat.le_refl _⟩ rfl (Nat.le_of_ble_eq_true rfl) zm_3_65 rfl dL_areGroups_27 rfl ?_
  refine zr_ldc X zm_2_142 dL_areGroups_30 ?_
  refine zr_icmp_ne X (tgt := 50) dL_areGroups_32 (by decide) (fun h => False.elim (h (go_no hb10 jn.2.1 (.inr (Int.le_refl _))))) (fun _ => ?_)
  refine zr_aload_n X 0 dL_areGroups_35 rfl rfl ?_
  refine zr_iconst X (v := (-1)) dL_areGroups_36 (by decide) ?_
  refine zr_iconst X (v := 0) dL_areGroups_37 (by decide) ?_
  refine zr_cV X (As := [.int ((-1)), .int (0)]) (rest := []) (f' := lW cy f s) (st' := [.int (dGroupOf s bk (-1) 0)]) zc_X8_groupOf (0) (show 0 < w.1 by rw [hw]; decide) ((lW_lo (by decide)).trans (CX_0 hX)) (q9 := _) rfl rfl (cq_groupOf bk hb hb10 hw (CX_lW hX)) ⟨Nat.le_of_ble_eq_true rfl, Nat.le_of_ble_eq_true rfl⟩ ⟨Nat.le_refl _, Nat.le_refl _⟩ rfl (Nat.le_of_ble_eq_true rfl) zm_3_65 rfl dL_areGroups_38 rfl ?_
  refine zr_ldc X zm_2_142 dL_areGroups_41 ?_
  refine zr_icmp_ne X (tgt := 50) dL_areGroups_43 (by decide) (fun h => False.elim (h (go_no hb10 jn.2.1 (.inl (by decide))))) (fun _ => ?_)
  refine zr_iconst X (v := 1) dL_areGroups_46 (by decide) ?_
  refine zr_goto X (tgt := 51) dL_areGroups_47 (by decide) ?_
  refine zr_istore_n X (ls' := [(3, .int (1)), (0, .ref (w.2 (0))), (1, .ref (w.2 (132))), (2, .ref (w.2 (134)))]) dL_areGroups_51 rfl (by decide) rfl ?_
  refine zr_iconst X (v := 0) dL_areGroups_52 (by decide) ?_
  refine zr_istore X (ls' := [(4, .int (0)), (3, .int (1)), (0, .ref (w.2 (0))), (1, .ref (w.2 (132))), (2, .ref (w.2 (134)))]) dL_areGroups_53 (by decide) rfl ?_
  refine zr_loc X (ls' := [(0, .ref (w.2 (0))), (1, .ref (w.2 (132))), (2, .ref (w.2 (134))), (3, .int (1)), (4, .int (0))]) [2, 3, 4, 1, 0] rfl ?_
  refine zcast (f2 := lW cy f s) (ls2 := [(0, .ref (w.2 (0))), (1, .ref (w.2 (132))), (2, .ref (w.2 (134))), (3, .int (1)), (4, .int (nI (0)))]) rfl rfl ?_
  refine zdown (P := fun n => G (w, 0, 0) (lW cy f s) [(0, .ref (w.2 (0))), (1, .ref (w.2 (132))), (2, .ref (w.2 (134))), (3, .int (1)), (4, .int (nI (n)))] 55 []) (B := bk) ?_ (fun n hn55 ih55 => ?_) 0 (Nat.zero_le _) 
  · show G (w, 0, 0) (lW cy f s) [(0, .ref (w.2 (0))), (1, .ref (w.2 (132))), (2, .ref (w.2 (134))), (3, .int (1)), (4, .int (nI (bk)))] 55 []
    refine zr_iload X 4 dL_areGroups_55 rfl ?_
    refine zr_aload_n X 1 dL_areGroups_57 rfl rfl ?_
    refine zr_iconst X (v := 1) dL_areGroups_58 (by decide) ?_
    refine zr_lld X hw lr_g (1) (1) (rfl) (by decide) rfl dL_areGroups_59 ?_
    refine zr_icmp_ge X (tgt := 282) dL_areGroups_60 (by decide) (fun _ => ?_) (fun h => False.elim (h (by rw [hb]; exact Int32.le_refl _)))
    refine zr_iload_n X 3 dL_areGroups_282 rfl rfl ?_
    exact zret_z E rfl (Or.inr rfl) dL_areGroups_283 rfl rfl
  · show G (w, 0, 0) (lW cy f s) [(0, .ref (w.2 (0))), (1, .ref (w.2 (132))), (2, .ref (w.2 (134))), (3, .int (1)), (4, .int (nI (n)))] 55 []
    refine zr_iload X 4 dL_areGroups_55 rfl ?_
    refine zr_aload_n X 1 dL_areGroups_57 rfl rfl ?_
    refine zr_iconst X (v := 1) dL_areGroups_58 (by decide) ?_
    refine zr_lld X hw lr_g (1) (1) (rfl) (by decide) rfl dL_areGroups_59 ?_
    refine zr_icmp_ge X (tgt := 282) dL_areGroups_60 (by decide) (fun h => False.elim (nI_ge hn55 (by omega) (by rw [← hb]; exact h))) (fun _ => ?_)
    refine zr_iload_n X 3 dL_areGroups_63 rfl rfl ?_
    refine zr_if_eq X (tgt := 282) dL_areGroups_64 (by decide) (fun h => absurd h (by decide)) (fun _ => ?_)
    refine zr_bipush X (v := 6) dL_areGroups_67 (by decide) ?_
    refine zr_iload X 4 dL_areGroups_69 rfl ?_
    refine zr_imul X dL_areGroups_71 ?_
    refine zr_istore X (ls' := [(5, .int (6 * (nI (n)))), (0, .ref (w.2 (0))), (1, .ref (w.2 (132))), (2, .ref (w.2 (134))), (3, .int (1)), (4, .int (nI (n)))]) dL_areGroups_72 (by decide) rfl ?_
    rw [show (6 : Int32) * nI n = nI (6 * n) from nI_ml (c := 6)]
    show G (w, 0, 0) (lW cy f s) [(5, .int (nI (6 * n))), (0, .ref (w.2 (0))), (1, .ref (w.2 (132))), (2, .ref (w.2 (134))), (3, .int (1)), (4, .int (nI (n)))] 74 []
    refine zr_aload_n X 3 dL_areGroups_74 rfl rfl ?_
    refine zr_iload X 0 dL_areGroups_75 rfl ?_
    refine zr_lld X hw lr_p (6 * n) (55 + 6 * n) (rfl) (by omega) (by omega) dL_areGroups_77 ?_
    refine zr_istore X (ls' := [(6, .int (s (55 + 6 * n))), (5, .int (nI (6 * n))), (0, .ref (w.2 (0))), (1, .ref (w.2 (132))), (2, .ref (w.2 (134))), (3, .int (1)), (4, .int (nI (n)))]) dL_areGroups_78 (by decide) rfl ?_
    refine zr_aload_n X 2 dL_areGroups_80 rfl rfl ?_
    refine zr_iload X 6 dL_areGroups_81 rfl ?_
    refine zr_cV X (As := [.int (nI (n))]) (rest := []) (f' := lW cy f s) (st' := [.int (dNumber s (nI (n)))]) zc_X8_number (0) (show 0 < w.1 by rw [hw]; decide) ((lW_lo (by decide)).trans (CX_0 hX)) (q9 := _) rfl rfl (cq_number hw (CX_lW hX)) ⟨Nat.le_of_ble_eq_true rfl, Nat.le_of_ble_eq_true rfl⟩ ⟨Nat.le_refl _, Nat.le_refl _⟩ rfl (Nat.le_of_ble_eq_true rfl) zm_3_58 rfl dL_areGroups_83 rfl ?_
    refine zr_iload X 0 dL_areGroups_86 rfl ?_
    refine zr_icmp_ne X (tgt := 274) dL_areGroups_88 (by decide) (fun h => False.elim (h (nu_at hb hb10 hn55))) (fun _ => ?_)
    refine zr_aload_n X 2 dL_areGroups_91 rfl rfl ?_
    refine zr_iload X 0 dL_areGroups_92 rfl ?_
    refine zr_iconst X (v := 0) dL_areGroups_94 (by decide) ?_
    refine zr_cV X (As := [.int (s (55 + 6 * n)), .int (0)]) (rest := []) (f' := lW cy f s) (st' := [.int (dGroupOf s bk (s (55 + 6 * n)) 0)]) zc_X8_groupOf (0) (show 0 < w.1 by rw [hw]; decide) ((lW_lo (by decide)).trans (CX_0 hX)) (q9 := _) rfl rfl (cq_groupOf bk hb hb10 hw (CX_lW hX)) ⟨Nat.le_of_ble_eq_true rfl, Nat.le_of_ble_eq_true rfl⟩ ⟨Nat.le_refl _, Nat.le_refl _⟩ rfl (Nat.le_of_ble_eq_true rfl) zm_3_65 rfl dL_areGroups_95 rfl ?_
    refine zr_aload_n X 4 dL_areGroups_98 rfl rfl ?_
    refine zr_iload X 1 dL_areGroups_99 rfl ?_
    refine zr_iconst X (v := 1) dL_areGroups_101 (by decide) ?_
    refine zr_iadd X dL_areGroups_102 ?_
    refine zr_lld X hw lr_p (6 * n + 1) (55 + 6 * n + 1) (nI_add _ 1) (by omega) (by omega) dL_areGroups_103 ?_
    refine zr_icmp_ne X (tgt := 274) dL_areGroups_104 (by decide) (fun h => False.elim (h ((go_at hb10 jn.2.1 hn55 (y := 0) (by decide)).trans rfl))) (fun _ => ?_)
    refine zr_aload_n X 2 dL_areGroups_107 rfl rfl ?_
    refine zr_iload X 0 dL_areGroups_108 rfl ?_
    refine zr_iconst X (v := 1) dL_areGroups_110 (by decide) ?_
    refine zr_cV X (As := [.int (s (55 + 6 * n)), .int (1)]) (rest := []) (f' := lW cy f s) (st' := [.int (dGroupOf s bk (s (55 + 6 * n)) 1)]) zc_X8_groupOf (0) (show 0 < w.1 by rw [hw]; decide) ((lW_lo (by decide)).trans (CX_0 hX)) (q9 := _) rfl rfl (cq_groupOf bk hb hb10 hw (CX_lW hX)) ⟨Nat.le_of_ble_eq_true rfl, Nat.le_of_ble_eq_true rfl⟩ ⟨Nat.le_refl _, Nat.le_refl _⟩ rfl (Nat.le_of_ble_eq_true rfl) zm_3_65 rfl dL_areGroups_111 rfl ?_
    refine zr_aload_n X 4 dL_areGroups_114 rfl rfl ?_
    refine zr_iload X 1 dL_areGroups_115 rfl ?_
    refine zr_iconst X (v := 2) dL_areGroups_117 (by decide) ?_
    refine zr_iadd X dL_areGroups_118 ?_
    refine zr_lld X hw lr_p (6 * n + 2) (55 + 6 * n + 2) (nI_add _ 2) (by omega) (by omega) dL_areGroups_119 ?_
    refine zr_icmp_ne X (tgt := 274) dL_areGroups_120 (by decide) (fun h => False.elim (h ((go_at hb10 jn.2.1 hn55 (y := 1) (by decide)).trans rfl))) (fun _ => ?_)
    refine zr_aload_n X 2 dL_areGroups_123 rfl rfl ?_
    refine zr_iload X 0 dL_areGroups_124 rfl ?_
    refine zr_iconst X (v := 2) dL_areGroups_126 (by decide) ?_
    refine zr_cV X (As := [.int (s (55 + 6 * n)), .int (2)]) (rest := []) (f' := lW cy f s) (st' := [.int (dGroupOf s bk (s (55 + 6 * n)) 2)]) zc_X8_groupOf (0) (show 0 < w.1 by rw [hw]; decide) ((lW_lo (by decide)).trans (CX_0 hX)) (q9 := _) rfl rfl (cq_groupOf bk hb hb10 hw (CX_lW hX)) ⟨Nat.le_of_ble_eq_true rfl, Nat.le_of_ble_eq_true rfl⟩ ⟨Nat.le_refl _, Nat.le_refl _⟩ rfl (Nat.le_of_ble_eq_true rfl) zm_3_65 rfl dL_areGroups_127 rfl ?_
    refine zr_aload_n X 4 dL_areGroups_130 rfl rfl ?_
    refine zr_iload X 1 dL_areGroups_131 rfl ?_
    refine zr_iconst X (v := 3) dL_areGroups_133 (by decide) ?_
    refine zr_iadd X dL_areGroups_134 ?_
    refine zr_lld X hw lr_p (6 * n + 3) (55 + 6 * n + 3) (nI_add _ 3) (by omega) (by omega) dL_areGroups_135 ?_
    refine zr_icmp_ne X (tgt := 274) dL_areGroups_136 (by decide) (fun h => False.elim (h ((go_at hb10 jn.2.1 hn55 (y := 2) (by decide)).trans rfl))) (fun _ => ?_)
    refine zr_aload_n X 2 dL_areGroups_139 rfl rfl ?_
    refine zr_iload X 0 dL_areGroups_140 rfl ?_
    refine zr_iconst X (v := 3) dL_areGroups_142 (by decide) ?_
    refine zr_cV X (As := [.int (s (55 + 6 * n)), .int (3)]) (rest := []) (f' := lW cy f s) (st' := [.int (dGroupOf s bk (s (55 + 6 * n)) 3)]) zc_X8_groupOf (0) (show 0 < w.1 by rw [hw]; decide) ((lW_lo (by decide)).trans (CX_0 hX)) (q9 := _) rfl rfl (cq_groupOf bk hb hb10 hw (CX_lW hX)) ⟨Nat.le_of_ble_eq_true rfl, Nat.le_of_ble_eq_true rfl⟩ ⟨Nat.le_refl _, Nat.le_refl _⟩ rfl (Nat.le_of_ble_eq_true rfl) zm_3_65 rfl dL_areGroups_143 rfl ?_
    refine zr_aload_n X 4 dL_areGroups_146 rfl rfl ?_
    refine zr_iload X 1 dL_areGroups_147 rfl ?_
    refine zr_iconst X (v := 1) dL_areGroups_149 (by decide) ?_
    refine zr_iadd X dL_areGroups_150 ?_
    refine zr_lld X hw lr_p (6 * n + 1) (55 + 6 * n + 1) (nI_add _ 1) (by omega) (by omega) dL_areGroups_151 ?_
    refine zr_iconst X (v := 1) dL_areGroups_152 (by decide) ?_
    refine zr_iadd X dL_areGroups_153 ?_
    refine zr_iconst X (v := 2) dL_areGroups_154 (by decide) ?_
    refine zr_idiv X dL_areGroups_155 (by decide) ?_
    refine zr_icmp_ne X (tgt := 274) dL_areGroups_156 (by decide) (fun h => False.elim (h ((go_at hb10 jn.2.1 hn55 (y := 3) (by decide)).trans rfl))) (fun _ => ?_)
    refine zr_aload_n X 2 dL_areGroups_159 rfl rfl ?_
    refine zr_iload X 0 dL_areGroups_160 rfl ?_
    refine zr_iconst X (v := 4) dL_areGroups_162 (by decide) ?_
    refine zr_cV X (As := [.int (s (55 + 6 * n)), .int (4)]) (rest := []) (f' := lW cy f s) (st' := [.int (dGroupOf s bk (s (55 + 6 * n)) 4)]) zc_X8_groupOf (0) (show 0 < w.1 by rw [hw]; decide) ((lW_lo (by decide)).trans (CX_0 hX)) (q9 := _) rfl rfl (cq_groupOf bk hb hb10 hw (CX_lW hX)) ⟨Nat.le_of_ble_eq_true rfl, Nat.le_of_ble_eq_true rfl⟩ ⟨Nat.le_refl _, Nat.le_refl _⟩ rfl (Nat.le_of_ble_eq_true rfl) zm_3_65 rfl dL_areGroups_163 rfl ?_
    refine zr_aload_n X 3 dL_areGroups_166 rfl rfl ?_
    refine zr_iconst X (v := 3) dL_areGroups_167 (by decide) ?_
    refine zr_lld X hw lr_g (3) (3) (rfl) (by decide) rfl dL_areGroups_168 ?_
    refine zr_aload_n X 4 dL_areGroups_169 rfl rfl ?_
    refine zr_iload X 1 dL_areGroups_170 rfl ?_
    refine zr_iconst X (v := 2) dL_areGroups_172 (by decide) ?_
    refine zr_iadd X dL_areGroups_173 ?_
    refine zr_lld X hw lr_p (6 * n + 2) (55 + 6 * n + 2) (nI_add _ 2) (by omega) (by omega) dL_areGroups_174 ?_
    refine zr_icmp_lt X (tgt := 201) dL_areGroups_175 (by decide) (fun h1 => ?_) (fun h2 => ?_)
    · refine zr_iconst X (v := 0) dL_areGroups_201 (by decide) ?_
      refine zr_icmp_ne X (tgt := 274) dL_areGroups_202 (by decide) (fun h => False.elim (h ((go_at hb10 jn.2.1 hn55 (y := 4) (by decide)).trans (by rw [gt_4 (v.2.1 n hn55).1 v.2.2.2.1.1 (by have := v.2.2.2.1.2; omega), if_pos h1])))) (fun _ => ?_)
      refine zr_aload_n X 2 dL_areGroups_205 rfl rfl ?_
      refine zr_iload X 0 dL_areGroups_206 rfl ?_
      refine zr_iconst X (v := 5) dL_areGroups_208 (by decide) ?_
      refine zr_cV X (As := [.int (s (55 + 6 * n)), .int (5)]) (rest := []) (f' := lW cy f s) (st' := [.int (dGroupOf s bk (s (55 + 6 * n)) 5)]) zc_X8_groupOf (0) (show 0 < w.1 by rw [hw]; decide) ((lW_lo (by decide)).trans (CX_0 hX)) (q9 := _) rfl rfl (cq_groupOf bk hb hb10 hw (CX_lW hX)) ⟨Nat.le_of_ble_eq_true rfl, Nat.le_of_ble_eq_true rfl⟩ ⟨Nat.le_refl _, Nat.le_refl _⟩ rfl (Nat.le_of_ble_eq_true rfl) zm_3_65 rfl dL_areGroups_209 rfl ?_
      refine zr_aload_n X 4 dL_areGroups_212 rfl rfl ?_
      refine zr_iload X 1 dL_areGroups_213 rfl ?_
      refine zr_iconst X (v := 4) dL_areGroups_215 (by decide) ?_
      refine zr_iadd X dL_areGroups_216 ?_
      refine zr_lld X hw lr_p (6 * n + 4) (55 + 6 * n + 4) (nI_add _ 4) (by omega) (by omega) dL_areGroups_217 ?_
      refine zr_icmp_ne X (tgt := 274) dL_areGroups_218 (by decide) (fun h => False.elim (h ((go_at hb10 jn.2.1 hn55 (y := 5) (by decide)).trans rfl))) (fun _ => ?_)
      refine zr_aload_n X 2 dL_areGroups_221 rfl rfl ?_
      refine zr_iload X 0 dL_areGroups_222 rfl ?_
      refine zr_bipush X (v := 6) dL_areGroups_224 (by decide) ?_
      refine zr_cV X (As := [.int (s (55 + 6 * n)), .int (6)]) (rest := []) (f' := lW cy f s) (st' := [.int (dGroupOf s bk (s (55 + 6 * n)) 6)]) zc_X8_groupOf (0) (show 0 < w.1 by rw [hw]; decide) ((lW_lo (by decide)).trans (CX_0 hX)) (q9 := _) rfl rfl (cq_groupOf bk hb hb10 hw (CX_lW hX)) ⟨Nat.le_of_ble_eq_true rfl, Nat.le_of_ble_eq_true rfl⟩ ⟨Nat.le_refl _, Nat.le_refl _⟩ rfl (Nat.le_of_ble_eq_true rfl) zm_3_65 rfl dL_areGroups_226 rfl ?_
      refine zr_aload_n X 4 dL_areGroups_229 rfl rfl ?_
      refine zr_iload X 1 dL_areGroups_230 rfl ?_
      refine zr_iconst X (v := 5) dL_areGroups_232 (by decide) ?_
      refine zr_iadd X dL_areGroups_233 ?_
      refine zr_lld X hw lr_p (6 * n + 5) (55 + 6 * n + 5) (nI_add _ 5) (by omega) (by omega) dL_areGroups_234 ?_
      refine zr_icmp_ne X (tgt := 274) dL_areGroups_235 (by decide) (fun h => False.elim (h ((go_at hb10 jn.2.1 hn55 (y := 6) (by decide)).trans rfl))) (fun _ => ?_)
      refine zr_aload_n X 2 dL_areGroups_238 rfl rfl ?_
      refine zr_iload X 0 dL_areGroups_239 rfl ?_
      refine zr_bipush X (v := 7) dL_areGroups_241 (by decide) ?_
      refine zr_cV X (As := [.int (s (55 + 6 * n)), .int (7)]) (rest := []) (f' := lW cy f s) (st' := [.int (dGroupOf s bk (s (55 + 6 * n)) 7)]) zc_X8_groupOf (0) (show 0 < w.1 by rw [hw]; decide) ((lW_lo (by decide)).trans (CX_0 hX)) (q9 := _) rfl rfl (cq_groupOf bk hb hb10 hw (CX_lW hX)) ⟨Nat.le_of_ble_eq_true rfl, Nat.le_of_ble_eq_true rfl⟩ ⟨Nat.le_refl _, Nat.le_refl _⟩ rfl (Nat.le_of_ble_eq_true rfl) zm_3_65 rfl dL_areGroups_243 rfl ?_
      refine zr_ldc X zm_2_142 dL_areGroups_246 ?_
      refine zr_icmp_ne X (tgt := 274) dL_areGroups_248 (by decide) (fun h => False.elim (h (go_7 hb10 jn.2.1 hn55))) (fun _ => ?_)
      refine zr_aload_n X 3 dL_areGroups_251 rfl rfl ?_
      refine zr_iconst X (v := 3) dL_areGroups_252 (by decide) ?_
      refine zr_lld X hw lr_g (3) (3) (rfl) (by decide) rfl dL_areGroups_253 ?_
      refine zr_aload_n X 4 dL_areGroups_254 rfl rfl ?_
      refine zr_iload X 1 dL_areGroups_255 rfl ?_
      refine zr_iconst X (v := 2) dL_areGroups_257 (by decide) ?_
      refine zr_iadd X dL_areGroups_258 ?_
      refine zr_lld X hw lr_p (6 * n + 2) (55 + 6 * n + 2) (nI_add _ 2) (by omega) (by omega) dL_areGroups_259 ?_
      refine zr_aload_n X 4 dL_areGroups_260 rfl rfl ?_
      refine zr_iload X 1 dL_areGroups_261 rfl ?_
      refine zr_iconst X (v := 3) dL_areGroups_263 (by decide) ?_
      refine zr_iadd X dL_areGroups_264 ?_
      refine zr_lld X hw lr_p (6 * n + 3) (55 + 6 * n + 3) (nI_add _ 3) (by omega) (by omega) dL_areGroups_265 ?_
      refine zr_iadd X dL_areGroups_266 ?_
      refine zr_icmp_ge X (tgt := 274) dL_areGroups_267 (by decide) (fun h => False.elim (gr_lt (v.2.1 n hn55) h)) (fun _ => ?_)
      refine zr_iconst X (v := 1) dL_areGroups_270 (by decide) ?_
      refine zr_goto X (tgt := 275) dL_areGroups_271 (by decide) ?_
      refine zr_istore_n X (ls' := [(3, .int (1)), (6, .int (s (55 + 6 * n))), (5, .int (nI (6 * n))), (0, .ref (w.2 (0))), (1, .ref (w.2 (132))), (2, .ref (w.2 (134))), (4, .int (nI (n)))]) dL_areGroups_275 rfl (by decide) rfl ?_
      refine zr_iinc X (v := nI (n + 1)) (ls' := [(4, .int (nI (n + 1))), (3, .int (1)), (6, .int (s (55 + 6 * n))), (5, .int (nI (6 * n))), (0, .ref (w.2 (0))), (1, .ref (w.2 (132))), (2, .ref (w.2 (134)))]) 6 dL_areGroups_276 rfl (zinc1 _) (by decide) rfl ?_
      refine zr_goto X (tgt := 55) dL_areGroups_279 (by decide) ?_
      refine zr_loc X (ls' := [(0, .ref (w.2 (0))), (1, .ref (w.2 (132))), (2, .ref (w.2 (134))), (3, .int (1)), (4, .int (nI (n + 1)))]) [4, 5, 6, 1, 0] rfl ?_
      exact zcast (f2 := lW cy f s) (ls2 := [(0, .ref (w.2 (0))), (1, .ref (w.2 (132))), (2, .ref (w.2 (134))), (3, .int (1)), (4, .int (nI (n + 1)))]) rfl rfl ih55
    · refine zr_aload_n X 3 dL_areGroups_178 rfl rfl ?_
      refine zr_iconst X (v := 3) dL_areGroups_179 (by decide) ?_
      refine zr_lld X hw lr_g (3) (3) (rfl) (by decide) rfl dL_areGroups_180 ?_
      refine zr_aload_n X 4 dL_areGroups_181 rfl rfl ?_
      refine zr_iload X 1 dL_areGroups_182 rfl ?_
      refine zr_iconst X (v := 2) dL_areGroups_184 (by decide) ?_
      refine zr_iadd X dL_areGroups_185 ?_
      refine zr_lld X hw lr_p (6 * n + 2) (55 + 6 * n + 2) (nI_add _ 2) (by omega) (by omega) dL_areGroups_186 ?_
      refine zr_aload_n X 4 dL_areGroups_187 rfl rfl ?_
      refine zr_iload X 1 dL_areGroups_188 rfl ?_
      refine zr_iconst X (v := 3) dL_areGroups_190 (by decide) ?_
      refine zr_iadd X dL_areGroups_191 ?_
      refine zr_lld X hw lr_p (6 * n + 3) (55 + 6 * n + 3) (nI_add _ 3) (by omega) (by omega) dL_areGroups_192 ?_
      refine zr_iadd X dL_areGroups_193 ?_
      refine zr_icmp_ge X (tgt := 201) dL_areGroups_194 (by decide) (fun h => False.elim (gr_lt (v.2.1 n hn55) h)) (fun h3 => ?_)
      refine zr_iconst X (v := 1) dL_areGroups_197 (by decide) ?_
      refine zr_goto X (tgt := 202) dL_areGroups_198 (by decide) ?_
      refine zr_icmp_ne X (tgt := 274) dL_areGroups_202 (by decide) (fun h => False.elim (h ((go_at hb10 jn.2.1 hn55 (y := 4) (by decide)).trans (by rw [gt_4 (v.2.1 n hn55).1 v.2.2.2.1.1 (by have := v.2.2.2.1.2; omega), if_neg h2, if_neg h3])))) (fun _ => ?_)
      refine zr_aload_n X 2 dL_areGroups_205 rfl rfl ?_
      refine zr_iload X 0 dL_areGroups_206 rfl ?_
      refine zr_iconst X (v := 5) dL_areGroups_208 (by decide) ?_
      refine zr_cV X (As := [.int (s (55 + 6 * n)), .int (5)]) (rest := []) (f' := lW cy f s) (st' := [.int (dGroupOf s bk (s (55 + 6 * n)) 5)]) zc_X8_groupOf (0) (show 0 < w.1 by rw [hw]; decide) ((lW_lo (by decide)).trans (CX_0 hX)) (q9 := _) rfl rfl (cq_groupOf bk hb hb10 hw (CX_lW hX)) ⟨Nat.le_of_ble_eq_true rfl, Nat.le_of_ble_eq_true rfl⟩ ⟨Nat.le_refl _, Nat.le_refl _⟩ rfl (Nat.le_of_ble_eq_true rfl) zm_3_65 rfl dL_areGroups_209 rfl ?_
      refine zr_aload_n X 4 dL_areGroups_212 rfl rfl ?_
      refine zr_iload X 1 dL_areGroups_213 rfl ?_
      refine zr_iconst X (v := 4) dL_areGroups_215 (by decide) ?_
      refine zr_iadd X dL_areGroups_216 ?_
      refine zr_lld X hw lr_p (6 * n + 4) (55 + 6 * n + 4) (nI_add _ 4) (by omega) (by omega) dL_areGroups_217 ?_
      refine zr_icmp_ne X (tgt := 274) dL_areGroups_218 (by decide) (fun h => False.elim (h ((go_at hb10 jn.2.1 hn55 (y := 5) (by decide)).trans rfl))) (fun _ => ?_)
      refine zr_aload_n X 2 dL_areGroups_221 rfl rfl ?_
      refine zr_iload X 0 dL_areGroups_222 rfl ?_
      refine zr_bipush X (v := 6) dL_areGroups_224 (by decide) ?_
      refine zr_cV X (As := [.int (s (55 + 6 * n)), .int (6)]) (rest := []) (f' := lW cy f s) (st' := [.int (dGroupOf s bk (s (55 + 6 * n)) 6)]) zc_X8_groupOf (0) (show 0 < w.1 by rw [hw]; decide) ((lW_lo (by decide)).trans (CX_0 hX)) (q9 := _) rfl rfl (cq_groupOf bk hb hb10 hw (CX_lW hX)) ⟨Nat.le_of_ble_eq_true rfl, Nat.le_of_ble_eq_true rfl⟩ ⟨Nat.le_refl _, Nat.le_refl _⟩ rfl (Nat.le_of_ble_eq_true rfl) zm_3_65 rfl dL_areGroups_226 rfl ?_
      refine zr_aload_n X 4 dL_areGroups_229 rfl rfl ?_
      refine zr_iload X 1 dL_areGroups_230 rfl ?_
      refine zr_iconst X (v := 5) dL_areGroups_232 (by decide) ?_
      refine zr_iadd X dL_areGroups_233 ?_
      refine zr_lld X hw lr_p (6 * n + 5) (55 + 6 * n + 5) (nI_add _ 5) (by omega) (by omega) dL_areGroups_234 ?_
      refine zr_icmp_ne X (tgt := 274) dL_areGroups_235 (by decide) (fun h => False.elim (h ((go_at hb10 jn.2.1 hn55 (y := 6) (by decide)).trans rfl))) (fun _ => ?_)
      refine zr_aload_n X 2 dL_areGroups_238 rfl rfl ?_
      refine zr_iload X 0 dL_areGroups_239 rfl ?_
      refine zr_bipush X (v := 7) dL_areGroups_241 (by decide) ?_
      refine zr_cV X (As := [.int (s (55 + 6 * n)), .int (7)]) (rest := []) (f' := lW cy f s) (st' := [.int (dGroupOf s bk (s (55 + 6 * n)) 7)]) zc_X8_groupOf (0) (show 0 < w.1 by rw [hw]; decide) ((lW_lo (by decide)).trans (CX_0 hX)) (q9 := _) rfl rfl (cq_groupOf bk hb hb10 hw (CX_lW hX)) ⟨Nat.le_of_ble_eq_true rfl, Nat.le_of_ble_eq_true rfl⟩ ⟨Nat.le_refl _, Nat.le_refl _⟩ rfl (Nat.le_of_ble_eq_true rfl) zm_3_65 rfl dL_areGroups_243 rfl ?_
      refine zr_ldc X zm_2_142 dL_areGroups_246 ?_
      refine zr_icmp_ne X (tgt := 274) dL_areGroups_248 (by decide) (fun h => False.elim (h (go_7 hb10 jn.2.1 hn55))) (fun _ => ?_)
      refine zr_aload_n X 3 dL_areGroups_251 rfl rfl ?_
      refine zr_iconst X (v := 3) dL_areGroups_252 (by decide) ?_
      refine zr_lld X hw lr_g (3) (3) (rfl) (by decide) rfl dL_areGroups_253 ?_
      refine zr_aload_n X 4 dL_areGroups_254 rfl rfl ?_
      refine zr_iload X 1 dL_areGroups_255 rfl ?_
      refine zr_iconst X (v := 2) dL_areGroups_257 (by decide) ?_
      refine zr_iadd X dL_areGroups_258 ?_
      refine zr_lld X hw lr_p (6 * n + 2) (55 + 6 * n + 2) (nI_add _ 2) (by omega) (by omega) dL_areGroups_259 ?_
      refine zr_aload_n X 4 dL_areGroups_260 rfl rfl ?_
      refine zr_iload X 1 dL_areGroups_261 rfl ?_
      refine zr_iconst X (v := 3) dL_areGroups_263 (by decide) ?_
      refine zr_iadd X dL_areGroups_264 ?_
      refine zr_lld X hw lr_p (6 * n + 3) (55 + 6 * n + 3) (nI_add _ 3) (by omega) (by omega) dL_areGroups_265 ?_
      refine zr_iadd X dL_areGroups_266 ?_
      refine zr_icmp_ge X (tgt := 274) dL_areGroups_267 (by decide) (fun h4 => absurd h4 h3) (fun _ => ?_)
      refine zr_iconst X (v := 1) dL_areGroups_270 (by decide) ?_
      refine zr_goto X (tgt := 275) dL_areGroups_271 (by decide) ?_
      refine zr_istore_n X (ls' := [(3, .int (1)), (6, .int (s (55 + 6 * n))), (5, .int (nI (6 * n))), (0, .ref (w.2 (0))), (1, .ref (w.2 (132))), (2, .ref (w.2 (134))), (4, .int (nI (n)))]) dL_areGroups_275 rfl (by decide) rfl ?_
      refine zr_iinc X (v := nI (n + 1)) (ls' := [(4, .int (nI (n + 1))), (3, .int (1)), (6, .int (s (55 + 6 * n))), (5, .int (nI (6 * n))), (0, .ref (w.2 (0))), (1, .ref (w.2 (132))), (2, .ref (w.2 (134)))]) 6 dL_areGroups_276 rfl (zinc1 _) (by decide) rfl ?_
      refine zr_goto X (tgt := 55) dL_areGroups_279 (by decide) ?_
      refine zr_loc X (ls' := [(0, .ref (w.2 (0))), (1, .ref (w.2 (132))), (2, .ref (w.2 (134))), (3, .int (1)), (4, .int (nI (n + 1)))]) [4, 5, 6, 1, 0] rfl ?_
      exact zcast (f2 := lW cy f s) (ls2 := [(0, .ref (w.2 (0))), (1, .ref (w.2 (132))), (2, .ref (w.2 (134))), (3, .int (1)), (4, .int (nI (n + 1)))]) rfl rfl ih55
theorem lo_at {s : Nat → Int32} {n : Nat} (hn : n < 21) : dLoaves s (nI n) = s (115 + n) := by
  unfold dLoaves
  rw [if_neg (show ¬ zwin (nI n) 0 20 = 0 from zw_in (lo := 0) (hi := 20) (Nat.zero_le _) (by omega) (by decide)), nI_clamp (by omega)]
theorem ct_lo {v s : Nat → Int32} {mc fr : Nat} : ∀ n, n < 7 → dCount v s mc fr (nI n) = s n
  | 0, _ => rfl
  | 1, _ => rfl
  | 2, _ => rfl
  | 3, _ => rfl
  | 4, _ => rfl
  | 5, _ => rfl
  | 6, _ => rfl
  | n + 7, h => absurd h (by omega)
theorem ct_mi {v s : Nat → Int32} {mc fr : Nat} : ∀ n, n < 8 → dCount v s mc fr (nI (7 + n) + 3) = s (7 + n)
  | 0, _ => rfl
  | 1, _ => rfl
  | 2, _ => rfl
  | 3, _ => rfl
  | 4, _ => rfl
  | 5, _ => rfl
  | 6, _ => rfl
  | 7, _ => rfl
  | n + 8, h => absurd h (by omega)
theorem ct_hi {v s : Nat → Int32} {mc fr : Nat} : ∀ n, n < 4 → dCount v s mc fr (20 + nI n) = s (15 + n)
  | 0, _ => rfl
  | 1, _ => rfl
  | 2, _ => rfl
  | 3, _ => rfl
  | n + 4, h => absurd h (by omega)
theorem n18_lo : ∀ n, n < 7 → nI n ≠ 18
  | 0, _ => by decide
  | 1, _ => by decide
  | 2, _ => by decide
  | 3, _ => by decide
  | 4, _ => by decide
  | 5, _ => by decide
  | 6, _ => by decide
  | n + 7, h => absurd h (by omega)
theorem n18_mi : ∀ n, n < 8 → nI (7 + n) + 3 ≠ 18
  | 0, _ => by decide
  | 1, _ => by decide
  | 2, _ => by decide
  | 3, _ => by decide
  | 4, _ => by decide
  | 5, _ => by decide
  | 6, _ => by decide
  | 7, _ => by decide
  | n + 8, h => absurd h (by omega)
theorem n18_hi : ∀ n, n < 4 → 20 + nI n ≠ 18
  | 0, _ => by decide
  | 1, _ => by decide
  | 2, _ => by decide
  | 3, _ => by decide
  | n + 4, h => absurd h (by omega)
theorem all_so {s : Nat → Int32} {mc bk fr : Nat} (j : Jn mc bk s) : dCount (fun _ => 0) s mc fr 10 = dCount (fun _ => 0) s mc fr 7 + dCount (fun _ => 0) s mc fr 9 + dCount (fun _ => 0) s mc fr 11 + dCount (fun _ => 0) s mc fr 12 + dCount (fun _ => 0) s mc fr 13 := by
  have h := j.2.2.1.1
  unfold jP at h
  show s 7 = dLF s 0 21 + dOt s mc + s 8 + s 9 + s 10
  rw [h]
  generalize dLF s 0 21 = a
  generalize dOt s mc = b
  generalize s 8 = c
  generalize s 9 = d
  generalize s 10 = e
  grind
theorem mon_so {s : Nat → Int32} {mc bk fr : Nat} (j : Jn mc bk s) : dCount (fun _ => 0) s mc fr 5 = dCount (fun _ => 0) s mc fr 16 - dCount (fun _ => 0) s mc fr 17 := j.2.2.1.2
theorem ag_80 {s : Nat → Int32} {mc fr : Nat} (h : iAg s) (c : 80 < dCount (fun _ => 0) s mc fr 7) : False := by
  have e : dCount (fun _ => 0) s mc fr 7 = dLF s 0 21 := rfl
  rw [e] at c
  have y := tlt.mp c
  have d := dLF_t h.1 h.2 0 21 (by decide)
  have h2 := h.2
  have c80 := tk80
  omega
set_option maxHeartbeats 4000000 in
set_option maxRecDepth 100000 in
theorem kl_isSo {l : Launch} {D : va_G} {cy : Nat → ClassId} {w : zW} {f : zF} {s : Nat → Int32} {B : Int} {gs : zGS} {mc bk fr : Nat} (hw : w.1 = 136) (hX : CX w cy f B s) (kn : Kn B gs mc bk fr s) : zSd l D cy yL_isSo cL_isSo 7 (some .boolean) 5 112 [.ref (w.2 (0)), .ref (w.2 (132)), .ref (w.2 (133)), .ref (w.2 (134)), .ref (w.2 (135))] w (lW cy f s) (some (.int (1))) (lW cy f s) := by
  refine zSd.intro (by decide) (Nat.le_of_ble_eq_true rfl) (fun G X E => ?_)
  obtain ⟨r, o, v, jn, e17, hfr⟩ := id kn
  have hm := r.s0.1
  have hm4 := r.s0.2
  have hb := r.s1.1
  have hb10 := r.s1.2
  have hM := v.1
  show G (w, 0, 0) (lW cy f s) [(0, .ref (w.2 (0))), (1, .ref (w.2 (132))), (2, .ref (w.2 (133))), (3, .ref (w.2 (134))), (4, .ref (w.2 (135)))] 0 []
  refine zr_aload_n X 0 dL_isSo_0 rfl rfl ?_
  refine zr_aload_n X 1 dL_isSo_1 rfl rfl ?_
  refine zr_aload_n X 2 dL_isSo_2 rfl rfl ?_
  refine zr_cS X (As := [.ref (w.2 (0)), .ref (w.2 (132)), .ref (w.2 (133))]) (rest := []) (f' := lW cy f s) (st' := [.int (1)]) zc_L_areMules (kl_areMules hw hX kn) ⟨Nat.le_of_ble_eq_true rfl, Nat.le_of_ble_eq_true rfl⟩ ⟨Nat.le_refl _, Nat.le_refl _⟩ rfl (Nat.le_of_ble_eq_true rfl) zm_3_41 rfl dL_isSo_3 rfl ?_
  refine zr_if_eq X (tgt := 43) dL_isSo_6 (by decide) (fun h => absurd h (by decide)) (fun _ => ?_)
  refine zr_aload_n X 0 dL_isSo_9 rfl rfl ?_
  refine zr_aload_n X 1 dL_isSo_10 rfl rfl ?_
  refine zr_aload_n X 3 dL_isSo_11 rfl rfl ?_
  refine zr_cS X (As := [.ref (w.2 (0)), .ref (w.2 (132)), .ref (w.2 (134))]) (rest := []) (f' := lW cy f s) (st' := [.int (1)]) zc_L_areGroups (kl_areGroups hw hX kn) ⟨Nat.le_of_ble_eq_true rfl, Nat.le_of_ble_eq_true rfl⟩ ⟨Nat.le_refl _, Nat.le_refl _⟩ rfl (Nat.le_of_ble_eq_true rfl) zm_3_55 rfl dL_isSo_12 rfl ?_
  refine zr_if_eq X (tgt := 43) dL_isSo_15 (by decide) (fun h => absurd h (by decide)) (fun _ => ?_)
  refine zr_aload_n X 0 dL_isSo_18 rfl rfl ?_
  refine zr_iconst X (v := (-1)) dL_isSo_19 (by decide) ?_
  refine zr_cV X (As := [.int ((-1))]) (rest := []) (f' := lW cy f s) (st' := [.int (dLoaves s (-1))]) zc_X8_loaves (0) (show 0 < w.1 by rw [hw]; decide) ((lW_lo (by decide)).trans (CX_0 hX)) (q9 := _) rfl rfl (cq_loaves hw (CX_lW hX)) ⟨Nat.le_of_ble_eq_true rfl, Nat.le_of_ble_eq_true rfl⟩ ⟨Nat.le_refl _, Nat.le_refl _⟩ rfl (Nat.le_of_ble_eq_true rfl) zm_3_77 rfl dL_isSo_20 rfl ?_
  refine zr_ldc X zm_2_142 dL_isSo_23 ?_
  refine zr_icmp_ne X (tgt := 43) dL_isSo_25 (by decide) (fun h => False.elim (h rfl)) (fun _ => ?_)
  refine zr_aload_n X 0 dL_isSo_28 rfl rfl ?_
  refine zr_bipush X (v := 21) dL_isSo_29 (by decide) ?_
  refine zr_cV X (As := [.int (21)]) (rest := []) (f' := lW cy f s) (st' := [.int (dLoaves s 21)]) zc_X8_loaves (0) (show 0 < w.1 by rw [hw]; decide) ((lW_lo (by decide)).trans (CX_0 hX)) (q9 := _) rfl rfl (cq_loaves hw (CX_lW hX)) ⟨Nat.le_of_ble_eq_true rfl, Nat.le_of_ble_eq_true rfl⟩ ⟨Nat.le_refl _, Nat.le_refl _⟩ rfl (Nat.le_of_ble_eq_true rfl) zm_3_77 rfl dL_isSo_31 rfl ?_
  refine zr_ldc X zm_2_142 dL_isSo_34 ?_
  refine zr_icmp_ne X (tgt := 43) dL_isSo_36 (by decide) (fun h => False.elim (h rfl)) (fun _ => ?_)
  refine zr_iconst X (v := 1) dL_isSo_39 (by decide) ?_
  refine zr_goto X (tgt := 44) dL_isSo_40 (by decide) ?_
  refine zr_istore X (ls' := [(5, .int (1)), (0, .ref (w.2 (0))), (1, .ref (w.2 (132))), (2, .ref (w.2 (133))), (3, .ref (w.2 (134))), (4, .ref (w.2 (135)))]) dL_isSo_44 (by decide) rfl ?_
  refine zr_iconst X (v := 0) dL_isSo_46 (by decide) ?_
  refine zr_istore X (ls' := [(6, .int (0)), (5, .int (1)), (0, .ref (w.2 (0))), (1, .ref (w.2 (132))), (2, .ref (w.2 (133))), (3, .ref (w.2 (134))), (4, .ref (w.2 (135)))]) dL_isSo_47 (by decide) rfl ?_
  refine zr_loc X (ls' := [(0, .ref (w.2 (0))), (1, .ref (w.2 (132))), (2, .ref (w.2 (133))), (3, .ref (w.2 (134))), (4, .ref (w.2 (135))), (5, .int (1)), (6, .int (0))]) [2, 3, 4, 5, 6, 1, 0] rfl ?_
  refine zcast (f2 := lW cy f s) (ls2 := [(0, .ref (w.2 (0))), (1, .ref (w.2 (132))), (2, .ref (w.2 (133))), (3, .ref (w.2 (134))), (4, .ref (w.2 (135))), (5, .int (1)), (6, .int (nI (0)))]) rfl rfl ?_
  refine zdown (P := fun n => G (w, 0, 0) (lW cy f s) [(0, .ref (w.2 (0))), (1, .ref (w.2 (132))), (2, .ref (w.2 (133))), (3, .ref (w.2 (134))), (4, .ref (w.2 (135))), (5, .int (1)), (6, .int (nI (n)))] 49 []) (B := 21) ?_ (fun n hn49 ih49 => ?_) 0 (Nat.zero_le _) 
  · show G (w, 0, 0) (lW cy f s) [(0, .ref (w.2 (0))), (1, .ref (w.2 (132))), (2, .ref (w.2 (133))), (3, .ref (w.2 (134))), (4, .ref (w.2 (135))), (5, .int (1)), (6, .int (nI (21)))] 49 []
    refine zr_iload X 6 dL_isSo_49 rfl ?_
    refine zr_bipush X (v := 21) dL_isSo_51 (by decide) ?_
    refine zr_icmp_ge X (tgt := 88) dL_isSo_53 (by decide) (fun _ => ?_) (fun h => False.elim (h (by decide)))
    refine zr_iconst X (v := 0) dL_isSo_88 (by decide) ?_
    refine zr_istore X (ls' := [(6, .int (0)), (0, .ref (w.2 (0))), (1, .ref (w.2 (132))), (2, .ref (w.2 (133))), (3, .ref (w.2 (134))), (4, .ref (w.2 (135))), (5, .int (1))]) dL_isSo_89 (by decide) rfl ?_
    refine zr_loc X (ls' := [(0, .ref (w.2 (0))), (1, .ref (w.2 (132))), (2, .ref (w.2 (133))), (3, .ref (w.2 (134))), (4, .ref (w.2 (135))), (5, .int (1)), (6, .int (0))]) [1, 2, 3, 4, 5, 6, 0] rfl ?_
    refine zcast (f2 := lW cy f s) (ls2 := [(0, .ref (w.2 (0))), (1, .ref (w.2 (132))), (2, .ref (w.2 (133))), (3, .ref (w.2 (134))), (4, .ref (w.2 (135))), (5, .int (1)), (6, .int (nI (0)))]) rfl rfl ?_
    refine zdown (P := fun n => G (w, 0, 0) (lW cy f s) [(0, .ref (w.2 (0))), (1, .ref (w.2 (132))), (2, .ref (w.2 (133))), (3, .ref (w.2 (134))), (4, .ref (w.2 (135))), (5, .int (1)), (6, .int (nI (n)))] 91 []) (B := 7) ?_ (fun n hn91 ih91 => ?_) 0 (Nat.zero_le _) 
    · show G (w, 0, 0) (lW cy f s) [(0, .ref (w.2 (0))), (1, .ref (w.2 (132))), (2, .ref (w.2 (133))), (3, .ref (w.2 (134))), (4, .ref (w.2 (135))), (5, .int (1)), (6, .int (nI (7)))] 91 []
      refine zr_iload X 6 dL_isSo_91 rfl ?_
      refine zr_bipush X (v := 7) dL_isSo_93 (by decide) ?_
      refine zr_icmp_ge X (tgt := 129) dL_isSo_95 (by decide) (fun _ => ?_) (fun h => False.elim (h (by decide)))
      refine zr_bipush X (v := 7) dL_isSo_129 (by decide) ?_
      refine zr_istore X (ls' := [(6, .int (7)), (0, .ref (w.2 (0))), (1, .ref (w.2 (132))), (2, .ref (w.2 (133))), (3, .ref (w.2 (134))), (4, .ref (w.2 (135))), (5, .int (1))]) dL_isSo_131 (by decide) rfl ?_
      refine zr_loc X (ls' := [(0, .ref (w.2 (0))), (1, .ref (w.2 (132))), (2, .ref (w.2 (133))), (3, .ref (w.2 (134))), (4, .ref (w.2 (135))), (5, .int (1)), (6, .int (7))]) [1, 2, 3, 4, 5, 6, 0] rfl ?_
      refine zcast (f2 := lW cy f s) (ls2 := [(0, .ref (w.2 (0))), (1, .ref (w.2 (132))), (2, .ref (w.2 (133))), (3, .ref (w.2 (134))), (4, .ref (w.2 (135))), (5, .int (1)), (6, .int (nI (7 + (0))))]) rfl rfl ?_
      refine zdown (P := fun n => G (w, 0, 0) (lW cy f s) [(0, .ref (w.2 (0))), (1, .ref (w.2 (132))), (2, .ref (w.2 (133))), (3, .ref (w.2 (134))), (4, .ref (w.2 (135))), (5, .int (1)), (6, .int (nI (7 + (n))))] 133 []) (B := 8) ?_ (fun n hn133 ih133 => ?_) 0 (Nat.zero_le _) 
      · show G (w, 0, 0) (lW cy f s) [(0, .ref (w.2 (0))), (1, .ref (w.2 (132))), (2, .ref (w.2 (133))), (3, .ref (w.2 (134))), (4, .ref (w.2 (135))), (5, .int (1)), (6, .int (nI (7 + (8))))] 133 []
        refine zr_iload X 6 dL_isSo_133 rfl ?_
        refine zr_bipush X (v := 15) dL_isSo_135 (by decide) ?_
        refine zr_icmp_ge X (tgt := 173) dL_isSo_137 (by decide) (fun _ => ?_) (fun h => False.elim (h (by decide)))
        refine zr_iconst X (v := 0) dL_isSo_173 (by decide) ?_
        refine zr_istore X (ls' := [(6, .int (0)), (0, .ref (w.2 (0))), (1, .ref (w.2 (132))), (2, .ref (w.2 (133))), (3, .ref (w.2 (134))), (4, .ref (w.2 (135))), (5, .int (1))]) dL_isSo_174 (by decide) rfl ?_
        refine zr_loc X (ls' := [(0, .ref (w.2 (0))), (1, .ref (w.2 (132))), (2, .ref (w.2 (133))), (3, .ref (w.2 (134))), (4, .ref (w.2 (135))), (5, .int (1)), (6, .int (0))]) [1, 2, 3, 4, 5, 6, 0] rfl ?_
        refine zcast (f2 := lW cy f s) (ls2 := [(0, .ref (w.2 (0))), (1, .ref (w.2 (132))), (2, .ref (w.2 (133))), (3, .ref (w.2 (134))), (4, .ref (w.2 (135))), (5, .int (1)), (6, .int (nI (0)))]) rfl rfl ?_
        refine zdown (P := fun n => G (w, 0, 0) (lW cy f s) [(0, .ref (w.2 (0))), (1, .ref (w.2 (132))), (2, .ref (w.2 (133))), (3, .ref (w.2 (134))), (4, .ref (w.2 (135))), (5, .int (1)), (6, .int (nI (n)))] 176 []) (B := 4) ?_ (fun n hn176 ih176 => ?_) 0 (Nat.zero_le _) 
        · show G (w, 0, 0) (lW cy f s) [(0, .ref (w.2 (0))), (1, .ref (w.2 (132))), (2, .ref (w.2 (133))), (3, .ref (w.2 (134))), (4, .ref (w.2 (135))), (5, .int (1)), (6, .int (nI (4)))] 176 []
          refine zr_iload X 6 dL_isSo_176 rfl ?_
          refine zr_iconst X (v := 4) dL_isSo_178 (by decide) ?_
          refine zr_icmp_ge X (tgt := 219) dL_isSo_179 (by decide) (fun _ => ?_) (fun h => False.elim (h (by decide)))
          refine zr_iload X 5 dL_isSo_219 rfl ?_
          refine zr_if_eq X (tgt := 351) dL_isSo_221 (by decide) (fun h => absurd h (by decide)) (fun _ => ?_)
          refine zr_aload_n X 0 dL_isSo_224 rfl rfl ?_
          refine zr_bipush X (v := 7) dL_isSo_225 (by decide) ?_
          refine zr_cV X (As := [.int (7)]) (rest := []) (f' := lW cy f s) (st' := [.int (dCount (fun _ => 0) s mc fr 7)]) zc_X8_count (0) (show 0 < w.1 by rw [hw]; decide) ((lW_lo (by decide)).trans (CX_0 hX)) (q9 := _) rfl rfl (cq_count mc fr hm hm4 e17 hfr (by decide) hw (CX_lW hX)) ⟨Nat.le_of_ble_eq_true rfl, Nat.le_of_ble_eq_true rfl⟩ ⟨Nat.le_refl _, Nat.le_refl _⟩ rfl (Nat.le_of_ble_eq_true rfl) zm_2_26 rfl dL_isSo_227 rfl ?_
          refine zr_aload X 4 dL_isSo_230 rfl ?_
          refine zr_iconst X (v := 0) dL_isSo_232 (by decide) ?_
          refine zr_bipush X (v := 20) dL_isSo_233 (by decide) ?_
          refine zr_cS X (As := [.ref (w.2 (135)), .int (0), .int (20)]) (rest := [.int (dCount (fun _ => 0) s mc fr 7)]) (f' := lW cy f s) (st' := [.int (dLF s 0 21), .int (dCount (fun _ => 0) s mc fr 7)]) zc_L_sum (kl_sum (s := s) (a := 0) (b := 20) hw rfl rfl (by omega) (by omega)) ⟨Nat.le_of_ble_eq_true rfl, Nat.le_of_ble_eq_true rfl⟩ ⟨Nat.le_refl _, Nat.le_refl _⟩ rfl (Nat.le_of_ble_eq_true rfl) zm_3_15 rfl dL_isSo_235 rfl ?_
          refine zr_icmp_ne X (tgt := 351) dL_isSo_238 (by decide) (fun h => False.elim (h rfl)) (fun _ => ?_)
          refine zr_aload_n X 0 dL_isSo_241 rfl rfl ?_
          refine zr_bipush X (v := 8) dL_isSo_242 (by decide) ?_
          refine zr_cV X (As := [.int (8)]) (rest := []) (f' := lW cy f s) (st' := [.int (dCount (fun _ => 0) s mc fr 8)]) zc_X8_count (0) (show 0 < w.1 by rw [hw]; decide) ((lW_lo (by decide)).trans (CX_0 hX)) (q9 := _) rfl rfl (cq_count mc fr hm hm4 e17 hfr (by decide) hw (CX_lW hX)) ⟨Nat.le_of_ble_eq_true rfl, Nat.le_of_ble_eq_true rfl⟩ ⟨Nat.le_refl _, Nat.le_refl _⟩ rfl (Nat.le_of_ble_eq_true rfl) zm_2_26 rfl dL_isSo_244 rfl ?_
          refine zr_aload X 4 dL_isSo_247 rfl ?_
          refine zr_aload_n X 1 dL_isSo_249 rfl rfl ?_
          refine zr_bipush X (v := 17) dL_isSo_250 (by decide) ?_
          refine zr_lld X hw lr_g (17) (17) (rfl) (by decide) rfl dL_isSo_252 ?_
          refine zr_iconst X (v := 1) dL_isSo_253 (by decide) ?_
          refine zr_iadd X dL_isSo_254 ?_
          refine zr_bipush X (v := 20) dL_isSo_255 (by decide) ?_
          refine zr_cS X (As := [.ref (w.2 (135)), .int ((s 17) + 1), .int (20)]) (rest := [.int (dCount (fun _ => 0) s mc fr 8)]) (f' := lW cy f s) (st' := [.int (dLF s (fr + 1) (20 + 1 - (fr + 1))), .int (dCount (fun _ => 0) s mc fr 8)]) zc_L_sum (kl_sum (s := s) (a := fr + 1) (b := 20) hw (by rw [e17]; exact nI_1 fr) rfl (by omega) (by omega)) ⟨Nat.le_of_ble_eq_true rfl, Nat.le_of_ble_eq_true rfl⟩ ⟨Nat.le_refl _, Nat.le_refl _⟩ rfl (Nat.le_of_ble_eq_true rfl) zm_3_15 rfl dL_isSo_257 rfl ?_
          refine zr_icmp_ne X (tgt := 351) dL_isSo_260 (by decide) (fun h => False.elim (h rfl)) (fun _ => ?_)
          refine zr_aload_n X 0 dL_isSo_263 rfl rfl ?_
          refine zr_bipush X (v := 7) dL_isSo_264 (by decide) ?_
          refine zr_cV X (As := [.int (7)]) (rest := []) (f' := lW cy f s) (st' := [.int (dCount (fun _ => 0) s mc fr 7)]) zc_X8_count (0) (show 0 < w.1 by rw [hw]; decide) ((lW_lo (by decide)).trans (CX_0 hX)) (q9 := _) rfl rfl (cq_count mc fr hm hm4 e17 hfr (by decide) hw (CX_lW hX)) ⟨Nat.le_of_ble_eq_true rfl, Nat.le_of_ble_eq_true rfl⟩ ⟨Nat.le_refl _, Nat.le_refl _⟩ rfl (Nat.le_of_ble_eq_true rfl) zm_2_26 rfl dL_isSo_266 rfl ?_
          refine zr_bipush X (v := 80) dL_isSo_269 (by decide) ?_
          refine zr_icmp_gt X (tgt := 351) dL_isSo_271 (by decide) (fun h => False.elim (ag_80 v.2.2.1.1 h)) (fun _ => ?_)
          refine zr_aload_n X 0 dL_isSo_274 rfl rfl ?_
          refine zr_bipush X (v := 19) dL_isSo_275 (by decide) ?_
          refine zr_cV X (As := [.int (19)]) (rest := []) (f' := lW cy f s) (st' := [.int (dCount (fun _ => 0) s mc fr 19)]) zc_X8_count (0) (show 0 < w.1 by rw [hw]; decide) ((lW_lo (by decide)).trans (CX_0 hX)) (q9 := _) rfl rfl (cq_count mc fr hm hm4 e17 hfr (by decide) hw (CX_lW hX)) ⟨Nat.le_of_ble_eq_true rfl, Nat.le_of_ble_eq_true rfl⟩ ⟨Nat.le_refl _, Nat.le_refl _⟩ rfl (Nat.le_of_ble_eq_true rfl) zm_2_26 rfl dL_isSo_277 rfl ?_
          refine zr_if_ne X (tgt := 351) dL_isSo_280 (by decide) (fun h => False.elim (h rfl)) (fun _ => ?_)
          refine zr_aload_n X 0 dL_isSo_283 rfl rfl ?_
          refine zr_bipush X (v := 10) dL_isSo_284 (by decide) ?_
          refine zr_cV X (As := [.int (10)]) (rest := []) (f' := lW cy f s) (st' := [.int (dCount (fun _ => 0) s mc fr 10)]) zc_X8_count (0) (show 0 < w.1 by rw [hw]; decide) ((lW_lo (by decide)).trans (CX_0 hX)) (q9 := _) rfl rfl (cq_count mc fr hm hm4 e17 hfr (by decide) hw (CX_lW hX)) ⟨Nat.le_of_ble_eq_true rfl, Nat.le_of_ble_eq_true rfl⟩ ⟨Nat.le_refl _, Nat.le_refl _⟩ rfl (Nat.le_of_ble_eq_true rfl) zm_2_26 rfl dL_isSo_286 rfl ?_
          refine zr_aload_n X 0 dL_isSo_289 rfl rfl ?_
          refine zr_bipush X (v := 7) dL_isSo_290 (by decide) ?_
          refine zr_cV X (As := [.int (7)]) (rest := [.int (dCount (fun _ => 0) s mc fr 10)]) (f' := lW cy f s) (st' := [.int (dCount (fun _ => 0) s mc fr 7), .int (dCount (fun _ => 0) s mc fr 10)]) zc_X8_count (0) (show 0 < w.1 by rw [hw]; decide) ((lW_lo (by decide)).trans (CX_0 hX)) (q9 := _) rfl rfl (cq_count mc fr hm hm4 e17 hfr (by decide) hw (CX_lW hX)) ⟨Nat.le_of_ble_eq_true rfl, Nat.le_of_ble_eq_true rfl⟩ ⟨Nat.le_refl _, Nat.le_refl _⟩ rfl (Nat.le_of_ble_eq_true rfl) zm_2_26 rfl dL_isSo_292 rfl ?_
          refine zr_aload_n X 0 dL_isSo_295 rfl rfl ?_
          refine zr_bipush X (v := 9) dL_isSo_296 (by decide) ?_
          refine zr_cV X (As := [.int (9)]) (rest := [.int (dCount (fun _ => 0) s mc fr 7), .int (dCount (fun _ => 0) s mc fr 10)]) (f' := lW cy f s) (st' := [.int (dCount (fun _ => 0) s mc fr 9), .int (dCount (fun _ => 0) s mc fr 7), .int (dCount (fun _ => 0) s mc fr 10)]) zc_X8_count (0) (show 0 < w.1 by rw [hw]; decide) ((lW_lo (by decide)).trans (CX_0 hX)) (q9 := _) rfl rfl (cq_count mc fr hm hm4 e17 hfr (by decide) hw (CX_lW hX)) ⟨Nat.le_of_ble_eq_true rfl, Nat.le_of_ble_eq_true rfl⟩ ⟨Nat.le_refl _, Nat.le_refl _⟩ rfl (Nat.le_of_ble_eq_true rfl) zm_2_26 rfl dL_isSo_298 rfl ?_
          refine zr_iadd X dL_isSo_301 ?_
          refine zr_aload_n X 0 dL_isSo_302 rfl rfl ?_
          refine zr_bipush X (v := 11) dL_isSo_303 (by decide) ?_
          refine zr_cV X (As := [.int (11)]) (rest := [.int ((dCount (fun _ => 0) s mc fr 7) + (dCount (fun _ => 0) s mc fr 9)), .int (dCount (fun _ => 0) s mc fr 10)]) (f' := lW cy f s) (st' := [.int (dCount (fun _ => 0) s mc fr 11), .int ((dCount (fun _ => 0) s mc fr 7) + (dCount (fun _ => 0) s mc fr 9)), .int (dCount (fun _ => 0) s mc fr 10)]) zc_X8_count (0) (show 0 < w.1 by rw [hw]; decide) ((lW_lo (by decide)).trans (CX_0 hX)) (q9 := _) rfl rfl (cq_count mc fr hm hm4 e17 hfr (by decide) hw (CX_lW hX)) ⟨Nat.le_of_ble_eq_true rfl, Nat.le_of_ble_eq_true rfl⟩ ⟨Nat.le_refl _, Nat.le_refl _⟩ rfl (Nat.le_of_ble_eq_true rfl) zm_2_26 rfl dL_isSo_305 rfl ?_
          refine zr_iadd X dL_isSo_308 ?_
          refine zr_aload_n X 0 dL_isSo_309 rfl rfl ?_
          refine zr_bipush X (v := 12) dL_isSo_310 (by decide) ?_
          refine zr_cV X (As := [.int (12)]) (rest := [.int (((dCount (fun _ => 0) s mc fr 7) + (dCount (fun _ => 0) s mc fr 9)) + (dCount (fun _ => 0) s mc fr 11)), .int (dCount (fun _ => 0) s mc fr 10)]) (f' := lW cy f s) (st' := [.int (dCount (fun _ => 0) s mc fr 12), .int (((dCount (fun _ => 0) s mc fr 7) + (dCount (fun _ => 0) s mc fr 9)) + (dCount (fun _ => 0) s mc fr 11)), .int (dCount (fun _ => 0) s mc fr 10)]) zc_X8_count (0) (show 0 < w.1 by rw [hw]; decide) ((lW_lo (by decide)).trans (CX_0 hX)) (q9 := _) rfl rfl (cq_count mc fr hm hm4 e17 hfr (by decide) hw (CX_lW hX)) ⟨Nat.le_of_ble_eq_true rfl, Nat.le_of_ble_eq_true rfl⟩ ⟨Nat.le_refl _, Nat.le_refl _⟩ rfl (Nat.le_of_ble_eq_true rfl) zm_2_26 rfl dL_isSo_312 rfl ?_
          refine zr_iadd X dL_isSo_315 ?_
          refine zr_aload_n X 0 dL_isSo_316 rfl rfl ?_
          refine zr_bipush X (v := 13) dL_isSo_317 (by decide) ?_
          refine zr_cV X (As := [.int (13)]) (rest := [.int ((((dCount (fun _ => 0) s mc fr 7) + (dCount (fun _ => 0) s mc fr 9)) + (dCount (fun _ => 0) s mc fr 11)) + (dCount (fun _ => 0) s mc fr 12)), .int (dCount (fun _ => 0) s mc fr 10)]) (f' := lW cy f s) (st' := [.int (dCount (fun _ => 0) s mc fr 13), .int ((((dCount (fun _ => 0) s mc fr 7) + (dCount (fun _ => 0) s mc fr 9)) + (dCount (fun _ => 0) s mc fr 11)) + (dCount (fun _ => 0) s mc fr 12)), .int (dCount (fun _ => 0) s mc fr 10)]) zc_X8_count (0) (show 0 < w.1 by rw [hw]; decide) ((lW_lo (by decide)).trans (CX_0 hX)) (q9 := _) rfl rfl (cq_count mc fr hm hm4 e17 hfr (by decide) hw (CX_lW hX)) ⟨Nat.le_of_ble_eq_true rfl, Nat.le_of_ble_eq_true rfl⟩ ⟨Nat.le_refl _, Nat.le_refl _⟩ rfl (Nat.le_of_ble_eq_true rfl) zm_2_26 rfl dL_isSo_319 rfl ?_
          refine zr_iadd X dL_isSo_322 ?_
          refine zr_icmp_ne X (tgt := 351) dL_isSo_323 (by decide) (fun h => False.elim (h (all_so jn))) (fun _ => ?_)
          refine zr_aload_n X 0 dL_isSo_326 rfl rfl ?_
          refine zr_iconst X (v := 5) dL_isSo_327 (by decide) ?_
          refine zr_cV X (As := [.int (5)]) (rest := []) (f' := lW cy f s) (st' := [.int (dCount (fun _ => 0) s mc fr 5)]) zc_X8_count (0) (show 0 < w.1 by rw [hw]; decide) ((lW_lo (by decide)).trans (CX_0 hX)) (q9 := _) rfl rfl (cq_count mc fr hm hm4 e17 hfr (by decide) hw (CX_lW hX)) ⟨Nat.le_of_ble_eq_true rfl, Nat.le_of_ble_eq_true rfl⟩ ⟨Nat.le_refl _, Nat.le_refl _⟩ rfl (Nat.le_of_ble_eq_true rfl) zm_2_26 rfl dL_isSo_328 rfl ?_
          refine zr_aload_n X 0 dL_isSo_331 rfl rfl ?_
          refine zr_bipush X (v := 16) dL_isSo_332 (by decide) ?_
          refine zr_cV X (As := [.int (16)]) (rest := [.int (dCount (fun _ => 0) s mc fr 5)]) (f' := lW cy f s) (st' := [.int (dCount (fun _ => 0) s mc fr 16), .int (dCount (fun _ => 0) s mc fr 5)]) zc_X8_count (0) (show 0 < w.1 by rw [hw]; decide) ((lW_lo (by decide)).trans (CX_0 hX)) (q9 := _) rfl rfl (cq_count mc fr hm hm4 e17 hfr (by decide) hw (CX_lW hX)) ⟨Nat.le_of_ble_eq_true rfl, Nat.le_of_ble_eq_true rfl⟩ ⟨Nat.le_refl _, Nat.le_refl _⟩ rfl (Nat.le_of_ble_eq_true rfl) zm_2_26 rfl dL_isSo_334 rfl ?_
          refine zr_aload_n X 0 dL_isSo_337 rfl rfl ?_
          refine zr_bipush X (v := 17) dL_isSo_338 (by decide) ?_
          refine zr_cV X (As := [.int (17)]) (rest := [.int (dCount (fun _ => 0) s mc fr 16), .int (dCount (fun _ => 0) s mc fr 5)]) (f' := lW cy f s) (st' := [.int (dCount (fun _ => 0) s mc fr 17), .int (dCount (fun _ => 0) s mc fr 16), .int (dCount (fun _ => 0) s mc fr 5)]) zc_X8_count (0) (show 0 < w.1 by rw [hw]; decide) ((lW_lo (by decide)).trans (CX_0 hX)) (q9 := _) rfl rfl (cq_count mc fr hm hm4 e17 hfr (by decide) hw (CX_lW hX)) ⟨Nat.le_of_ble_eq_true rfl, Nat.le_of_ble_eq_true rfl⟩ ⟨Nat.le_refl _, Nat.le_refl _⟩ rfl (Nat.le_of_ble_eq_true rfl) zm_2_26 rfl dL_isSo_340 rfl ?_
          refine zr_isub X dL_isSo_343 ?_
          refine zr_icmp_ne X (tgt := 351) dL_isSo_344 (by decide) (fun h => False.elim (h (mon_so jn))) (fun _ => ?_)
          refine zr_iconst X (v := 1) dL_isSo_347 (by decide) ?_
          refine zr_goto X (tgt := 352) dL_isSo_348 (by decide) ?_
          exact zret_z E rfl (Or.inr rfl) dL_isSo_352 rfl rfl
        · show G (w, 0, 0) (lW cy f s) [(0, .ref (w.2 (0))), (1, .ref (w.2 (132))), (2, .ref (w.2 (133))), (3, .ref (w.2 (134))), (4, .ref (w.2 (135))), (5, .int (1)), (6, .int (nI (n)))] 176 []
          refine zr_iload X 6 dL_isSo_176 rfl ?_
          refine zr_iconst X (v := 4) dL_isSo_178 (by decide) ?_
          refine zr_icmp_ge X (tgt := 219) dL_isSo_179 (by decide) (fun h => False.elim (nI_ge (show n < 4 by omega) (by decide) h)) (fun _ => ?_)
          refine zr_iload X 5 dL_isSo_182 rfl ?_
          refine zr_if_eq X (tgt := 219) dL_isSo_184 (by decide) (fun h => absurd h (by decide)) (fun _ => ?_)
          refine zr_aload_n X 0 dL_isSo_187 rfl rfl ?_
          refine zr_bipush X (v := 20) dL_isSo_188 (by decide) ?_
          refine zr_iload X 6 dL_isSo_190 rfl ?_
          refine zr_iadd X dL_isSo_192 ?_
          refine zr_cV X (As := [.int (20 + (nI (n)))]) (rest := []) (f' := lW cy f s) (st' := [.int (dCount (fun _ => 0) s mc fr (20 + (nI (n))))]) zc_X8_count (0) (show 0 < w.1 by rw [hw]; decide) ((lW_lo (by decide)).trans (CX_0 hX)) (q9 := _) rfl rfl (cq_count mc fr hm hm4 e17 hfr (n18_hi n hn176) hw (CX_lW hX)) ⟨Nat.le_of_ble_eq_true rfl, Nat.le_of_ble_eq_true rfl⟩ ⟨Nat.le_refl _, Nat.le_refl _⟩ rfl (Nat.le_of_ble_eq_true rfl) zm_2_26 rfl dL_isSo_193 rfl ?_
          refine zr_aload_n X 1 dL_isSo_196 rfl rfl ?_
          refine zr_bipush X (v := 15) dL_isSo_197 (by decide) ?_
          refine zr_iload X 6 dL_isSo_199 rfl ?_
          refine zr_iadd X dL_isSo_201 ?_
          refine zr_lld X hw lr_g (15 + (n)) (15 + (n)) (nI_add 15 _) (by omega) (by omega) dL_isSo_202 ?_
          refine zr_icmp_ne X (tgt := 210) dL_isSo_203 (by decide) (fun h => False.elim (h (ct_hi n hn176))) (fun _ => ?_)
          refine zr_iconst X (v := 1) dL_isSo_206 (by decide) ?_
          refine zr_goto X (tgt := 211) dL_isSo_207 (by decide) ?_
          refine zr_istore X (ls' := [(5, .int (1)), (0, .ref (w.2 (0))), (1, .ref (w.2 (132))), (2, .ref (w.2 (133))), (3, .ref (w.2 (134))), (4, .ref (w.2 (135))), (6, .int (nI (n)))]) dL_isSo_211 (by decide) rfl ?_
          refine zr_iinc X (v := nI (n + 1)) (ls' := [(6, .int (nI (n + 1))), (5, .int (1)), (0, .ref (w.2 (0))), (1, .ref (w.2 (132))), (2, .ref (w.2 (133))), (3, .ref (w.2 (134))), (4, .ref (w.2 (135)))]) 6 dL_isSo_213 rfl (zinc1 _) (by decide) rfl ?_
          refine zr_goto X (tgt := 176) dL_isSo_216 (by decide) ?_
          refine zr_loc X (ls' := [(0, .ref (w.2 (0))), (1, .ref (w.2 (132))), (2, .ref (w.2 (133))), (3, .ref (w.2 (134))), (4, .ref (w.2 (135))), (5, .int (1)), (6, .int (nI (n + 1)))]) [2, 3, 4, 5, 6, 1, 0] rfl ?_
          exact zcast (f2 := lW cy f s) (ls2 := [(0, .ref (w.2 (0))), (1, .ref (w.2 (132))), (2, .ref (w.2 (133))), (3, .ref (w.2 (134))), (4, .ref (w.2 (135))), (5, .int (1)), (6, .int (nI (n + 1)))]) rfl rfl ih176
      · show G (w, 0, 0) (lW cy f s) [(0, .ref (w.2 (0))), (1, .ref (w.2 (132))), (2, .ref (w.2 (133))), (3, .ref (w.2 (134))), (4, .ref (w.2 (135))), (5, .int (1)), (6, .int (nI (7 + (n))))] 133 []
        refine zr_iload X 6 dL_isSo_133 rfl ?_
        refine zr_bipush X (v := 15) dL_isSo_135 (by decide) ?_
        refine zr_icmp_ge X (tgt := 173) dL_isSo_137 (by decide) (fun h => False.elim (nI_ge (show 7 + n < 15 by omega) (by decide) h)) (fun _ => ?_)
        refine zr_iload X 5 dL_isSo_140 rfl ?_
        refine zr_if_eq X (tgt := 173) dL_isSo_142 (by decide) (fun h => absurd h (by decide)) (fun _ => ?_)
        refine zr_aload_n X 0 dL_isSo_145 rfl rfl ?_
        refine zr_iload X 6 dL_isSo_146 rfl ?_
        refine zr_iconst X (v := 3) dL_isSo_148 (by decide) ?_
        refine zr_iadd X dL_isSo_149 ?_
        refine zr_cV X (As := [.int ((nI (7 + (n))) + 3)]) (rest := []) (f' := lW cy f s) (st' := [.int (dCount (fun _ => 0) s mc fr ((nI (7 + (n))) + 3))]) zc_X8_count (0) (show 0 < w.1 by rw [hw]; decide) ((lW_lo (by decide)).trans (CX_0 hX)) (q9 := _) rfl rfl (cq_count mc fr hm hm4 e17 hfr (n18_mi n hn133) hw (CX_lW hX)) ⟨Nat.le_of_ble_eq_true rfl, Nat.le_of_ble_eq_true rfl⟩ ⟨Nat.le_refl _, Nat.le_refl _⟩ rfl (Nat.le_of_ble_eq_true rfl) zm_2_26 rfl dL_isSo_150 rfl ?_
        refine zr_aload_n X 1 dL_isSo_153 rfl rfl ?_
        refine zr_iload X 6 dL_isSo_154 rfl ?_
        refine zr_lld X hw lr_g (7 + (n)) (7 + (n)) (rfl) (by omega) (by omega) dL_isSo_156 ?_
        refine zr_icmp_ne X (tgt := 164) dL_isSo_157 (by decide) (fun h => False.elim (h (ct_mi n hn133))) (fun _ => ?_)
        refine zr_iconst X (v := 1) dL_isSo_160 (by decide) ?_
        refine zr_goto X (tgt := 165) dL_isSo_161 (by decide) ?_
        refine zr_istore X (ls' := [(5, .int (1)), (0, .ref (w.2 (0))), (1, .ref (w.2 (132))), (2, .ref (w.2 (133))), (3, .ref (w.2 (134))), (4, .ref (w.2 (135))), (6, .int (nI (7 + (n))))]) dL_isSo_165 (by decide) rfl ?_
        refine zr_iinc X (v := nI (7 + (n) + 1)) (ls' := [(6, .int (nI (7 + (n) + 1))), (5, .int (1)), (0, .ref (w.2 (0))), (1, .ref (w.2 (132))), (2, .ref (w.2 (133))), (3, .ref (w.2 (134))), (4, .ref (w.2 (135)))]) 6 dL_isSo_167 rfl (zinc1 _) (by decide) rfl ?_
        refine zr_goto X (tgt := 133) dL_isSo_170 (by decide) ?_
        refine zr_loc X (ls' := [(0, .ref (w.2 (0))), (1, .ref (w.2 (132))), (2, .ref (w.2 (133))), (3, .ref (w.2 (134))), (4, .ref (w.2 (135))), (5, .int (1)), (6, .int (nI (7 + (n) + 1)))]) [2, 3, 4, 5, 6, 1, 0] rfl ?_
        exact zcast (f2 := lW cy f s) (ls2 := [(0, .ref (w.2 (0))), (1, .ref (w.2 (132))), (2, .ref (w.2 (133))), (3, .ref (w.2 (134))), (4, .ref (w.2 (135))), (5, .int (1)), (6, .int (nI (7 + (n + 1))))]) rfl rfl ih133
    · show G (w, 0, 0) (lW cy f s) [(0, .ref (w.2 (0))), (1, .ref (w.2 (132))), (2, .ref (w.2 (133))), (3, .ref (w.2 (134))), (4, .ref (w.2 (135))), (5, .int (1)), (6, .int (nI (n)))] 91 []
      refine zr_iload X 6 dL_isSo_91 rfl ?_
      refine zr_bipush X (v := 7) dL_isSo_93 (by decide) ?_
      refine zr_icmp_ge X (tgt := 129) dL_isSo_95 (by decide) (fun h => False.elim (nI_ge (show n < 7 by omega) (by decide) h)) (fun _ => ?_)
      refine zr_iload X 5 dL_isSo_98 rfl ?_
      refine zr_if_eq X (tgt := 129) dL_isSo_100 (by decide) (fun h => absurd h (by decide)) (fun _ => ?_)
      refine zr_aload_n X 0 dL_isSo_103 rfl rfl ?_
      refine zr_iload X 6 dL_isSo_104 rfl ?_
      refine zr_cV X (As := [.int (nI (n))]) (rest := []) (f' := lW cy f s) (st' := [.int (dCount (fun _ => 0) s mc fr (nI (n)))]) zc_X8_count (0) (show 0 < w.1 by rw [hw]; decide) ((lW_lo (by decide)).trans (CX_0 hX)) (q9 := _) rfl rfl (cq_count mc fr hm hm4 e17 hfr (n18_lo n hn91) hw (CX_lW hX)) ⟨Nat.le_of_ble_eq_true rfl, Nat.le_of_ble_eq_true rfl⟩ ⟨Nat.le_refl _, Nat.le_refl _⟩ rfl (Nat.le_of_ble_eq_true rfl) zm_2_26 rfl dL_isSo_106 rfl ?_
      refine zr_aload_n X 1 dL_isSo_109 rfl rfl ?_
      refine zr_iload X 6 dL_isSo_110 rfl ?_
      refine zr_lld X hw lr_g (n) (n) (rfl) (by omega) (by omega) dL_isSo_112 ?_
      refine zr_icmp_ne X (tgt := 120) dL_isSo_113 (by decide) (fun h => False.elim (h (ct_lo n hn91))) (fun _ => ?_)
      refine zr_iconst X (v := 1) dL_isSo_116 (by decide) ?_
      refine zr_goto X (tgt := 121) dL_isSo_117 (by decide) ?_
      refine zr_istore X (ls' := [(5, .int (1)), (0, .ref (w.2 (0))), (1, .ref (w.2 (132))), (2, .ref (w.2 (133))), (3, .ref (w.2 (134))), (4, .ref (w.2 (135))), (6, .int (nI (n)))]) dL_isSo_121 (by decide) rfl ?_
      refine zr_iinc X (v := nI (n + 1)) (ls' := [(6, .int (nI (n + 1))), (5, .int (1)), (0, .ref (w.2 (0))), (1, .ref (w.2 (132))), (2, .ref (w.2 (133))), (3, .ref (w.2 (134))), (4, .ref (w.2 (135)))]) 6 dL_isSo_123 rfl (zinc1 _) (by decide) rfl ?_
      refine zr_goto X (tgt := 91) dL_isSo_126 (by decide) ?_
      refine zr_loc X (ls' := [(0, .ref (w.2 (0))), (1, .ref (w.2 (132))), (2, .ref (w.2 (133))), (3, .ref (w.2 (134))), (4, .ref (w.2 (135))), (5, .int (1)), (6, .int (nI (n + 1)))]) [2, 3, 4, 5, 6, 1, 0] rfl ?_
      exact zcast (f2 := lW cy f s) (ls2 := [(0, .ref (w.2 (0))), (1, .ref (w.2 (132))), (2, .ref (w.2 (133))), (3, .ref (w.2 (134))), (4, .ref (w.2 (135))), (5, .int (1)), (6, .int (nI (n + 1)))]) rfl rfl ih91
  · show G (w, 0, 0) (lW cy f s) [(0, .ref (w.2 (0))), (1, .ref (w.2 (132))), (2, .ref (w.2 (133))), (3, .ref (w.2 (134))), (4, .ref (w.2 (135))), (5, .int (1)), (6, .int (nI (n)))] 49 []
    refine zr_iload X 6 dL_isSo_49 rfl ?_
    refine zr_bipush X (v := 21) dL_isSo_51 (by decide) ?_
    refine zr_icmp_ge X (tgt := 88) dL_isSo_53 (by decide) (fun h => False.elim (nI_ge (show n < 21 by omega) (by decide) h)) (fun _ => ?_)
    refine zr_iload X 5 dL_isSo_56 rfl ?_
    refine zr_if_eq X (tgt := 88) dL_isSo_58 (by decide) (fun h => absurd h (by decide)) (fun _ => ?_)
    refine zr_aload_n X 0 dL_isSo_61 rfl rfl ?_
    refine zr_iload X 6 dL_isSo_62 rfl ?_
    refine zr_cV X (As := [.int (nI (n))]) (rest := []) (f' := lW cy f s) (st' := [.int (dLoaves s (nI (n)))]) zc_X8_loaves (0) (show 0 < w.1 by rw [hw]; decide) ((lW_lo (by decide)).trans (CX_0 hX)) (q9 := _) rfl rfl (cq_loaves hw (CX_lW hX)) ⟨Nat.le_of_ble_eq_true rfl, Nat.le_of_ble_eq_true rfl⟩ ⟨Nat.le_refl _, Nat.le_refl _⟩ rfl (Nat.le_of_ble_eq_true rfl) zm_3_77 rfl dL_isSo_64 rfl ?_
    refine zr_aload X 4 dL_isSo_67 rfl ?_
    refine zr_iload X 6 dL_isSo_69 rfl ?_
    refine zr_lld X hw lr_a (n) (115 + n) (rfl) (by omega) (by omega) dL_isSo_71 ?_
    refine zr_icmp_ne X (tgt := 79) dL_isSo_72 (by decide) (fun h => False.elim (h (lo_at hn49))) (fun _ => ?_)
    refine zr_iconst X (v := 1) dL_isSo_75 (by decide) ?_
    refine zr_goto X (tgt := 80) dL_isSo_76 (by decide) ?_
    refine zr_istore X (ls' := [(5, .int (1)), (0, .ref (w.2 (0))), (1, .ref (w.2 (132))), (2, .ref (w.2 (133))), (3, .ref (w.2 (134))), (4, .ref (w.2 (135))), (6, .int (nI (n)))]) dL_isSo_80 (by decide) rfl ?_
    refine zr_iinc X (v := nI (n + 1)) (ls' := [(6, .int (nI (n + 1))), (5, .int (1)), (0, .ref (w.2 (0))), (1, .ref (w.2 (132))), (2, .ref (w.2 (133))), (3, .ref (w.2 (134))), (4, .ref (w.2 (135)))]) 6 dL_isSo_82 rfl (zinc1 _) (by decide) rfl ?_
    refine zr_goto X (tgt := 49) dL_isSo_85 (by decide) ?_
    refine zr_loc X (ls' := [(0, .ref (w.2 (0))), (1, .ref (w.2 (132))), (2, .ref (w.2 (133))), (3, .ref (w.2 (134))), (4, .ref (w.2 (135))), (5, .int (1)), (6, .int (nI (n + 1)))]) [2, 3, 4, 5, 6, 1, 0] rfl ?_
    exact zcast (f2 := lW cy f s) (ls2 := [(0, .ref (w.2 (0))), (1, .ref (w.2 (132))), (2, .ref (w.2 (133))), (3, .ref (w.2 (134))), (4, .ref (w.2 (135))), (5, .int (1)), (6, .int (nI (n + 1)))]) rfl rfl ih49
