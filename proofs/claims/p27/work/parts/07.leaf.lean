def mBegin (v : Nat → Int32) (a b : Int32) : Nat → Int32 := upd (upd (upd (upd (upd (upd (upd (upd (upd v 0 a) 1 b) 2 0) 3 0) 4 0) 5 0) 6 0) 7 0) 8 0
set_option maxHeartbeats 4000000 in
set_option maxRecDepth 100000 in
theorem k_Mule_begin {l : Launch} {D : va_G} {cy : Nat → ClassId} {w : zW} {f : zF} {t : Nat} {v : Nat → Int32} {a : Int32} {b : Int32} (ht : t < w.1) (hf : f t = eMule v)  : zSd l D cy yX4_begin cX4_begin 3 none 0 0 [.ref (w.2 (t)), .int (a), .int (b)] w f none (va_up f t (eMule (mBegin v a b))) := by
  refine zSd.intro (by decide) (Nat.le_of_ble_eq_true rfl) (fun G X E => ?_)
  show G (w, 0, 0) f [(0, .ref (w.2 (t))), (1, .int (a)), (2, .int (b))] 0 []
  refine zr_aload_n X 0 dX4_begin_0 rfl rfl ?_
  refine zr_iload_n X 1 dX4_begin_1 rfl rfl ?_
  refine zr_put X zfd_RX4_9 zty_4_0 (t) ht hf rfl rfl (Nat.le_of_ble_eq_true rfl) (eMule_set _ _ 0 (by decide)) dX4_begin_2 ?_
  refine zr_aload_n X 0 dX4_begin_5 rfl rfl ?_
  refine zr_iload_n X 2 dX4_begin_6 rfl rfl ?_
  refine zr_put X zfd_RX4_15 zty_4_1 (t) ht (va_up_self _ _ _) rfl rfl (Nat.le_of_ble_eq_true rfl) (eMule_set _ _ 1 (by decide)) dX4_begin_7 ?_
  rw [va_up_up]
  refine zr_aload_n X 0 dX4_begin_10 rfl rfl ?_
  refine zr_iconst X (v := 0) dX4_begin_11 (by decide) ?_
  refine zr_put X zfd_RX4_18 zty_4_2 (t) ht (va_up_self _ _ _) rfl rfl (Nat.le_of_ble_eq_true rfl) (eMule_set _ _ 2 (by decide)) dX4_begin_12 ?_
  rw [va_up_up]
  refine zr_aload_n X 0 dX4_begin_15 rfl rfl ?_
  refine zr_iconst X (v := 0) dX4_begin_16 (by decide) ?_
  refine zr_put X zfd_RX4_21 zty_4_3 (t) ht (va_up_self _ _ _) rfl rfl (Nat.le_of_ble_eq_true rfl) (eMule_set _ _ 3 (by decide)) dX4_begin_17 ?_
  rw [va_up_up]
  refine zr_aload_n X 0 dX4_begin_20 rfl rfl ?_
  refine zr_iconst X (v := 0) dX4_begin_21 (by decide) ?_
  refine zr_put X zfd_RX4_24 zty_4_4 (t) ht (va_up_self _ _ _) rfl rfl (Nat.le_of_ble_eq_true rfl) (eMule_set _ _ 4 (by decide)) dX4_begin_22 ?_
  rw [va_up_up]
  refine zr_aload_n X 0 dX4_begin_25 rfl rfl ?_
  refine zr_iconst X (v := 0) dX4_begin_26 (by decide) ?_
  refine zr_put X zfd_RX4_27 zty_4_5 (t) ht (va_up_self _ _ _) rfl rfl (Nat.le_of_ble_eq_true rfl) (eMule_set _ _ 5 (by decide)) dX4_begin_27 ?_
  rw [va_up_up]
  refine zr_aload_n X 0 dX4_begin_30 rfl rfl ?_
  refine zr_iconst X (v := 0) dX4_begin_31 (by decide) ?_
  refine zr_put X zfd_RX4_30 zty_4_6 (t) ht (va_up_self _ _ _) rfl rfl (Nat.le_of_ble_eq_true rfl) (eMule_set _ _ 6 (by decide)) dX4_begin_32 ?_
  rw [va_up_up]
  refine zr_aload_n X 0 dX4_begin_35 rfl rfl ?_
  refine zr_iconst X (v := 0) dX4_begin_36 (by decide) ?_
  refine zr_put X zfd_RX4_33 zty_4_7 (t) ht (va_up_self _ _ _) rfl rfl (Nat.le_of_ble_eq_true rfl) (eMule_set _ _ 7 (by decide)) dX4_begin_37 ?_
  rw [va_up_up]
  refine zr_aload_n X 0 dX4_begin_40 rfl rfl ?_
  refine zr_iconst X (v := 0) dX4_begin_41 (by decide) ?_
  refine zr_put X zfd_RX4_36 zty_4_8 (t) ht (va_up_self _ _ _) rfl rfl (Nat.le_of_ble_eq_true rfl) (eMule_set _ _ 8 (by decide)) dX4_begin_42 ?_
  rw [va_up_up]
  exact zret_v E rfl dX4_begin_45 rfl
def mLeave (v : Nat → Int32) (n d : Int32) : Nat → Int32 := upd (upd (upd (upd (upd v 2 1) 3 2) 4 n) 5 d) 6 (v 6 + 1)
set_option maxHeartbeats 4000000 in
set_option maxRecDepth 100000 in
theorem k_Mule_leave {l : Launch} {D : va_G} {cy : Nat → ClassId} {w : zW} {f : zF} {t : Nat} {v : Nat → Int32} {n : Int32} {d : Int32} (ht : t < w.1) (hf : f t = eMule v)  : zSd l D cy yX4_leave cX4_leave 3 none 0 0 [.ref (w.2 (t)), .int (n), .int (d)] w f none (va_up f t (eMule (mLeave v n d))) := by
  refine zSd.intro (by decide) (Nat.le_of_ble_eq_true rfl) (fun G X E => ?_)
  show G (w, 0, 0) f [(0, .ref (w.2 (t))), (1, .int (n)), (2, .int (d))] 0 []
  refine zr_aload_n X 0 dX4_leave_0 rfl rfl ?_
  refine zr_iconst X (v := 1) dX4_leave_1 (by decide) ?_
  refine zr_put X zfd_RX4_18 zty_4_2 (t) ht hf rfl rfl (Nat.le_of_ble_eq_true rfl) (eMule_set _ _ 2 (by decide)) dX4_leave_2 ?_
  refine zr_aload_n X 0 dX4_leave_5 rfl rfl ?_
  refine zr_iconst X (v := 2) dX4_leave_6 (by decide) ?_
  refine zr_put X zfd_RX4_21 zty_4_3 (t) ht (va_up_self _ _ _) rfl rfl (Nat.le_of_ble_eq_true rfl) (eMule_set _ _ 3 (by decide)) dX4_leave_7 ?_
  rw [va_up_up]
  refine zr_aload_n X 0 dX4_leave_10 rfl rfl ?_
  refine zr_iload_n X 1 dX4_leave_11 rfl rfl ?_
  refine zr_put X zfd_RX4_24 zty_4_4 (t) ht (va_up_self _ _ _) rfl rfl (Nat.le_of_ble_eq_true rfl) (eMule_set _ _ 4 (by decide)) dX4_leave_12 ?_
  rw [va_up_up]
  refine zr_aload_n X 0 dX4_leave_15 rfl rfl ?_
  refine zr_iload_n X 2 dX4_leave_16 rfl rfl ?_
  refine zr_put X zfd_RX4_27 zty_4_5 (t) ht (va_up_self _ _ _) rfl rfl (Nat.le_of_ble_eq_true rfl) (eMule_set _ _ 5 (by decide)) dX4_leave_17 ?_
  rw [va_up_up]
  refine zr_aload_n X 0 dX4_leave_20 rfl rfl ?_
  refine zr_dup X dX4_leave_21 rfl ?_
  refine zr_get X zfd_RX4_30 (t) ht (va_up_self _ _ _) (v := .int (v 6)) rfl dX4_leave_22 ?_
  refine zr_iconst X (v := 1) dX4_leave_25 (by decide) ?_
  refine zr_iadd X dX4_leave_26 ?_
  refine zr_put X zfd_RX4_30 zty_4_6 (t) ht (va_up_self _ _ _) rfl rfl (Nat.le_of_ble_eq_true rfl) (eMule_set _ _ 6 (by decide)) dX4_leave_27 ?_
  rw [va_up_up]
  exact zret_v E rfl dX4_leave_30 rfl
def mComeOnC (v : Nat → Int32) : (Nat → Int32) × Int32 := if v 2 = 3 then (upd (upd (upd v 3 (v 3 - 1)) 6 0) 2 0, 0) else (upd (upd v 3 (v 3 - 1)) 2 0, 0)
def mComeOnB (v : Nat → Int32) : (Nat → Int32) × Int32 := if v 3 - 1 ≤ 0 then (if v 2 = 1 then (upd (upd (upd v 3 (v 3 - 1)) 2 2) 3 2, 1) else if v 2 = 2 then (if v 6 < v 1 then mComeOnC v else (upd (upd (upd (upd v 3 (v 3 - 1)) 2 3) 3 5) 8 (v 8 + 1), 0)) else mComeOnC v) else (upd v 3 (v 3 - 1), 0)
def mComeOn (v : Nat → Int32) (s : Int32) : (Nat → Int32) × Int32 := if v 2 = 0 then (v, 0) else if s = 0 then mComeOnB v else if v 2 = 3 then mComeOnB v else (v, 0)
theorem zsame_up {f : zF} {t : Nat} {e : va_E} (h : f t = e) : ∀ {e' : va_E}, e = e' → f = va_up f t e' := by
  intro e' he
  funext j
  unfold va_up
  by_cases hj : j = t
  · rw [if_pos hj, hj, h, he]
  · rw [if_neg hj]
set_option maxHeartbeats 4000000 in
set_option maxRecDepth 100000 in
theorem k_Mule_comeOn {l : Launch} {D : va_G} {cy : Nat → ClassId} {w : zW} {f : zF} {t : Nat} {v : Nat → Int32} {s : Int32} (ht : t < w.1) (hf : f t = eMule v)  : zSd l D cy yX4_comeOn cX4_comeOn 2 (some .boolean) 0 0 [.ref (w.2 (t)), .int (s)] w f (some (.int ((mComeOn v s).2))) (va_up f t (eMule (mComeOn v s).1)) := by
  refine zSd.intro (by decide) (Nat.le_of_ble_eq_true rfl) (fun G X E => ?_)
  show G (w, 0, 0) f [(0, .ref (w.2 (t))), (1, .int (s))] 0 []
  refine zr_aload_n X 0 dX4_comeOn_0 rfl rfl ?_
  refine zr_get X zfd_RX4_18 (t) ht hf (v := .int (v 2)) rfl dX4_comeOn_1 ?_
  refine zr_if_eq X (tgt := 19) dX4_comeOn_4 (by decide) (fun h1 => ?_) (fun h2 => ?_)
  · refine zr_iconst X (v := 0) dX4_comeOn_19 (by decide) ?_
    exact zret_z E rfl (Or.inl rfl) dX4_comeOn_20 (by simp only [mComeOn, mComeOnB, mComeOnC, if_pos h1]) (zsame_up hf (by simp only [mComeOn, mComeOnB, mComeOnC, if_pos h1]))
  · refine zr_iload_n X 1 dX4_comeOn_7 rfl rfl ?_
    refine zr_if_eq X (tgt := 21) dX4_comeOn_8 (by decide) (fun h3 => ?_) (fun h4 => ?_)
    · refine zr_aload_n X 0 dX4_comeOn_21 rfl rfl ?_
      refine zr_dup X dX4_comeOn_22 rfl ?_
      refine zr_get X zfd_RX4_21 (t) ht hf (v := .int (v 3)) rfl dX4_comeOn_23 ?_
      refine zr_iconst X (v := 1) dX4_comeOn_26 (by decide) ?_
      refine zr_isub X dX4_comeOn_27 ?_
      refine zr_put X zfd_RX4_21 zty_4_3 (t) ht hf rfl rfl (Nat.le_of_ble_eq_true rfl) (eMule_set _ _ 3 (by decide)) dX4_comeOn_28 ?_
      refine zr_aload_n X 0 dX4_comeOn_31 rfl rfl ?_
      refine zr_get X zfd_RX4_21 (t) ht (va_up_self _ _ _) (v := .int ((v 3) - 1)) rfl dX4_comeOn_32 ?_
      refine zr_if_le X (tgt := 40) dX4_comeOn_35 (by decide) (fun h5 => ?_) (fun h6 => ?_)
      · refine zr_aload_n X 0 dX4_comeOn_40 rfl rfl ?_
        refine zr_get X zfd_RX4_18 (t) ht (va_up_self _ _ _) (v := .int (v 2)) rfl dX4_comeOn_41 ?_
        refine zr_iconst X (v := 1) dX4_comeOn_44 (by decide) ?_
        refine zr_icmp_ne X (tgt := 60) dX4_comeOn_45 (by decide) (fun h7 => ?_) (fun h8 => ?_)
        · refine zr_aload_n X 0 dX4_comeOn_60 rfl rfl ?_
          refine zr_get X zfd_RX4_18 (t) ht (va_up_self _ _ _) (v := .int (v 2)) rfl dX4_comeOn_61 ?_
          refine zr_iconst X (v := 2) dX4_comeOn_64 (by decide) ?_
          refine zr_icmp_ne X (tgt := 101) dX4_comeOn_65 (by decide) (fun h9 => ?_) (fun h10 => ?_)
          · refine zr_aload_n X 0 dX4_comeOn_101 rfl rfl ?_
            refine zr_get X zfd_RX4_18 (t) ht (va_up_self _ _ _) (v := .int (v 2)) rfl dX4_comeOn_102 ?_
            refine zr_iconst X (v := 3) dX4_comeOn_105 (by decide) ?_
            refine zr_icmp_ne X (tgt := 114) dX4_comeOn_106 (by decide) (fun h11 => ?_) (fun h12 => ?_)
            · refine zr_aload_n X 0 dX4_comeOn_114 rfl rfl ?_
              refine zr_iconst X (v := 0) dX4_comeOn_115 (by decide) ?_
              refine zr_put X zfd_RX4_18 zty_4_2 (t) ht (va_up_self _ _ _) rfl rfl (Nat.le_of_ble_eq_true rfl) (eMule_set _ _ 2 (by decide)) dX4_comeOn_116 ?_
              rw [va_up_up]
              refine zr_iconst X (v := 0) dX4_comeOn_119 (by decide) ?_
              exact zret_z E rfl (Or.inl rfl) dX4_comeOn_120 (by simp only [mComeOn, mComeOnB, mComeOnC, if_neg h2, if_pos h3, if_pos h5, if_neg h7, if_neg h9, if_neg h11]) (by simp only [mComeOn, mComeOnB, mComeOnC, if_neg h2, if_pos h3, if_pos h5, if_neg h7, if_neg h9, if_neg h11])
            · refine zr_aload_n X 0 dX4_comeOn_109 rfl rfl ?_
              refine zr_iconst X (v := 0) dX4_comeOn_110 (by decide) ?_
              refine zr_put X zfd_RX4_30 zty_4_6 (t) ht (va_up_self _ _ _) rfl rfl (Nat.le_of_ble_eq_true rfl) (eMule_set _ _ 6 (by decide)) dX4_comeOn_111 ?_
              rw [va_up_up]
              refine zr_aload_n X 0 dX4_comeOn_114 rfl rfl ?_
              refine zr_iconst X (v := 0) dX4_comeOn_115 (by decide) ?_
              refine zr_put X zfd_RX4_18 zty_4_2 (t) ht (va_up_self _ _ _) rfl rfl (Nat.le_of_ble_eq_true rfl) (eMule_set _ _ 2 (by decide)) dX4_comeOn_116 ?_
              rw [va_up_up]
              refine zr_iconst X (v := 0) dX4_comeOn_119 (by decide) ?_
              exact zret_z E rfl (Or.inl rfl) dX4_comeOn_120 (by simp only [mComeOn, mComeOnB, mComeOnC, if_neg h2, if_pos h3, if_pos h5, if_neg h7, if_neg h9, if_pos h12]) (by simp only [mComeOn, mComeOnB, mComeOnC, if_neg h2, if_pos h3, if_pos h5, if_neg h7, if_neg h9, if_pos h12])
          · refine zr_aload_n X 0 dX4_comeOn_68 rfl rfl ?_
            refine zr_get X zfd_RX4_30 (t) ht (va_up_self _ _ _) (v := .int (v 6)) rfl dX4_comeOn_69 ?_
            refine zr_aload_n X 0 dX4_comeOn_72 rfl rfl ?_
            refine zr_get X zfd_RX4_15 (t) ht (va_up_self _ _ _) (v := .int (v 1)) rfl dX4_comeOn_73 ?_
            refine zr_icmp_lt X (tgt := 101) dX4_comeOn_76 (by decide) (fun h13 => ?_) (fun h14 => ?_)
            · refine zr_aload_n X 0 dX4_comeOn_101 rfl rfl ?_
              refine zr_get X zfd_RX4_18 (t) ht (va_up_self _ _ _) (v := .int (v 2)) rfl dX4_comeOn_102 ?_
              refine zr_iconst X (v := 3) dX4_comeOn_105 (by decide) ?_
              refine zr_icmp_ne X (tgt := 114) dX4_comeOn_106 (by decide) (fun h15 => ?_) (fun h16 => ?_)
              · refine zr_aload_n X 0 dX4_comeOn_114 rfl rfl ?_
                refine zr_iconst X (v := 0) dX4_comeOn_115 (by decide) ?_
                refine zr_put X zfd_RX4_18 zty_4_2 (t) ht (va_up_self _ _ _) rfl rfl (Nat.le_of_ble_eq_true rfl) (eMule_set _ _ 2 (by decide)) dX4_comeOn_116 ?_
                rw [va_up_up]
                refine zr_iconst X (v := 0) dX4_comeOn_119 (by decide) ?_
                exact zret_z E rfl (Or.inl rfl) dX4_comeOn_120 (by simp only [mComeOn, mComeOnB, mComeOnC, if_neg h2, if_pos h3, if_pos h5, if_neg h7, if_pos h10, if_pos h13, if_neg h15]) (by simp only [mComeOn, mComeOnB, mComeOnC, if_neg h2, if_pos h3, if_pos h5, if_neg h7, if_pos h10, if_pos h13, if_neg h15])
              · refine zr_aload_n X 0 dX4_comeOn_109 rfl rfl ?_
                refine zr_iconst X (v := 0) dX4_comeOn_110 (by decide) ?_
                refine zr_put X zfd_RX4_30 zty_4_6 (t) ht (va_up_self _ _ _) rfl rfl (Nat.le_of_ble_eq_true rfl) (eMule_set _ _ 6 (by decide)) dX4_comeOn_111 ?_
                rw [va_up_up]
                refine zr_aload_n X 0 dX4_comeOn_114 rfl rfl ?_
                refine zr_iconst X (v := 0) dX4_comeOn_115 (by decide) ?_
                refine zr_put X zfd_RX4_18 zty_4_2 (t) ht (va_up_self _ _ _) rfl rfl (Nat.le_of_ble_eq_true rfl) (eMule_set _ _ 2 (by decide)) dX4_comeOn_116 ?_
                rw [va_up_up]
                refine zr_iconst X (v := 0) dX4_comeOn_119 (by decide) ?_
                exact zret_z E rfl (Or.inl rfl) dX4_comeOn_120 (by simp only [mComeOn, mComeOnB, mComeOnC, if_neg h2, if_pos h3, if_pos h5, if_neg h7, if_pos h10, if_pos h13, if_pos h16]) (by simp only [mComeOn, mComeOnB, mComeOnC, if_neg h2, if_pos h3, if_pos h5, if_neg h7, if_pos h10, if_pos h13, if_pos h16])
            · refine zr_aload_n X 0 dX4_comeOn_79 rfl rfl ?_
              refine zr_iconst X (v := 3) dX4_comeOn_80 (by decide) ?_
              refine zr_put X zfd_RX4_18 zty_4_2 (t) ht (va_up_self _ _ _) rfl rfl (Nat.le_of_ble_eq_true rfl) (eMule_set _ _ 2 (by decide)) dX4_comeOn_81 ?_
              rw [va_up_up]
              refine zr_aload_n X 0 dX4_comeOn_84 rfl rfl ?_
              refine zr_iconst X (v := 5) dX4_comeOn_85 (by decide) ?_
              refine zr_put X zfd_RX4_21 zty_4_3 (t) ht (va_up_self _ _ _) rfl rfl (Nat.le_of_ble_eq_true rfl) (eMule_set _ _ 3 (by decide)) dX4_comeOn_86 ?_
              rw [va_up_up]
              refine zr_aload_n X 0 dX4_comeOn_89 rfl rfl ?_
              refine zr_dup X dX4_comeOn_90 rfl ?_
              refine zr_get X zfd_RX4_36 (t) ht (va_up_self _ _ _) (v := .int (v 8)) rfl dX4_comeOn_91 ?_
              refine zr_iconst X (v := 1) dX4_comeOn_94 (by decide) ?_
              refine zr_iadd X dX4_comeOn_95 ?_
              refine zr_put X zfd_RX4_36 zty_4_8 (t) ht (va_up_self _ _ _) rfl rfl (Nat.le_of_ble_eq_true rfl) (eMule_set _ _ 8 (by decide)) dX4_comeOn_96 ?_
              rw [va_up_up]
              refine zr_iconst X (v := 0) dX4_comeOn_99 (by decide) ?_
              exact zret_z E rfl (Or.inl rfl) dX4_comeOn_100 (by simp only [mComeOn, mComeOnB, mComeOnC, if_neg h2, if_pos h3, if_pos h5, if_neg h7, if_pos h10, if_neg h14]) (by simp only [mComeOn, mComeOnB, mComeOnC, if_neg h2, if_pos h3, if_pos h5, if_neg h7, if_pos h10, if_neg h14])
        · refine zr_aload_n X 0 dX4_comeOn_48 rfl rfl ?_
          refine zr_iconst X (v := 2) dX4_comeOn_49 (by decide) ?_
          refine zr_put X zfd_RX4_18 zty_4_2 (t) ht (va_up_self _ _ _) rfl rfl (Nat.le_of_ble_eq_true rfl) (eMule_set _ _ 2 (by decide)) dX4_comeOn_50 ?_
          rw [va_up_up]
          refine zr_aload_n X 0 dX4_comeOn_53 rfl rfl ?_
          refine zr_iconst X (v := 2) dX4_comeOn_54 (by decide) ?_
          refine zr_put X zfd_RX4_21 zty_4_3 (t) ht (va_up_self _ _ _) rfl rfl (Nat.le_of_ble_eq_true rfl) (eMule_set _ _ 3 (by decide)) dX4_comeOn_55 ?_
          rw [va_up_up]
          refine zr_iconst X (v := 1) dX4_comeOn_58 (by decide) ?_
          exact zret_z E rfl (Or.inr rfl) dX4_comeOn_59 (by simp only [mComeOn, mComeOnB, mComeOnC, if_neg h2, if_pos h3, if_pos h5, if_pos h8]) (by simp only [mComeOn, mComeOnB, mComeOnC, if_neg h2, if_pos h3, if_pos h5, if_pos h8])
      · refine zr_iconst X (v := 0) dX4_comeOn_38 (by decide) ?_
        exact zret_z E rfl (Or.inl rfl) dX4_comeOn_39 (by simp only [mComeOn, mComeOnB, mComeOnC, if_neg h2, if_pos h3, if_neg h6]) (by simp only [mComeOn, mComeOnB, mComeOnC, if_neg h2, if_pos h3, if_neg h6])
    · refine zr_aload_n X 0 dX4_comeOn_11 rfl rfl ?_
      refine zr_get X zfd_RX4_18 (t) ht hf (v := .int (v 2)) rfl dX4_comeOn_12 ?_
      refine zr_iconst X (v := 3) dX4_comeOn_15 (by decide) ?_
      refine zr_icmp_eq X (tgt := 21) dX4_comeOn_16 (by decide) (fun h17 => ?_) (fun h18 => ?_)
      · refine zr_aload_n X 0 dX4_comeOn_21 rfl rfl ?_
        refine zr_dup X dX4_comeOn_22 rfl ?_
        refine zr_get X zfd_RX4_21 (t) ht hf (v := .int (v 3)) rfl dX4_comeOn_23 ?_
        refine zr_iconst X (v := 1) dX4_comeOn_26 (by decide) ?_
        refine zr_isub X dX4_comeOn_27 ?_
        refine zr_put X zfd_RX4_21 zty_4_3 (t) ht hf rfl rfl (Nat.le_of_ble_eq_true rfl) (eMule_set _ _ 3 (by decide)) dX4_comeOn_28 ?_
        refine zr_aload_n X 0 dX4_comeOn_31 rfl rfl ?_
        refine zr_get X zfd_RX4_21 (t) ht (va_up_self _ _ _) (v := .int ((v 3) - 1)) rfl dX4_comeOn_32 ?_
        refine zr_if_le X (tgt := 40) dX4_comeOn_35 (by decide) (fun h19 => ?_) (fun h20 => ?_)
        · refine zr_aload_n X 0 dX4_comeOn_40 rfl rfl ?_
          refine zr_get X zfd_RX4_18 (t) ht (va_up_self _ _ _) (v := .int (v 2)) rfl dX4_comeOn_41 ?_
          refine zr_iconst X (v := 1) dX4_comeOn_44 (by decide) ?_
          refine zr_icmp_ne X (tgt := 60) dX4_comeOn_45 (by decide) (fun h21 => ?_) (fun h22 => ?_)
          · refine zr_aload_n X 0 dX4_comeOn_60 rfl rfl ?_
            refine zr_get X zfd_RX4_18 (t) ht (va_up_self _ _ _) (v := .int (v 2)) rfl dX4_comeOn_61 ?_
            refine zr_iconst X (v := 2) dX4_comeOn_64 (by decide) ?_
            refine zr_icmp_ne X (tgt := 101) dX4_comeOn_65 (by decide) (fun h23 => ?_) (fun h24 => ?_)
            · refine zr_aload_n X 0 dX4_comeOn_101 rfl rfl ?_
              refine zr_get X zfd_RX4_18 (t) ht (va_up_self _ _ _) (v := .int (v 2)) rfl dX4_comeOn_102 ?_
              refine zr_iconst X (v := 3) dX4_comeOn_105 (by decide) ?_
              refine zr_icmp_ne X (tgt := 114) dX4_comeOn_106 (by decide) (fun h25 => absurd h17 h25) (fun _ => ?_)
              refine zr_aload_n X 0 dX4_comeOn_109 rfl rfl ?_
              refine zr_iconst X (v := 0) dX4_comeOn_110 (by decide) ?_
              refine zr_put X zfd_RX4_30 zty_4_6 (t) ht (va_up_self _ _ _) rfl rfl (Nat.le_of_ble_eq_true rfl) (eMule_set _ _ 6 (by decide)) dX4_comeOn_111 ?_
              rw [va_up_up]
              refine zr_aload_n X 0 dX4_comeOn_114 rfl rfl ?_
              refine zr_iconst X (v := 0) dX4_comeOn_115 (by decide) ?_
              refine zr_put X zfd_RX4_18 zty_4_2 (t) ht (va_up_self _ _ _) rfl rfl (Nat.le_of_ble_eq_true rfl) (eMule_set _ _ 2 (by decide)) dX4_comeOn_116 ?_
              rw [va_up_up]
              refine zr_iconst X (v := 0) dX4_comeOn_119 (by decide) ?_
              exact zret_z E rfl (Or.inl rfl) dX4_comeOn_120 (by simp only [mComeOn, mComeOnB, mComeOnC, if_neg h2, if_neg h4, if_pos h17, if_pos h19, if_neg h21, if_neg h23]) (by simp only [mComeOn, mComeOnB, mComeOnC, if_neg h2, if_neg h4, if_pos h17, if_pos h19, if_neg h21, if_neg h23])
            · refine zr_aload_n X 0 dX4_comeOn_68 rfl rfl ?_
              refine zr_get X zfd_RX4_30 (t) ht (va_up_self _ _ _) (v := .int (v 6)) rfl dX4_comeOn_69 ?_
              refine zr_aload_n X 0 dX4_comeOn_72 rfl rfl ?_
              refine zr_get X zfd_RX4_15 (t) ht (va_up_self _ _ _) (v := .int (v 1)) rfl dX4_comeOn_73 ?_
              refine zr_icmp_lt X (tgt := 101) dX4_comeOn_76 (by decide) (fun h26 => ?_) (fun h27 => ?_)
              · refine zr_aload_n X 0 dX4_comeOn_101 rfl rfl ?_
                refine zr_get X zfd_RX4_18 (t) ht (va_up_self _ _ _) (v := .int (v 2)) rfl dX4_comeOn_102 ?_
                refine zr_iconst X (v := 3) dX4_comeOn_105 (by decide) ?_
                refine zr_icmp_ne X (tgt := 114) dX4_comeOn_106 (by decide) (fun h28 => absurd h17 h28) (fun _ => ?_)
                refine zr_aload_n X 0 dX4_comeOn_109 rfl rfl ?_
                refine zr_iconst X (v := 0) dX4_comeOn_110 (by decide) ?_
                refine zr_put X zfd_RX4_30 zty_4_6 (t) ht (va_up_self _ _ _) rfl rfl (Nat.le_of_ble_eq_true rfl) (eMule_set _ _ 6 (by decide)) dX4_comeOn_111 ?_
                rw [va_up_up]
                refine zr_aload_n X 0 dX4_comeOn_114 rfl rfl ?_
                refine zr_iconst X (v := 0) dX4_comeOn_115 (by decide) ?_
                refine zr_put X zfd_RX4_18 zty_4_2 (t) ht (va_up_self _ _ _) rfl rfl (Nat.le_of_ble_eq_true rfl) (eMule_set _ _ 2 (by decide)) dX4_comeOn_116 ?_
                rw [va_up_up]
                refine zr_iconst X (v := 0) dX4_comeOn_119 (by decide) ?_
                exact zret_z E rfl (Or.inl rfl) dX4_comeOn_120 (by simp only [mComeOn, mComeOnB, mComeOnC, if_neg h2, if_neg h4, if_pos h17, if_pos h19, if_neg h21, if_pos h24, if_pos h26]) (by simp only [mComeOn, mComeOnB, mComeOnC, if_neg h2, if_neg h4, if_pos h17, if_pos h19, if_neg h21, if_pos h24, if_pos h26])
              · refine zr_aload_n X 0 dX4_comeOn_79 rfl rfl ?_
                refine zr_iconst X (v := 3) dX4_comeOn_80 (by decide) ?_
                refine zr_put X zfd_RX4_18 zty_4_2 (t) ht (va_up_self _ _ _) rfl rfl (Nat.le_of_ble_eq_true rfl) (eMule_set _ _ 2 (by decide)) dX4_comeOn_81 ?_
                rw [va_up_up]
                refine zr_aload_n X 0 dX4_comeOn_84 rfl rfl ?_
                refine zr_iconst X (v := 5) dX4_comeOn_85 (by decide) ?_
                refine zr_put X zfd_RX4_21 zty_4_3 (t) ht (va_up_self _ _ _) rfl rfl (Nat.le_of_ble_eq_true rfl) (eMule_set _ _ 3 (by decide)) dX4_comeOn_86 ?_
                rw [va_up_up]
                refine zr_aload_n X 0 dX4_comeOn_89 rfl rfl ?_
                refine zr_dup X dX4_comeOn_90 rfl ?_
                refine zr_get X zfd_RX4_36 (t) ht (va_up_self _ _ _) (v := .int (v 8)) rfl dX4_comeOn_91 ?_
                refine zr_iconst X (v := 1) dX4_comeOn_94 (by decide) ?_
                refine zr_iadd X dX4_comeOn_95 ?_
                refine zr_put X zfd_RX4_36 zty_4_8 (t) ht (va_up_self _ _ _) rfl rfl (Nat.le_of_ble_eq_true rfl) (eMule_set _ _ 8 (by decide)) dX4_comeOn_96 ?_
                rw [va_up_up]
                refine zr_iconst X (v := 0) dX4_comeOn_99 (by decide) ?_
                exact zret_z E rfl (Or.inl rfl) dX4_comeOn_100 (by simp only [mComeOn, mComeOnB, mComeOnC, if_neg h2, if_neg h4, if_pos h17, if_pos h19, if_neg h21, if_pos h24, if_neg h27]) (by simp only [mComeOn, mComeOnB, mComeOnC, if_neg h2, if_neg h4, if_pos h17, if_pos h19, if_neg h21, if_pos h24, if_neg h27])
          · refine zr_aload_n X 0 dX4_comeOn_48 rfl rfl ?_
            refine zr_iconst X (v := 2) dX4_comeOn_49 (by decide) ?_
            refine zr_put X zfd_RX4_18 zty_4_2 (t) ht (va_up_self _ _ _) rfl rfl (Nat.le_of_ble_eq_true rfl) (eMule_set _ _ 2 (by decide)) dX4_comeOn_50 ?_
            rw [va_up_up]
            refine zr_aload_n X 0 dX4_comeOn_53 rfl rfl ?_
            refine zr_iconst X (v := 2) dX4_comeOn_54 (by decide) ?_
            refine zr_put X zfd_RX4_21 zty_4_3 (t) ht (va_up_self _ _ _) rfl rfl (Nat.le_of_ble_eq_true rfl) (eMule_set _ _ 3 (by decide)) dX4_comeOn_55 ?_
            rw [va_up_up]
            refine zr_iconst X (v := 1) dX4_comeOn_58 (by decide) ?_
            exact zret_z E rfl (Or.inr rfl) dX4_comeOn_59 (by simp only [mComeOn, mComeOnB, mComeOnC, if_neg h2, if_neg h4, if_pos h17, if_pos h19, if_pos h22]) (by simp only [mComeOn, mComeOnB, mComeOnC, if_neg h2, if_neg h4, if_pos h17, if_pos h19, if_pos h22])
        · refine zr_iconst X (v := 0) dX4_comeOn_38 (by decide) ?_
          exact zret_z E rfl (Or.inl rfl) dX4_comeOn_39 (by simp only [mComeOn, mComeOnB, mComeOnC, if_neg h2, if_neg h4, if_pos h17, if_neg h20]) (by simp only [mComeOn, mComeOnB, mComeOnC, if_neg h2, if_neg h4, if_pos h17, if_neg h20])
      · refine zr_iconst X (v := 0) dX4_comeOn_19 (by decide) ?_
        exact zret_z E rfl (Or.inl rfl) dX4_comeOn_20 (by simp only [mComeOn, mComeOnB, mComeOnC, if_neg h2, if_neg h4, if_neg h18]) (zsame_up hf (by simp only [mComeOn, mComeOnB, mComeOnC, if_neg h2, if_neg h4, if_neg h18]))
set_option maxHeartbeats 4000000 in
set_option maxRecDepth 100000 in
theorem k_Mule_unload {l : Launch} {D : va_G} {cy : Nat → ClassId} {w : zW} {f : zF} {t : Nat} {v : Nat → Int32}  (ht : t < w.1) (hf : f t = eMule v)  : zSd l D cy yX4_unload cX4_unload 2 (some .int) 0 0 [.ref (w.2 (t))] w f (some (.int (v 4))) (va_up f t (eMule (upd (upd v 4 0) 7 (v 7 + v 4)))) := by
  refine zSd.intro (by decide) (Nat.le_of_ble_eq_true rfl) (fun G X E => ?_)
  show G (w, 0, 0) f [(0, .ref (w.2 (t)))] 0 []
  refine zr_aload_n X 0 dX4_unload_0 rfl rfl ?_
  refine zr_get X zfd_RX4_24 (t) ht hf (v := .int (v 4)) rfl dX4_unload_1 ?_
  refine zr_istore_n X (ls' := [(1, .int (v 4)), (0, .ref (w.2 (t)))]) dX4_unload_4 rfl (by decide) rfl ?_
  refine zr_aload_n X 1 dX4_unload_5 rfl rfl ?_
  refine zr_iconst X (v := 0) dX4_unload_6 (by decide) ?_
  refine zr_put X zfd_RX4_24 zty_4_4 (t) ht hf rfl rfl (Nat.le_of_ble_eq_true rfl) (eMule_set _ _ 4 (by decide)) dX4_unload_7 ?_
  refine zr_aload_n X 1 dX4_unload_10 rfl rfl ?_
  refine zr_dup X dX4_unload_11 rfl ?_
  refine zr_get X zfd_RX4_33 (t) ht (va_up_self _ _ _) (v := .int (v 7)) rfl dX4_unload_12 ?_
  refine zr_iload_n X 0 dX4_unload_15 rfl rfl ?_
  refine zr_iadd X dX4_unload_16 ?_
  refine zr_put X zfd_RX4_33 zty_4_7 (t) ht (va_up_self _ _ _) rfl rfl (Nat.le_of_ble_eq_true rfl) (eMule_set _ _ 7 (by decide)) dX4_unload_17 ?_
  rw [va_up_up]
  refine zr_iload_n X 0 dX4_unload_20 rfl rfl ?_
  exact zret_i E rfl dX4_unload_21 rfl rfl
def mTell (v : Nat → Int32) (x : Int32) : Int32 := if x = 0 then v 0 else if x = 1 then v 1 else if x = 2 then v 2 else if x = 3 then v 3 else if x = 4 then v 4 else if x = 5 then v 6 else if x = 6 then v 7 else if x = 7 then v 8 else (-1000001)
set_option maxHeartbeats 4000000 in
set_option maxRecDepth 100000 in
theorem k_Mule_tell {l : Launch} {D : va_G} {cy : Nat → ClassId} {w : zW} {f : zF} {t : Nat} {v : Nat → Int32} {x : Int32} (ht : t < w.1) (hf : f t = eMule v)  : zSd l D cy yX4_tell cX4_tell 2 (some .int) 0 0 [.ref (w.2 (t)), .int (x)] w f (some (.int (mTell v x))) f := by
  refine zSd.intro (by decide) (Nat.le_of_ble_eq_true rfl) (fun G X E => ?_)
  show G (w, 0, 0) f [(0, .ref (w.2 (t))), (1, .int (x))] 0 []
  refine zr_iload_n X 1 dX4_tell_0 rfl rfl ?_
  by_cases h1 : x = 0
  · refine zr_tableIn X (off := 47) (tgt := 48) dX4_tell_1 (by rw [h1]; decide) (by rw [h1]; decide) (by rw [h1]; decide) (by decide) ?_
    refine zr_aload_n X 0 dX4_tell_48 rfl rfl ?_
    refine zr_get X zfd_RX4_9 (t) ht hf (v := .int (v 0)) rfl dX4_tell_49 ?_
    exact zret_i E rfl dX4_tell_52 (by simp only [mTell, if_pos h1]) rfl
  by_cases h2 : x = 1
  · refine zr_tableIn X (off := 52) (tgt := 53) dX4_tell_1 (by rw [h2]; decide) (by rw [h2]; decide) (by rw [h2]; decide) (by decide) ?_
    refine zr_aload_n X 0 dX4_tell_53 rfl rfl ?_
    refine zr_get X zfd_RX4_15 (t) ht hf (v := .int (v 1)) rfl dX4_tell_54 ?_
    exact zret_i E rfl dX4_tell_57 (by simp only [mTell, if_neg h1, if_pos h2]) rfl
  by_cases h3 : x = 2
  · refine zr_tableIn X (off := 57) (tgt := 58) dX4_tell_1 (by rw [h3]; decide) (by rw [h3]; decide) (by rw [h3]; decide) (by decide) ?_
    refine zr_aload_n X 0 dX4_tell_58 rfl rfl ?_
    refine zr_get X zfd_RX4_18 (t) ht hf (v := .int (v 2)) rfl dX4_tell_59 ?_
    exact zret_i E rfl dX4_tell_62 (by simp only [mTell, if_neg h1, if_neg h2, if_pos h3]) rfl
  by_cases h4 : x = 3
  · refine zr_tableIn X (off := 62) (tgt := 63) dX4_tell_1 (by rw [h4]; decide) (by rw [h4]; decide) (by rw [h4]; decide) (by decide) ?_
    refine zr_aload_n X 0 dX4_tell_63 rfl rfl ?_
    refine zr_get X zfd_RX4_21 (t) ht hf (v := .int (v 3)) rfl dX4_tell_64 ?_
    exact zret_i E rfl dX4_tell_67 (by simp only [mTell, if_neg h1, if_neg h2, if_neg h3, if_pos h4]) rfl
  by_cases h5 : x = 4
  · refine zr_tableIn X (off := 67) (tgt := 68) dX4_tell_1 (by rw [h5]; decide) (by rw [h5]; decide) (by rw [h5]; decide) (by decide) ?_
    refine zr_aload_n X 0 dX4_tell_68 rfl rfl ?_
    refine zr_get X zfd_RX4_24 (t) ht hf (v := .int (v 4)) rfl dX4_tell_69 ?_
    exact zret_i E rfl dX4_tell_72 (by simp only [mTell, if_neg h1, if_neg h2, if_neg h3, if_neg h4, if_pos h5]) rfl
  by_cases h6 : x = 5
  · refine zr_tableIn X (off := 72) (tgt := 73) dX4_tell_1 (by rw [h6]; decide) (by rw [h6]; decide) (by rw [h6]; decide) (by decide) ?_
    refine zr_aload_n X 0 dX4_tell_73 rfl rfl ?_
    refine zr_get X zfd_RX4_30 (t) ht hf (v := .int (v 6)) rfl dX4_tell_74 ?_
    exact zret_i E rfl dX4_tell_77 (by simp only [mTell, if_neg h1, if_neg h2, if_neg h3, if_neg h4, if_neg h5, if_pos h6]) rfl
  by_cases h7 : x = 6
  · refine zr_tableIn X (off := 77) (tgt := 78) dX4_tell_1 (by rw [h7]; decide) (by rw [h7]; decide) (by rw [h7]; decide) (by decide) ?_
    refine zr_aload_n X 0 dX4_tell_78 rfl rfl ?_
    refine zr_get X zfd_RX4_33 (t) ht hf (v := .int (v 7)) rfl dX4_tell_79 ?_
    exact zret_i E rfl dX4_tell_82 (by simp only [mTell, if_neg h1, if_neg h2, if_neg h3, if_neg h4, if_neg h5, if_neg h6, if_pos h7]) rfl
  by_cases h8 : x = 7
  · refine zr_tableIn X (off := 82) (tgt := 83) dX4_tell_1 (by rw [h8]; decide) (by rw [h8]; decide) (by rw [h8]; decide) (by decide) ?_
    refine zr_aload_n X 0 dX4_tell_83 rfl rfl ?_
    refine zr_get X zfd_RX4_36 (t) ht hf (v := .int (v 8)) rfl dX4_tell_84 ?_
    exact zret_i E rfl dX4_tell_87 (by simp only [mTell, if_neg h1, if_neg h2, if_neg h3, if_neg h4, if_neg h5, if_neg h6, if_neg h7, if_pos h8]) rfl
  refine zr_tableOut X (tgt := 88) dX4_tell_1 (by have e0 := lv_neT h1 (show (0 : Int32).toInt = 0 from by decide); have e1 := lv_neT h2 (show (1 : Int32).toInt = 1 from by decide); have e2 := lv_neT h3 (show (2 : Int32).toInt = 2 from by decide); have e3 := lv_neT h4 (show (3 : Int32).toInt = 3 from by decide); have e4 := lv_neT h5 (show (4 : Int32).toInt = 4 from by decide); have e5 := lv_neT h6 (show (5 : Int32).toInt = 5 from by decide); have e6 := lv_neT h7 (show (6 : Int32).toInt = 6 from by decide); have e7 := lv_neT h8 (show (7 : Int32).toInt = 7 from by decide); omega) (by decide) ?_
  refine zr_ldc X zm_3_54 dX4_tell_88 ?_
  exact zret_i E rfl dX4_tell_90 (by simp only [mTell, if_neg h1, if_neg h2, if_neg h3, if_neg h4, if_neg h5, if_neg h6, if_neg h7, if_neg h8]) rfl
def mAhead (v v2 : Nat → Int32) : Int32 := if v 0 = v2 0 then (if v2 6 ≤ v 6 then 0 else 1) else if v 0 ≤ v2 0 then 0 else 1
set_option maxHeartbeats 4000000 in
set_option maxRecDepth 100000 in
theorem k_Mule_copyFrom {l : Launch} {D : va_G} {cy : Nat → ClassId} {w : zW} {f : zF} {t u : Nat} {v v2 : Nat → Int32} (ht : t < w.1) (hu : u < w.1) (hf : f t = eMule v) (hf2 : f u = eMule v2) (hne : u ≠ t) : zSd l D cy yX4_copyFrom cX4_copyFrom 2 none 0 0 [.ref (w.2 (t)), .ref (w.2 (u))] w f none (va_up f t (eMule v2)) := by
  refine zSd.intro (by decide) (Nat.le_of_ble_eq_true rfl) (fun G X E => ?_)
  show G (w, 0, 0) f [(0, .ref (w.2 (t))), (1, .ref (w.2 (u)))] 0 []
  refine zr_aload_n X 0 dX4_copyFrom_0 rfl rfl ?_
  refine zr_aload_n X 1 dX4_copyFrom_1 rfl rfl ?_
  refine zr_get X zfd_RX4_9 (u) hu hf2 (v := .int (v2 0)) rfl dX4_copyFrom_2 ?_
  refine zr_put X zfd_RX4_9 zty_4_0 (t) ht hf rfl rfl (Nat.le_of_ble_eq_true rfl) (eMule_set _ _ 0 (by decide)) dX4_copyFrom_5 ?_
  refine zr_aload_n X 0 dX4_copyFrom_8 rfl rfl ?_
  refine zr_aload_n X 1 dX4_copyFrom_9 rfl rfl ?_
  refine zr_get X zfd_RX4_15 (u) hu ((va_up_ne _ _ (by exact hne)).trans hf2) (v := .int (v2 1)) rfl dX4_copyFrom_10 ?_
  refine zr_put X zfd_RX4_15 zty_4_1 (t) ht (va_up_self _ _ _) rfl rfl (Nat.le_of_ble_eq_true rfl) (eMule_set _ _ 1 (by decide)) dX4_copyFrom_13 ?_
  rw [va_up_up]
  refine zr_aload_n X 0 dX4_copyFrom_16 rfl rfl ?_
  refine zr_aload_n X 1 dX4_copyFrom_17 rfl rfl ?_
  refine zr_get X zfd_RX4_18 (u) hu ((va_up_ne _ _ (by exact hne)).trans hf2) (v := .int (v2 2)) rfl dX4_copyFrom_18 ?_
  refine zr_put X zfd_RX4_18 zty_4_2 (t) ht (va_up_self _ _ _) rfl rfl (Nat.le_of_ble_eq_true rfl) (eMule_set _ _ 2 (by decide)) dX4_copyFrom_21 ?_
  rw [va_up_up]
  refine zr_aload_n X 0 dX4_copyFrom_24 rfl rfl ?_
  refine zr_aload_n X 1 dX4_copyFrom_25 rfl rfl ?_
  refine zr_get X zfd_RX4_21 (u) hu ((va_up_ne _ _ (by exact hne)).trans hf2) (v := .int (v2 3)) rfl dX4_copyFrom_26 ?_
  refine zr_put X zfd_RX4_21 zty_4_3 (t) ht (va_up_self _ _ _) rfl rfl (Nat.le_of_ble_eq_true rfl) (eMule_set _ _ 3 (by decide)) dX4_copyFrom_29 ?_
  rw [va_up_up]
  refine zr_aload_n X 0 dX4_copyFrom_32 rfl rfl ?_
  refine zr_aload_n X 1 dX4_copyFrom_33 rfl rfl ?_
  refine zr_get X zfd_RX4_24 (u) hu ((va_up_ne _ _ (by exact hne)).trans hf2) (v := .int (v2 4)) rfl dX4_copyFrom_34 ?_
  refine zr_put X zfd_RX4_24 zty_4_4 (t) ht (va_up_self _ _ _) rfl rfl (Nat.le_of_ble_eq_true rfl) (eMule_set _ _ 4 (by decide)) dX4_copyFrom_37 ?_
  rw [va_up_up]
  refine zr_aload_n X 0 dX4_copyFrom_40 rfl rfl ?_
  refine zr_aload_n X 1 dX4_copyFrom_41 rfl rfl ?_
  refine zr_get X zfd_RX4_27 (u) hu ((va_up_ne _ _ (by exact hne)).trans hf2) (v := .int (v2 5)) rfl dX4_copyFrom_42 ?_
  refine zr_put X zfd_RX4_27 zty_4_5 (t) ht (va_up_self _ _ _) rfl rfl (Nat.le_of_ble_eq_true rfl) (eMule_set _ _ 5 (by decide)) dX4_copyFrom_45 ?_
  rw [va_up_up]
  refine zr_aload_n X 0 dX4_copyFrom_48 rfl rfl ?_
  refine zr_aload_n X 1 dX4_copyFrom_49 rfl rfl ?_
  refine zr_get X zfd_RX4_30 (u) hu ((va_up_ne _ _ (by exact hne)).trans hf2) (v := .int (v2 6)) rfl dX4_copyFrom_50 ?_
  refine zr_put X zfd_RX4_30 zty_4_6 (t) ht (va_up_self _ _ _) rfl rfl (Nat.le_of_ble_eq_true rfl) (eMule_set _ _ 6 (by decide)) dX4_copyFrom_53 ?_
  rw [va_up_up]
  refine zr_aload_n X 0 dX4_copyFrom_56 rfl rfl ?_
  refine zr_aload_n X 1 dX4_copyFrom_57 rfl rfl ?_
  refine zr_get X zfd_RX4_33 (u) hu ((va_up_ne _ _ (by exact hne)).trans hf2) (v := .int (v2 7)) rfl dX4_copyFrom_58 ?_
  refine zr_put X zfd_RX4_33 zty_4_7 (t) ht (va_up_self _ _ _) rfl rfl (Nat.le_of_ble_eq_true rfl) (eMule_set _ _ 7 (by decide)) dX4_copyFrom_61 ?_
  rw [va_up_up]
  refine zr_aload_n X 0 dX4_copyFrom_64 rfl rfl ?_
  refine zr_aload_n X 1 dX4_copyFrom_65 rfl rfl ?_
  refine zr_get X zfd_RX4_36 (u) hu ((va_up_ne _ _ (by exact hne)).trans hf2) (v := .int (v2 8)) rfl dX4_copyFrom_66 ?_
  refine zr_put X zfd_RX4_36 zty_4_8 (t) ht (va_up_self _ _ _) rfl rfl (Nat.le_of_ble_eq_true rfl) (eMule_set _ _ 8 (by decide)) dX4_copyFrom_69 ?_
  rw [va_up_up]
  exact zret_v E rfl dX4_copyFrom_72 (congrArg (va_up f t) (eMule_congr (by intro i hi; rcases (show i = 0 ∨ i = 1 ∨ i = 2 ∨ i = 3 ∨ i = 4 ∨ i = 5 ∨ i = 6 ∨ i = 7 ∨ i = 8 by omega) with rfl | rfl | rfl | rfl | rfl | rfl | rfl | rfl | rfl <;> rfl)))
set_option maxHeartbeats 4000000 in
set_option maxRecDepth 100000 in
theorem k_Group_copyFrom {l : Launch} {D : va_G} {cy : Nat → ClassId} {w : zW} {f : zF} {t u : Nat} {v v2 : Nat → Int32} (ht : t < w.1) (hu : u < w.1) (hf : f t = eGroup v) (hf2 : f u = eGroup v2) (hne : u ≠ t) : zSd l D cy yX0_copyFrom cX0_copyFrom 2 none 0 0 [.ref (w.2 (t)), .ref (w.2 (u))] w f none (va_up f t (eGroup v2)) := by
  refine zSd.intro (by decide) (Nat.le_of_ble_eq_true rfl) (fun G X E => ?_)
  show G (w, 0, 0) f [(0, .ref (w.2 (t))), (1, .ref (w.2 (u)))] 0 []
  refine zr_aload_n X 0 dX0_copyFrom_0 rfl rfl ?_
  refine zr_aload_n X 1 dX0_copyFrom_1 rfl rfl ?_
  refine zr_get X zfd_RX0_9 (u) hu hf2 (v := .int (v2 0)) rfl dX0_copyFrom_2 ?_
  refine zr_put X zfd_RX0_9 zty_0_0 (t) ht hf rfl rfl (Nat.le_of_ble_eq_true rfl) (eGroup_set _ _ 0 (by decide)) dX0_copyFrom_5 ?_
  refine zr_aload_n X 0 dX0_copyFrom_8 rfl rfl ?_
  refine zr_aload_n X 1 dX0_copyFrom_9 rfl rfl ?_
  refine zr_get X zfd_RX0_15 (u) hu ((va_up_ne _ _ (by exact hne)).trans hf2) (v := .int (v2 1)) rfl dX0_copyFrom_10 ?_
  refine zr_put X zfd_RX0_15 zty_0_1 (t) ht (va_up_self _ _ _) rfl rfl (Nat.le_of_ble_eq_true rfl) (eGroup_set _ _ 1 (by decide)) dX0_copyFrom_13 ?_
  rw [va_up_up]
  refine zr_aload_n X 0 dX0_copyFrom_16 rfl rfl ?_
  refine zr_aload_n X 1 dX0_copyFrom_17 rfl rfl ?_
  refine zr_get X zfd_RX0_18 (u) hu ((va_up_ne _ _ (by exact hne)).trans hf2) (v := .int (v2 2)) rfl dX0_copyFrom_18 ?_
  refine zr_put X zfd_RX0_18 zty_0_2 (t) ht (va_up_self _ _ _) rfl rfl (Nat.le_of_ble_eq_true rfl) (eGroup_set _ _ 2 (by decide)) dX0_copyFrom_21 ?_
  rw [va_up_up]
  refine zr_aload_n X 0 dX0_copyFrom_24 rfl rfl ?_
  refine zr_aload_n X 1 dX0_copyFrom_25 rfl rfl ?_
  refine zr_get X zfd_RX0_21 (u) hu ((va_up_ne _ _ (by exact hne)).trans hf2) (v := .int (v2 3)) rfl dX0_copyFrom_26 ?_
  refine zr_put X zfd_RX0_21 zty_0_3 (t) ht (va_up_self _ _ _) rfl rfl (Nat.le_of_ble_eq_true rfl) (eGroup_set _ _ 3 (by decide)) dX0_copyFrom_29 ?_
  rw [va_up_up]
  refine zr_aload_n X 0 dX0_copyFrom_32 rfl rfl ?_
  refine zr_aload_n X 1 dX0_copyFrom_33 rfl rfl ?_
  refine zr_get X zfd_RX0_24 (u) hu ((va_up_ne _ _ (by exact hne)).trans hf2) (v := .int (v2 4)) rfl dX0_copyFrom_34 ?_
  refine zr_put X zfd_RX0_24 zty_0_4 (t) ht (va_up_self _ _ _) rfl rfl (Nat.le_of_ble_eq_true rfl) (eGroup_set _ _ 4 (by decide)) dX0_copyFrom_37 ?_
  rw [va_up_up]
  refine zr_aload_n X 0 dX0_copyFrom_40 rfl rfl ?_
  refine zr_aload_n X 1 dX0_copyFrom_41 rfl rfl ?_
  refine zr_get X zfd_RX0_27 (u) hu ((va_up_ne _ _ (by exact hne)).trans hf2) (v := .int (v2 5)) rfl dX0_copyFrom_42 ?_
  refine zr_put X zfd_RX0_27 zty_0_5 (t) ht (va_up_self _ _ _) rfl rfl (Nat.le_of_ble_eq_true rfl) (eGroup_set _ _ 5 (by decide)) dX0_copyFrom_45 ?_
  rw [va_up_up]
  exact zret_v E rfl dX0_copyFrom_48 (congrArg (va_up f t) (eGroup_congr (by intro i hi; rcases (show i = 0 ∨ i = 1 ∨ i = 2 ∨ i = 3 ∨ i = 4 ∨ i = 5 by omega) with rfl | rfl | rfl | rfl | rfl | rfl <;> rfl)))
set_option maxHeartbeats 4000000 in
set_option maxRecDepth 100000 in
theorem k_Ledger_copyFrom {l : Launch} {D : va_G} {cy : Nat → ClassId} {w : zW} {f : zF} {t u : Nat} {v v2 : Nat → Int32} (ht : t < w.1) (hu : u < w.1) (hf : f t = eLedger v) (hf2 : f u = eLedger v2) (hne : u ≠ t) : zSd l D cy yX3_copyFrom cX3_copyFrom 2 none 0 0 [.ref (w.2 (t)), .ref (w.2 (u))] w f none (va_up f t (eLedger v2)) := by
  refine zSd.intro (by decide) (Nat.le_of_ble_eq_true rfl) (fun G X E => ?_)
  show G (w, 0, 0) f [(0, .ref (w.2 (t))), (1, .ref (w.2 (u)))] 0 []
  refine zr_aload_n X 0 dX3_copyFrom_0 rfl rfl ?_
  refine zr_aload_n X 1 dX3_copyFrom_1 rfl rfl ?_
  refine zr_get X zfd_RX3_7 (u) hu hf2 (v := .int (v2 0)) rfl dX3_copyFrom_2 ?_
  refine zr_put X zfd_RX3_7 zty_3_0 (t) ht hf rfl rfl (Nat.le_of_ble_eq_true rfl) (eLedger_set _ _ 0 (by decide)) dX3_copyFrom_5 ?_
  refine zr_aload_n X 0 dX3_copyFrom_8 rfl rfl ?_
  refine zr_aload_n X 1 dX3_copyFrom_9 rfl rfl ?_
  refine zr_get X zfd_RX3_13 (u) hu ((va_up_ne _ _ (by exact hne)).trans hf2) (v := .int (v2 1)) rfl dX3_copyFrom_10 ?_
  refine zr_put X zfd_RX3_13 zty_3_1 (t) ht (va_up_self _ _ _) rfl rfl (Nat.le_of_ble_eq_true rfl) (eLedger_set _ _ 1 (by decide)) dX3_copyFrom_13 ?_
  rw [va_up_up]
  refine zr_aload_n X 0 dX3_copyFrom_16 rfl rfl ?_
  refine zr_aload_n X 1 dX3_copyFrom_17 rfl rfl ?_
  refine zr_get X zfd_RX3_16 (u) hu ((va_up_ne _ _ (by exact hne)).trans hf2) (v := .int (v2 2)) rfl dX3_copyFrom_18 ?_
  refine zr_put X zfd_RX3_16 zty_3_2 (t) ht (va_up_self _ _ _) rfl rfl (Nat.le_of_ble_eq_true rfl) (eLedger_set _ _ 2 (by decide)) dX3_copyFrom_21 ?_
  rw [va_up_up]
  refine zr_aload_n X 0 dX3_copyFrom_24 rfl rfl ?_
  refine zr_aload_n X 1 dX3_copyFrom_25 rfl rfl ?_
  refine zr_get X zfd_RX3_19 (u) hu ((va_up_ne _ _ (by exact hne)).trans hf2) (v := .int (v2 3)) rfl dX3_copyFrom_26 ?_
  refine zr_put X zfd_RX3_19 zty_3_3 (t) ht (va_up_self _ _ _) rfl rfl (Nat.le_of_ble_eq_true rfl) (eLedger_set _ _ 3 (by decide)) dX3_copyFrom_29 ?_
  rw [va_up_up]
  refine zr_aload_n X 0 dX3_copyFrom_32 rfl rfl ?_
  refine zr_aload_n X 1 dX3_copyFrom_33 rfl rfl ?_
  refine zr_get X zfd_RX3_22 (u) hu ((va_up_ne _ _ (by exact hne)).trans hf2) (v := .int (v2 4)) rfl dX3_copyFrom_34 ?_
  refine zr_put X zfd_RX3_22 zty_3_4 (t) ht (va_up_self _ _ _) rfl rfl (Nat.le_of_ble_eq_true rfl) (eLedger_set _ _ 4 (by decide)) dX3_copyFrom_37 ?_
  rw [va_up_up]
  refine zr_aload_n X 0 dX3_copyFrom_40 rfl rfl ?_
  refine zr_aload_n X 1 dX3_copyFrom_41 rfl rfl ?_
  refine zr_get X zfd_RX3_25 (u) hu ((va_up_ne _ _ (by exact hne)).trans hf2) (v := .int (v2 5)) rfl dX3_copyFrom_42 ?_
  refine zr_put X zfd_RX3_25 zty_3_5 (t) ht (va_up_self _ _ _) rfl rfl (Nat.le_of_ble_eq_true rfl) (eLedger_set _ _ 5 (by decide)) dX3_copyFrom_45 ?_
  rw [va_up_up]
  refine zr_aload_n X 0 dX3_copyFrom_48 rfl rfl ?_
  refine zr_aload_n X 1 dX3_copyFrom_49 rfl rfl ?_
  refine zr_get X zfd_RX3_28 (u) hu ((va_up_ne _ _ (by exact hne)).trans hf2) (v := .int (v2 6)) rfl dX3_copyFrom_50 ?_
  refine zr_put X zfd_RX3_28 zty_3_6 (t) ht (va_up_self _ _ _) rfl rfl (Nat.le_of_ble_eq_true rfl) (eLedger_set _ _ 6 (by decide)) dX3_copyFrom_53 ?_
  rw [va_up_up]
  refine zr_aload_n X 0 dX3_copyFrom_56 rfl rfl ?_
  refine zr_aload_n X 1 dX3_copyFrom_57 rfl rfl ?_
  refine zr_get X zfd_RX3_31 (u) hu ((va_up_ne _ _ (by exact hne)).trans hf2) (v := .int (v2 7)) rfl dX3_copyFrom_58 ?_
  refine zr_put X zfd_RX3_31 zty_3_7 (t) ht (va_up_self _ _ _) rfl rfl (Nat.le_of_ble_eq_true rfl) (eLedger_set _ _ 7 (by decide)) dX3_copyFrom_61 ?_
  rw [va_up_up]
  refine zr_aload_n X 0 dX3_copyFrom_64 rfl rfl ?_
  refine zr_aload_n X 1 dX3_copyFrom_65 rfl rfl ?_
  refine zr_get X zfd_RX3_34 (u) hu ((va_up_ne _ _ (by exact hne)).trans hf2) (v := .int (v2 8)) rfl dX3_copyFrom_66 ?_
  refine zr_put X zfd_RX3_34 zty_3_8 (t) ht (va_up_self _ _ _) rfl rfl (Nat.le_of_ble_eq_true rfl) (eLedger_set _ _ 8 (by decide)) dX3_copyFrom_69 ?_
  rw [va_up_up]
  refine zr_aload_n X 0 dX3_copyFrom_72 rfl rfl ?_
  refine zr_aload_n X 1 dX3_copyFrom_73 rfl rfl ?_
  refine zr_get X zfd_RX3_37 (u) hu ((va_up_ne _ _ (by exact hne)).trans hf2) (v := .int (v2 9)) rfl dX3_copyFrom_74 ?_
  refine zr_put X zfd_RX3_37 zty_3_9 (t) ht (va_up_self _ _ _) rfl rfl (Nat.le_of_ble_eq_true rfl) (eLedger_set _ _ 9 (by decide)) dX3_copyFrom_77 ?_
  rw [va_up_up]
  exact zret_v E rfl dX3_copyFrom_80 (congrArg (va_up f t) (eLedger_congr (by intro i hi; rcases (show i = 0 ∨ i = 1 ∨ i = 2 ∨ i = 3 ∨ i = 4 ∨ i = 5 ∨ i = 6 ∨ i = 7 ∨ i = 8 ∨ i = 9 by omega) with rfl | rfl | rfl | rfl | rfl | rfl | rfl | rfl | rfl | rfl <;> rfl)))
set_option maxHeartbeats 4000000 in
set_option maxRecDepth 100000 in
theorem k_Sett_copyFrom {l : Launch} {D : va_G} {cy : Nat → ClassId} {w : zW} {f : zF} {t u : Nat} {v v2 : Nat → Int32} (ht : t < w.1) (hu : u < w.1) (hf : f t = eSett v) (hf2 : f u = eSett v2) (hne : u ≠ t) : zSd l D cy yX6_copyFrom cX6_copyFrom 2 none 0 0 [.ref (w.2 (t)), .ref (w.2 (u))] w f none (va_up f t (eSett v2)) := by
  refine zSd.intro (by decide) (Nat.le_of_ble_eq_true rfl) (fun G X E => ?_)
  show G (w, 0, 0) f [(0, .ref (w.2 (t))), (1, .ref (w.2 (u)))] 0 []
  refine zr_aload_n X 0 dX6_copyFrom_0 rfl rfl ?_
  refine zr_aload_n X 1 dX6_copyFrom_1 rfl rfl ?_
  refine zr_get X zfd_RX6_9 (u) hu hf2 (v := .int (v2 0)) rfl dX6_copyFrom_2 ?_
  refine zr_put X zfd_RX6_9 zty_6_0 (t) ht hf rfl rfl (Nat.le_of_ble_eq_true rfl) (eSett_set _ _ 0 (by decide)) dX6_copyFrom_5 ?_
  refine zr_aload_n X 0 dX6_copyFrom_8 rfl rfl ?_
  refine zr_aload_n X 1 dX6_copyFrom_9 rfl rfl ?_
  refine zr_get X zfd_RX6_15 (u) hu ((va_up_ne _ _ (by exact hne)).trans hf2) (v := .int (v2 1)) rfl dX6_copyFrom_10 ?_
  refine zr_put X zfd_RX6_15 zty_6_1 (t) ht (va_up_self _ _ _) rfl rfl (Nat.le_of_ble_eq_true rfl) (eSett_set _ _ 1 (by decide)) dX6_copyFrom_13 ?_
  rw [va_up_up]
  refine zr_aload_n X 0 dX6_copyFrom_16 rfl rfl ?_
  refine zr_aload_n X 1 dX6_copyFrom_17 rfl rfl ?_
  refine zr_get X zfd_RX6_18 (u) hu ((va_up_ne _ _ (by exact hne)).trans hf2) (v := .int (v2 2)) rfl dX6_copyFrom_18 ?_
  refine zr_put X zfd_RX6_18 zty_6_2 (t) ht (va_up_self _ _ _) rfl rfl (Nat.le_of_ble_eq_true rfl) (eSett_set _ _ 2 (by decide)) dX6_copyFrom_21 ?_
  rw [va_up_up]
  refine zr_aload_n X 0 dX6_copyFrom_24 rfl rfl ?_
  refine zr_aload_n X 1 dX6_copyFrom_25 rfl rfl ?_
  refine zr_get X zfd_RX6_21 (u) hu ((va_up_ne _ _ (by exact hne)).trans hf2) (v := .int (v2 3)) rfl dX6_copyFrom_26 ?_
  refine zr_put X zfd_RX6_21 zty_6_3 (t) ht (va_up_self _ _ _) rfl rfl (Nat.le_of_ble_eq_true rfl) (eSett_set _ _ 3 (by decide)) dX6_copyFrom_29 ?_
  rw [va_up_up]
  exact zret_v E rfl dX6_copyFrom_32 (congrArg (va_up f t) (eSett_congr (by intro i hi; rcases (show i = 0 ∨ i = 1 ∨ i = 2 ∨ i = 3 by omega) with rfl | rfl | rfl | rfl <;> rfl)))
def gBegin (v : Nat → Int32) (a b c d : Int32) : Nat → Int32 := upd (upd (upd (upd (upd (upd v 0 a) 1 b) 2 c) 3 d) 4 0) 5 0
set_option maxHeartbeats 4000000 in
set_option maxRecDepth 100000 in
theorem k_Group_begin {l : Launch} {D : va_G} {cy : Nat → ClassId} {w : zW} {f : zF} {t : Nat} {v : Nat → Int32} {a : Int32} {b : Int32} {c : Int32} {d : Int32} (ht : t < w.1) (hf : f t = eGroup v)  : zSd l D cy yX0_begin cX0_begin 5 none 0 0 [.ref (w.2 (t)), .int (a), .int (b), .int (c), .int (d)] w f none (va_up f t (eGroup (gBegin v a b c d))) := by
  refine zSd.intro (by decide) (Nat.le_of_ble_eq_true rfl) (fun G X E => ?_)
  show G (w, 0, 0) f [(0, .ref (w.2 (t))), (1, .int (a)), (2, .int (b)), (3, .int (c)), (4, .int (d))] 0 []
  refine zr_aload_n X 0 dX0_begin_0 rfl rfl ?_
  refine zr_iload_n X 1 dX0_begin_1 rfl rfl ?_
  refine zr_put X zfd_RX0_9 zty_0_0 (t) ht hf rfl rfl (Nat.le_of_ble_eq_true rfl) (eGroup_set _ _ 0 (by decide)) dX0_begin_2 ?_
  refine zr_aload_n X 0 dX0_begin_5 rfl rfl ?_
  refine zr_iload_n X 2 dX0_begin_6 rfl rfl ?_
  refine zr_put X zfd_RX0_15 zty_0_1 (t) ht (va_up_self _ _ _) rfl rfl (Nat.le_of_ble_eq_true rfl) (eGroup_set _ _ 1 (by decide)) dX0_begin_7 ?_
  rw [va_up_up]
  refine zr_aload_n X 0 dX0_begin_10 rfl rfl ?_
  refine zr_iload_n X 3 dX0_begin_11 rfl rfl ?_
  refine zr_put X zfd_RX0_18 zty_0_2 (t) ht (va_up_self _ _ _) rfl rfl (Nat.le_of_ble_eq_true rfl) (eGroup_set _ _ 2 (by decide)) dX0_begin_12 ?_
  rw [va_up_up]
  refine zr_aload_n X 0 dX0_begin_15 rfl rfl ?_
  refine zr_iload X 4 dX0_begin_16 rfl ?_
  refine zr_put X zfd_RX0_21 zty_0_3 (t) ht (va_up_self _ _ _) rfl rfl (Nat.le_of_ble_eq_true rfl) (eGroup_set _ _ 3 (by decide)) dX0_begin_18 ?_
  rw [va_up_up]
  refine zr_aload_n X 0 dX0_begin_21 rfl rfl ?_
  refine zr_iconst X (v := 0) dX0_begin_22 (by decide) ?_
  refine zr_put X zfd_RX0_24 zty_0_4 (t) ht (va_up_self _ _ _) rfl rfl (Nat.le_of_ble_eq_true rfl) (eGroup_set _ _ 4 (by decide)) dX0_begin_23 ?_
  rw [va_up_up]
  refine zr_aload_n X 0 dX0_begin_26 rfl rfl ?_
  refine zr_iconst X (v := 0) dX0_begin_27 (by decide) ?_
  refine zr_put X zfd_RX0_27 zty_0_5 (t) ht (va_up_self _ _ _) rfl rfl (Nat.le_of_ble_eq_true rfl) (eGroup_set _ _ 5 (by decide)) dX0_begin_28 ?_
  rw [va_up_up]
  exact zret_v E rfl dX0_begin_31 rfl
set_option maxHeartbeats 4000000 in
set_option maxRecDepth 100000 in
theorem k_Group_loavesADay {l : Launch} {D : va_G} {cy : Nat → ClassId} {w : zW} {f : zF} {t : Nat} {v : Nat → Int32}  (ht : t < w.1) (hf : f t = eGroup v)  : zSd l D cy yX0_loavesADay cX0_loavesADay 1 (some .int) 0 0 [.ref (w.2 (t))] w f (some (.int ((v 1 + 1) / 2))) f := by
  refine zSd.intro (by decide) (Nat.le_of_ble_eq_true rfl) (fun G X E => ?_)
  show G (w, 0, 0) f [(0, .ref (w.2 (t)))] 0 []
  refine zr_aload_n X 0 dX0_loavesADay_0 rfl rfl ?_
  refine zr_get X zfd_RX0_15 (t) ht hf (v := .int (v 1)) rfl dX0_loavesADay_1 ?_
  refine zr_iconst X (v := 1) dX0_loavesADay_4 (by decide) ?_
  refine zr_iadd X dX0_loavesADay_5 ?_
  refine zr_iconst X (v := 2) dX0_loavesADay_6 (by decide) ?_
  refine zr_idiv X dX0_loavesADay_7 (by decide) ?_
  exact zret_i E rfl dX0_loavesADay_8 (by simp only []) rfl
def gThere (v : Nat → Int32) (d : Int32) : Int32 := if d < v 2 then 0 else if v 2 + v 3 ≤ d then 0 else 1
def gGone (v : Nat → Int32) (d : Int32) : Int32 := if d < v 2 + v 3 then 0 else 1
set_option maxHeartbeats 4000000 in
set_option maxRecDepth 100000 in
theorem k_Group_isThereOn {l : Launch} {D : va_G} {cy : Nat → ClassId} {w : zW} {f : zF} {t : Nat} {v : Nat → Int32} {d : Int32} (ht : t < w.1) (hf : f t = eGroup v)  : zSd l D cy yX0_isThereOn cX0_isThereOn 2 (some .boolean) 0 0 [.ref (w.2 (t)), .int (d)] w f (some (.int (gThere v d))) f := by
  refine zSd.intro (by decide) (Nat.le_of_ble_eq_true rfl) (fun G X E => ?_)
  show G (w, 0, 0) f [(0, .ref (w.2 (t))), (1, .int (d))] 0 []
  refine zr_iload_n X 1 dX0_isThereOn_0 rfl rfl ?_
  refine zr_aload_n X 0 dX0_isThereOn_1 rfl rfl ?_
  refine zr_get X zfd_RX0_18 (t) ht hf (v := .int (v 2)) rfl dX0_isThereOn_2 ?_
  refine zr_icmp_lt X (tgt := 25) dX0_isThereOn_5 (by decide) (fun h1 => ?_) (fun h2 => ?_)
  · refine zr_iconst X (v := 0) dX0_isThereOn_25 (by decide) ?_
    exact zret_z E rfl (Or.inl rfl) dX0_isThereOn_26 (by simp only [gThere, if_pos h1]) rfl
  · refine zr_iload_n X 1 dX0_isThereOn_8 rfl rfl ?_
    refine zr_aload_n X 0 dX0_isThereOn_9 rfl rfl ?_
    refine zr_get X zfd_RX0_18 (t) ht hf (v := .int (v 2)) rfl dX0_isThereOn_10 ?_
    refine zr_aload_n X 0 dX0_isThereOn_13 rfl rfl ?_
    refine zr_get X zfd_RX0_21 (t) ht hf (v := .int (v 3)) rfl dX0_isThereOn_14 ?_
    refine zr_iadd X dX0_isThereOn_17 ?_
    refine zr_icmp_ge X (tgt := 25) dX0_isThereOn_18 (by decide) (fun h3 => ?_) (fun h4 => ?_)
    · refine zr_iconst X (v := 0) dX0_isThereOn_25 (by decide) ?_
      exact zret_z E rfl (Or.inl rfl) dX0_isThereOn_26 (by simp only [gThere, if_neg h2, if_pos h3]) rfl
    · refine zr_iconst X (v := 1) dX0_isThereOn_21 (by decide) ?_
      refine zr_goto X (tgt := 26) dX0_isThereOn_22 (by decide) ?_
      exact zret_z E rfl (Or.inr rfl) dX0_isThereOn_26 (by simp only [gThere, if_neg h2, if_neg h4]) rfl
set_option maxHeartbeats 4000000 in
set_option maxRecDepth 100000 in
theorem k_Group_isGoneBy {l : Launch} {D : va_G} {cy : Nat → ClassId} {w : zW} {f : zF} {t : Nat} {v : Nat → Int32} {d : Int32} (ht : t < w.1) (hf : f t = eGroup v)  : zSd l D cy yX0_isGoneBy cX0_isGoneBy 2 (some .boolean) 0 0 [.ref (w.2 (t)), .int (d)] w f (some (.int (gGone v d))) f := by
  refine zSd.intro (by decide) (Nat.le_of_ble_eq_true rfl) (fun G X E => ?_)
  show G (w, 0, 0) f [(0, .ref (w.2 (t))), (1, .int (d))] 0 []
  refine zr_iload_n X 1 dX0_isGoneBy_0 rfl rfl ?_
  refine zr_aload_n X 0 dX0_isGoneBy_1 rfl rfl ?_
  refine zr_get X zfd_RX0_18 (t) ht hf (v := .int (v 2)) rfl dX0_isGoneBy_2 ?_
  refine zr_aload_n X 0 dX0_isGoneBy_5 rfl rfl ?_
  refine zr_get X zfd_RX0_21 (t) ht hf (v := .int (v 3)) rfl dX0_isGoneBy_6 ?_
  refine zr_iadd X dX0_isGoneBy_9 ?_
  refine zr_icmp_lt X (tgt := 17) dX0_isGoneBy_10 (by decide) (fun h1 => ?_) (fun h2 => ?_)
  · refine zr_iconst X (v := 0) dX0_isGoneBy_17 (by decide) ?_
    exact zret_z E rfl (Or.inl rfl) dX0_isGoneBy_18 (by simp only [gGone, if_pos h1]) rfl
  · refine zr_iconst X (v := 1) dX0_isGoneBy_13 (by decide) ?_
    refine zr_goto X (tgt := 18) dX0_isGoneBy_14 (by decide) ?_
    exact zret_z E rfl (Or.inr rfl) dX0_isGoneBy_18 (by simp only [gGone, if_neg h2]) rfl
def gTell (v : Nat → Int32) (x d : Int32) : Int32 := if x = 0 then v 1 else if x = 1 then v 2 else if x = 2 then v 3 else if x = 3 then (v 1 + 1) / 2 else if x = 4 then (if gThere v d = 0 then 0 else 1) else if x = 5 then v 4 else if x = 6 then v 5 else (-1000001)
set_option maxHeartbeats 4000000 in
set_option maxRecDepth 100000 in
theorem k_Group_tell {l : Launch} {D : va_G} {cy : Nat → ClassId} {w : zW} {f : zF} {t : Nat} {v : Nat → Int32} {x : Int32} {d : Int32} (ht : t < w.1) (hf : f t = eGroup v)  : zSd l D cy yX0_tell cX0_tell 3 (some .int) 1 21 [.ref (w.2 (t)), .int (x), .int (d)] w f (some (.int (gTell v x d))) f := by
  refine zSd.intro (by decide) (Nat.le_of_ble_eq_true rfl) (fun G X E => ?_)
  show G (w, 0, 0) f [(0, .ref (w.2 (t))), (1, .int (x)), (2, .int (d))] 0 []
  refine zr_iload_n X 1 dX0_tell_0 rfl rfl ?_
  by_cases h1 : x = 0
  · refine zr_tableIn X (off := 43) (tgt := 44) dX0_tell_1 (by rw [h1]; decide) (by rw [h1]; decide) (by rw [h1]; decide) (by decide) ?_
    refine zr_aload_n X 0 dX0_tell_44 rfl rfl ?_
    refine zr_get X zfd_RX0_15 (t) ht hf (v := .int (v 1)) rfl dX0_tell_45 ?_
    exact zret_i E rfl dX0_tell_48 (by simp only [gTell, if_pos h1]) rfl
  by_cases h2 : x = 1
  · refine zr_tableIn X (off := 48) (tgt := 49) dX0_tell_1 (by rw [h2]; decide) (by rw [h2]; decide) (by rw [h2]; decide) (by decide) ?_
    refine zr_aload_n X 0 dX0_tell_49 rfl rfl ?_
    refine zr_get X zfd_RX0_18 (t) ht hf (v := .int (v 2)) rfl dX0_tell_50 ?_
    exact zret_i E rfl dX0_tell_53 (by simp only [gTell, if_neg h1, if_pos h2]) rfl
  by_cases h3 : x = 2
  · refine zr_tableIn X (off := 53) (tgt := 54) dX0_tell_1 (by rw [h3]; decide) (by rw [h3]; decide) (by rw [h3]; decide) (by decide) ?_
    refine zr_aload_n X 0 dX0_tell_54 rfl rfl ?_
    refine zr_get X zfd_RX0_21 (t) ht hf (v := .int (v 3)) rfl dX0_tell_55 ?_
    exact zret_i E rfl dX0_tell_58 (by simp only [gTell, if_neg h1, if_neg h2, if_pos h3]) rfl
  by_cases h4 : x = 3
  · refine zr_tableIn X (off := 58) (tgt := 59) dX0_tell_1 (by rw [h4]; decide) (by rw [h4]; decide) (by rw [h4]; decide) (by decide) ?_
    refine zr_aload_n X 0 dX0_tell_59 rfl rfl ?_
    refine zr_cV X (As := []) (rest := []) (f' := f) (st' := [.int ((v 1 + 1) / 2)]) zc_X0_loavesADay (t) ht hf (q9 := _) rfl rfl (k_Group_loavesADay ht hf) ⟨Nat.le_of_ble_eq_true rfl, Nat.le_of_ble_eq_true rfl⟩ ⟨Nat.le_refl _, Nat.le_refl _⟩ rfl (Nat.le_of_ble_eq_true rfl) zm_3_74 rfl dX0_tell_60 rfl ?_
    exact zret_i E rfl dX0_tell_63 (by simp only [gTell, if_neg h1, if_neg h2, if_neg h3, if_pos h4]) rfl
  by_cases h5 : x = 4
  · refine zr_tableIn X (off := 63) (tgt := 64) dX0_tell_1 (by rw [h5]; decide) (by rw [h5]; decide) (by rw [h5]; decide) (by decide) ?_
    refine zr_aload_n X 0 dX0_tell_64 rfl rfl ?_
    refine zr_iload_n X 2 dX0_tell_65 rfl rfl ?_
    refine zr_cV X (As := [.int (d)]) (rest := []) (f' := f) (st' := [.int (gThere v d)]) zc_X0_isThereOn (t) ht hf (q9 := _) rfl rfl (k_Group_isThereOn ht hf) ⟨Nat.le_of_ble_eq_true rfl, Nat.le_of_ble_eq_true rfl⟩ ⟨Nat.le_refl _, Nat.le_refl _⟩ rfl (Nat.le_of_ble_eq_true rfl) zm_3_75 rfl dX0_tell_66 rfl ?_
    refine zr_if_eq X (tgt := 76) dX0_tell_69 (by decide) (fun h6 => ?_) (fun h7 => ?_)
    · refine zr_iconst X (v := 0) dX0_tell_76 (by decide) ?_
      exact zret_i E rfl dX0_tell_77 (by simp only [gTell, if_neg h1, if_neg h2, if_neg h3, if_neg h4, if_pos h5, if_pos h6]) rfl
    · refine zr_iconst X (v := 1) dX0_tell_72 (by decide) ?_
      refine zr_goto X (tgt := 77) dX0_tell_73 (by decide) ?_
      exact zret_i E rfl dX0_tell_77 (by simp only [gTell, if_neg h1, if_neg h2, if_neg h3, if_neg h4, if_pos h5, if_neg h7]) rfl
  by_cases h8 : x = 5
  · refine zr_tableIn X (off := 77) (tgt := 78) dX0_tell_1 (by rw [h8]; decide) (by rw [h8]; decide) (by rw [h8]; decide) (by decide) ?_
    refine zr_aload_n X 0 dX0_tell_78 rfl rfl ?_
    refine zr_get X zfd_RX0_24 (t) ht hf (v := .int (v 4)) rfl dX0_tell_79 ?_
    exact zret_i E rfl dX0_tell_82 (by simp only [gTell, if_neg h1, if_neg h2, if_neg h3, if_neg h4, if_neg h5, if_pos h8]) rfl
  by_cases h9 : x = 6
  · refine zr_tableIn X (off := 82) (tgt := 83) dX0_tell_1 (by rw [h9]; decide) (by rw [h9]; decide) (by rw [h9]; decide) (by decide) ?_
    refine zr_aload_n X 0 dX0_tell_83 rfl rfl ?_
    refine zr_get X zfd_RX0_27 (t) ht hf (v := .int (v 5)) rfl dX0_tell_84 ?_
    exact zret_i E rfl dX0_tell_87 (by simp only [gTell, if_neg h1, if_neg h2, if_neg h3, if_neg h4, if_neg h5, if_neg h8, if_pos h9]) rfl
  refine zr_tableOut X (tgt := 88) dX0_tell_1 (by have e0 := lv_neT h1 (show (0 : Int32).toInt = 0 from by decide); have e1 := lv_neT h2 (show (1 : Int32).toInt = 1 from by decide); have e2 := lv_neT h3 (show (2 : Int32).toInt = 2 from by decide); have e3 := lv_neT h4 (show (3 : Int32).toInt = 3 from by decide); have e4 := lv_neT h5 (show (4 : Int32).toInt = 4 from by decide); have e5 := lv_neT h8 (show (5 : Int32).toInt = 5 from by decide); have e6 := lv_neT h9 (show (6 : Int32).toInt = 6 from by decide); omega) (by decide) ?_
  refine zr_ldc X zm_3_76 dX0_tell_88 ?_
  exact zret_i E rfl dX0_tell_90 (by simp only [gTell, if_neg h1, if_neg h2, if_neg h3, if_neg h4, if_neg h5, if_neg h8, if_neg h9]) rfl
def sTell (v : Nat → Int32) (x : Int32) : Int32 := if x = 0 then v 0 else if x = 1 then v 1 else if x = 2 then v 2 else if x = 3 then v 3 else (-1000001)
set_option maxHeartbeats 4000000 in
set_option maxRecDepth 100000 in
theorem k_Sett_tell {l : Launch} {D : va_G} {cy : Nat → ClassId} {w : zW} {f : zF} {t : Nat} {v : Nat → Int32} {x : Int32} (ht : t < w.1) (hf : f t = eSett v)  : zSd l D cy yX6_tell cX6_tell 2 (some .int) 0 0 [.ref (w.2 (t)), .int (x)] w f (some (.int (sTell v x))) f := by
  refine zSd.intro (by decide) (Nat.le_of_ble_eq_true rfl) (fun G X E => ?_)
  show G (w, 0, 0) f [(0, .ref (w.2 (t))), (1, .int (x))] 0 []
  refine zr_iload_n X 1 dX6_tell_0 rfl rfl ?_
  by_cases h1 : x = 0
  · refine zr_tableIn X (off := 31) (tgt := 32) dX6_tell_1 (by rw [h1]; decide) (by rw [h1]; decide) (by rw [h1]; decide) (by decide) ?_
    refine zr_aload_n X 0 dX6_tell_32 rfl rfl ?_
    refine zr_get X zfd_RX6_9 (t) ht hf (v := .int (v 0)) rfl dX6_tell_33 ?_
    exact zret_i E rfl dX6_tell_36 (by simp only [sTell, if_pos h1]) rfl
  by_cases h2 : x = 1
  · refine zr_tableIn X (off := 36) (tgt := 37) dX6_tell_1 (by rw [h2]; decide) (by rw [h2]; decide) (by rw [h2]; decide) (by decide) ?_
    refine zr_aload_n X 0 dX6_tell_37 rfl rfl ?_
    refine zr_get X zfd_RX6_15 (t) ht hf (v := .int (v 1)) rfl dX6_tell_38 ?_
    exact zret_i E rfl dX6_tell_41 (by simp only [sTell, if_neg h1, if_pos h2]) rfl
  by_cases h3 : x = 2
  · refine zr_tableIn X (off := 41) (tgt := 42) dX6_tell_1 (by rw [h3]; decide) (by rw [h3]; decide) (by rw [h3]; decide) (by decide) ?_
    refine zr_aload_n X 0 dX6_tell_42 rfl rfl ?_
    refine zr_get X zfd_RX6_18 (t) ht hf (v := .int (v 2)) rfl dX6_tell_43 ?_
    exact zret_i E rfl dX6_tell_46 (by simp only [sTell, if_neg h1, if_neg h2, if_pos h3]) rfl
  by_cases h4 : x = 3
  · refine zr_tableIn X (off := 46) (tgt := 47) dX6_tell_1 (by rw [h4]; decide) (by rw [h4]; decide) (by rw [h4]; decide) (by decide) ?_
    refine zr_aload_n X 0 dX6_tell_47 rfl rfl ?_
    refine zr_get X zfd_RX6_21 (t) ht hf (v := .int (v 3)) rfl dX6_tell_48 ?_
    exact zret_i E rfl dX6_tell_51 (by simp only [sTell, if_neg h1, if_neg h2, if_neg h3, if_pos h4]) rfl
  refine zr_tableOut X (tgt := 52) dX6_tell_1 (by have e0 := lv_neT h1 (show (0 : Int32).toInt = 0 from by decide); have e1 := lv_neT h2 (show (1 : Int32).toInt = 1 from by decide); have e2 := lv_neT h3 (show (2 : Int32).toInt = 2 from by decide); have e3 := lv_neT h4 (show (3 : Int32).toInt = 3 from by decide); omega) (by decide) ?_
  refine zr_ldc X zm_2_53 dX6_tell_52 ?_
  exact zret_i E rfl dX6_tell_54 (by simp only [sTell, if_neg h1, if_neg h2, if_neg h3, if_neg h4]) rfl
def zwin (v lo hi : Int32) : Int32 := if v < lo then 0 else if hi < v then 0 else 1
set_option maxHeartbeats 4000000 in
set_option maxRecDepth 100000 in
theorem k_isWithin {l : Launch} {D : va_G} {cy : Nat → ClassId} {w : zW} {f : zF} {v lo hi : Int32}  : zSd l D cy yX8_isWithin cX8_isWithin 3 (some .boolean) 0 0 [.int (v), .int (lo), .int (hi)] w f (some (.int (zwin v lo hi))) f := by
  refine zSd.intro (by decide) (Nat.le_of_ble_eq_true rfl) (fun G X E => ?_)
  show G (w, 0, 0) f [(0, .int (v)), (1, .int (lo)), (2, .int (hi))] 0 []
  refine zr_iload_n X 0 dX8_isWithin_0 rfl rfl ?_
  refine zr_iload_n X 1 dX8_isWithin_1 rfl rfl ?_
  refine zr_icmp_lt X (tgt := 14) dX8_isWithin_2 (by decide) (fun h1 => ?_) (fun h2 => ?_)
  · refine zr_iconst X (v := 0) dX8_isWithin_14 (by decide) ?_
    exact zret_z E rfl (Or.inl rfl) dX8_isWithin_15 (by simp only [zwin, if_pos h1]) rfl
  · refine zr_iload_n X 0 dX8_isWithin_5 rfl rfl ?_
    refine zr_iload_n X 2 dX8_isWithin_6 rfl rfl ?_
    refine zr_icmp_gt X (tgt := 14) dX8_isWithin_7 (by decide) (fun h3 => ?_) (fun h4 => ?_)
    · refine zr_iconst X (v := 0) dX8_isWithin_14 (by decide) ?_
      exact zret_z E rfl (Or.inl rfl) dX8_isWithin_15 (by simp only [zwin, if_neg h2, if_pos h3]) rfl
    · refine zr_iconst X (v := 1) dX8_isWithin_10 (by decide) ?_
      refine zr_goto X (tgt := 15) dX8_isWithin_11 (by decide) ?_
      exact zret_z E rfl (Or.inr rfl) dX8_isWithin_15 (by simp only [zwin, if_neg h2, if_neg h4]) rfl
def zmin (a b : Int32) : Int32 := if b ≤ a then b else a
