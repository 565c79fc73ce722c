def dNum (tx : Nat → Int32) (n q p : Nat) (nu : Nat → Int32) : Int32 × Nat × (Nat → Int32) := (dOk p (p + (dNb tx n p 3 0 0).1), p + (dNb tx n p 3 0 0).1, upd nu q (dNb tx n p 3 0 0).2)
theorem dNum_le {tx : Nat → Int32} {n q p : Nat} {nu : Nat → Int32} (hn : n ≤ 60) (hp : p ≤ n) : (dNum tx n q p nu).2.1 ≤ n := dNb_le hn 3 0 0 hp
theorem dOk_01 {p q : Nat} : dOk p q = 0 ∨ dOk p q = 1 := by
  unfold dOk
  split
  · exact .inl rfl
  · exact .inr rfl
def dRd (tx : Nat → Int32) (n : Nat) : Nat → Nat → Int32 × Nat × (Nat → Int32) → Int32 × Nat × (Nat → Int32)
  | 0, _, a => if a.1 = 0 then (0, a.2) else if dAt tx n a.2.1 59 59 = 0 then (0, a.2) else (1, a.2.1 + 1, a.2.2)
  | m + 1, k, a => if a.1 = 0 then (0, a.2) else if dAt tx n a.2.1 44 44 = 0 then (0, a.2) else dRd tx n m (k + 1) (dNum tx n k (a.2.1 + 1) a.2.2)
theorem dRd_0 {tx : Nat → Int32} {n k : Nat} {a : Int32 × Nat × (Nat → Int32)} : dRd tx n 0 k a = if a.1 = 0 then (0, a.2) else if dAt tx n a.2.1 59 59 = 0 then (0, a.2) else (1, a.2.1 + 1, a.2.2) := rfl
theorem dRd_s {tx : Nat → Int32} {n m k : Nat} {a : Int32 × Nat × (Nat → Int32)} : dRd tx n (m + 1) k a = if a.1 = 0 then (0, a.2) else if dAt tx n a.2.1 44 44 = 0 then (0, a.2) else dRd tx n m (k + 1) (dNum tx n k (a.2.1 + 1) a.2.2) := rfl
def dOr (tx : Nat → Int32) (n p : Nat) : Int32 := if dAt tx n p 33 126 = 0 then 0 else tx p
def dReads (tx : Nat → Int32) (n p : Nat) (nu : Nat → Int32) : Int32 × Nat × (Nat → Int32) := if dNo (dOr tx n p) = 0 then (0, p, nu) else dRd tx n ((dNo (dOr tx n p)).toNatClampNeg - 1) 1 (dNum tx n 0 (p + 1) nu)
theorem dNo_3 {c : Int32} (h : ¬ dNo c = 0) : dNo c = 1 ∨ dNo c = 2 ∨ dNo c = 3 := by
  unfold dNo at *
  by_cases h1 : c = 100
  · exact .inl (if_pos h1)
  · rw [if_neg h1] at *
    by_cases h2 : c = 103
    · exact .inr (.inr (if_pos h2))
    · rw [if_neg h2] at *
      by_cases h3 : c = 112
      · exact .inl (if_pos h3)
      · rw [if_neg h3] at *
        by_cases h4 : c = 115
        · exact .inr (.inl (if_pos h4))
        · rw [if_neg h4] at *
          by_cases h5 : c = 120
          · exact .inl (if_pos h5)
          · rw [if_neg h5] at h
            exact absurd rfl h
theorem dOr_lt {tx : Nat → Int32} {n p : Nat} (hn : n ≤ 60) (hp : p ≤ n) (h : ¬ dNo (dOr tx n p) = 0) : p + 1 ≤ n := by
  by_cases q : dAt tx n p 33 126 = 0
  · exfalso
    apply h
    unfold dOr
    rw [if_pos q]
    decide
  · exact dAt_lt q (by omega) hn
theorem k_numD {l : Launch} {D : va_G} {cy : Nat → ClassId} {w : zW} {f : zF} {v s nu : Nat → Int32} {tx : Nat → Int32} {n p : Nat} {x : Int32} {q0 : Nat} (hw : w.1 = 139) (htx : f 137 = eInts cy 60 tx) (hv2 : v 2 = nI n) (hn : n ≤ 60) (hv3 : v 3 = nI p) (hp : p ≤ n) (hx : x = nI q0) (hq : q0 < 3) : zSd l D cy yX9_numbered cX9_numbered 3 (some .boolean) 2 44 [.ref (w.2 132), .int x] w (mW w cy f v s nu) (some (.int (dNum tx n q0 p nu).1)) (mW w cy f (upd v 3 (nI (dNum tx n q0 p nu).2.1)) s (dNum tx n q0 p nu).2.2) := k_numbered hw htx hv2 hn hv3 hp hx hq
set_option maxHeartbeats 4000000 in
set_option maxRecDepth 100000 in
theorem k_reads {l : Launch} {D : va_G} {cy : Nat → ClassId} {w : zW} {f : zF} {v s nu : Nat → Int32} {tx : Nat → Int32} {n p : Nat}  (hw : w.1 = 139) (htx : f 137 = eInts cy 60 tx) (hv2 : v 2 = nI n) (hn : n ≤ 60) (hv3 : v 3 = nI p) (hp : p ≤ n) : zSd l D cy yX9_reads cX9_reads 4 (some .boolean) 3 66 [.ref (w.2 (132))] w (mW w cy f v s nu) (some (.int ((dReads tx n p nu).1))) (mW w cy f (upd (upd v 8 (dOr tx n p)) 3 (nI (dReads tx n p nu).2.1)) s ((dReads tx n p nu).2.2)) := by
  refine zSd.intro (by decide) (Nat.le_of_ble_eq_true rfl) (fun G X E => ?_)
  show G (w, 0, 0) (mW w cy f v s nu) [(0, .ref (w.2 (132)))] 0 []
  have J28 : G (w, 0, 0) (mW w cy f (upd v 8 (dOr tx n p)) s nu) [(0, .ref (w.2 (132)))] 28 [] := by
    refine zr_aload_n X 0 dX9_reads_28 rfl rfl ?_
    refine zr_get X zfd_RX9_142 (132) (show 132 < w.1 by rw [hw]; omega) mW_132 (v := .int (dOr tx n p)) rfl dX9_reads_29 ?_
    refine zr_cS X (As := [.int (dOr tx n p)]) (rest := []) (f' := mW w cy f (upd v 8 (dOr tx n p)) s nu) (st' := [.int (dNo (dOr tx n p))]) zc_X9_numbersOf k_numbersOf ⟨Nat.le_of_ble_eq_true rfl, Nat.le_of_ble_eq_true rfl⟩ ⟨Nat.le_refl _, Nat.le_refl _⟩ rfl (Nat.le_of_ble_eq_true rfl) zm_4_200 rfl dX9_reads_32 rfl ?_
    refine zr_istore_n X (ls' := [(1, .int (dNo (dOr tx n p))), (0, .ref (w.2 (132)))]) dX9_reads_35 rfl (by decide) rfl ?_
    refine zr_iload_n X 0 dX9_reads_36 rfl rfl ?_
    refine zr_if_ne X (tgt := 42) dX9_reads_37 (by decide) (fun h1 => ?_) (fun h2 => ?_)
    · have hp1 := dOr_lt hn hp h1
      rcases dNo_3 h1 with hm3 | hm3 | hm3
      ·
        rw [hm3]
        show G (w, 0, 0) (mW w cy f (upd v 8 (dOr tx n p)) s nu) [(1, .int (1)), (0, .ref (w.2 (132)))] 42 []
        refine zr_aload_n X 1 dX9_reads_42 rfl rfl ?_
        refine zr_dup X dX9_reads_43 rfl ?_
        refine zr_get X zfd_RX9_136 (132) (show 132 < w.1 by rw [hw]; omega) mW_132 (v := .int (v 3)) rfl dX9_reads_44 ?_
        refine zr_iconst X (v := 1) dX9_reads_47 (by decide) ?_
        refine zr_iadd X dX9_reads_48 ?_
        refine zr_put X zfd_RX9_136 zty_9_8 (132) (show 132 < w.1 by rw [hw]; omega) mW_132 rfl rfl (Nat.le_of_ble_eq_true rfl) eMod_s8 dX9_reads_49 ?_
        refine zcw (f2 := mW w cy f (upd (upd v 8 (dOr tx n p)) 3 (nI (p + 1))) s nu) (mu_132.trans (by rw [hv3, nI_1])) ?_
        refine zr_aload_n X 1 dX9_reads_52 rfl rfl ?_
        refine zr_iconst X (v := 0) dX9_reads_53 (by decide) ?_
        refine zr_cV X (As := [.int (0)]) (rest := []) (f' := mW w cy f (upd (upd (upd v 8 (dOr tx n p)) 3 (nI (p + 1))) 3 (nI (dNum tx n 0 (p + 1) nu).2.1)) s ((dNum tx n 0 (p + 1) nu).2.2)) (st' := [.int ((dNum tx n 0 (p + 1) nu).1)]) zc_X9_numbered (132) (show 132 < w.1 by rw [hw]; omega) mW_132 (q9 := _) rfl rfl (k_numD (q0 := 0) hw htx ((upd_ne (by decide)).trans ((upd_ne (by decide)).trans hv2)) hn upd_eq hp1 rfl (by decide)) ⟨Nat.le_of_ble_eq_true rfl, Nat.le_of_ble_eq_true rfl⟩ ⟨Nat.le_refl _, Nat.le_refl _⟩ rfl (Nat.le_of_ble_eq_true rfl) zm_4_203 rfl dX9_reads_54 rfl ?_
        refine zcw (f2 := mW w cy f (upd (upd v 8 (dOr tx n p)) 3 (nI ((dNum tx n 0 (p + 1) nu).2.1))) s ((dNum tx n 0 (p + 1) nu).2.2)) (by rw [upd_upd]) ?_
        have hb1 : (dNum tx n 0 (p + 1) nu).2.1 ≤ n := dNum_le hn hp1
        generalize eA1 : dNum tx n 0 (p + 1) nu = A1 at hb1 ⊢
        refine zr_istore_n X (ls' := [(2, .int (A1.1)), (1, .int (1)), (0, .ref (w.2 (132)))]) dX9_reads_57 rfl (by decide) rfl ?_
        refine zr_iconst X (v := 1) dX9_reads_58 (by decide) ?_
        refine zr_istore_n X (ls' := [(3, .int (1)), (2, .int (A1.1)), (1, .int (1)), (0, .ref (w.2 (132)))]) dX9_reads_59 rfl (by decide) rfl ?_
        refine zr_iload_n X 0 dX9_reads_60 rfl rfl ?_
        refine zr_iload_n X 2 dX9_reads_61 rfl rfl ?_
        refine zr_icmp_ge X (tgt := 98) dX9_reads_62 (by decide) (fun _ => ?_) (fun h => absurd h (by decide))
        refine zr_iload_n X 1 dX9_reads_98 rfl rfl ?_
        refine zr_if_eq X (tgt := 115) dX9_reads_99 (by decide) (fun h3 => ?_) (fun h4 => ?_)
        · refine zr_iconst X (v := 0) dX9_reads_115 (by decide) ?_
          exact zret_z E rfl (Or.inl rfl) dX9_reads_116 (by unfold dReads; rw [if_neg h1, hm3, eA1]; show _ = (dRd tx n 0 1 A1).1; simp only [dRd_0, if_pos h3]) (by unfold dReads; rw [if_neg h1, hm3, eA1]; show _ = mW w cy f (upd (upd v 8 (dOr tx n p)) 3 (nI (dRd tx n 0 1 A1).2.1)) s (dRd tx n 0 1 A1).2.2; simp only [dRd_0, if_pos h3])
        · refine zr_aload_n X 3 dX9_reads_102 rfl rfl ?_
          refine zr_bipush X (v := 59) dX9_reads_103 (by decide) ?_
          by_cases h5 : (dAt tx n A1.2.1 59 59) = 0
          · refine zr_cV X (As := [.int (59)]) (rest := []) (f' := mW w cy f (upd (upd (upd v 8 (dOr tx n p)) 3 (nI A1.2.1)) 3 (nI (dSg tx n A1.2.1 59))) s A1.2.2) (st' := [.int (dAt tx n A1.2.1 59 59)]) zc_X9_sign (132) (show 132 < w.1 by rw [hw]; omega) mW_132 (q9 := _) rfl rfl (k_sign hw htx ((upd_ne (by decide)).trans ((upd_ne (by decide)).trans hv2)) hn upd_eq hb1) ⟨Nat.le_of_ble_eq_true rfl, Nat.le_of_ble_eq_true rfl⟩ ⟨Nat.le_refl _, Nat.le_refl _⟩ rfl (Nat.le_of_ble_eq_true rfl) zm_4_207 rfl dX9_reads_105 rfl ?_
            refine zcw (f2 := mW w cy f (upd (upd v 8 (dOr tx n p)) 3 (nI A1.2.1)) s A1.2.2) (by unfold dSg; rw [if_pos h5, upd_upd]) ?_
            refine zr_if_eq X (tgt := 115) dX9_reads_108 (by decide) (fun _ => ?_) (fun h6 => absurd h5 h6)
            refine zr_iconst X (v := 0) dX9_reads_115 (by decide) ?_
            exact zret_z E rfl (Or.inl rfl) dX9_reads_116 (by unfold dReads; rw [if_neg h1, hm3, eA1]; show _ = (dRd tx n 0 1 A1).1; simp only [dRd_0, if_neg h4, if_pos h5]) (by unfold dReads; rw [if_neg h1, hm3, eA1]; show _ = mW w cy f (upd (upd v 8 (dOr tx n p)) 3 (nI (dRd tx n 0 1 A1).2.1)) s (dRd tx n 0 1 A1).2.2; simp only [dRd_0, if_neg h4, if_pos h5])
          · refine zr_cV X (As := [.int (59)]) (rest := []) (f' := mW w cy f (upd (upd (upd v 8 (dOr tx n p)) 3 (nI A1.2.1)) 3 (nI (dSg tx n A1.2.1 59))) s A1.2.2) (st' := [.int (dAt tx n A1.2.1 59 59)]) zc_X9_sign (132) (show 132 < w.1 by rw [hw]; omega) mW_132 (q9 := _) rfl rfl (k_sign hw htx ((upd_ne (by decide)).trans ((upd_ne (by decide)).trans hv2)) hn upd_eq hb1) ⟨Nat.le_of_ble_eq_true rfl, Nat.le_of_ble_eq_true rfl⟩ ⟨Nat.le_refl _, Nat.le_refl _⟩ rfl (Nat.le_of_ble_eq_true rfl) zm_4_207 rfl dX9_reads_105 rfl ?_
            refine zcw (f2 := mW w cy f (upd (upd v 8 (dOr tx n p)) 3 (nI (A1.2.1 + 1))) s A1.2.2) (by unfold dSg; rw [if_neg h5, upd_upd]) ?_
            have hb3 : A1.2.1 + 1 ≤ n := dAt_lt h5 (Nat.lt_of_le_of_lt hb1 (by omega)) hn
            refine zr_if_eq X (tgt := 115) dX9_reads_108 (by decide) (fun h7 => absurd h7 h5) (fun _ => ?_)
            refine zr_iconst X (v := 1) dX9_reads_111 (by decide) ?_
            refine zr_goto X (tgt := 116) dX9_reads_112 (by decide) ?_
            exact zret_z E rfl (Or.inr rfl) dX9_reads_116 (by unfold dReads; rw [if_neg h1, hm3, eA1]; show _ = (dRd tx n 0 1 A1).1; simp only [dRd_0, if_neg h4, if_neg h5]) (by unfold dReads; rw [if_neg h1, hm3, eA1]; show _ = mW w cy f (upd (upd v 8 (dOr tx n p)) 3 (nI (dRd tx n 0 1 A1).2.1)) s (dRd tx n 0 1 A1).2.2; simp only [dRd_0, if_neg h4, if_neg h5])
      ·
        rw [hm3]
        show G (w, 0, 0) (mW w cy f (upd v 8 (dOr tx n p)) s nu) [(1, .int (2)), (0, .ref (w.2 (132)))] 42 []
        refine zr_aload_n X 1 dX9_reads_42 rfl rfl ?_
        refine zr_dup X dX9_reads_43 rfl ?_
        refine zr_get X zfd_RX9_136 (132) (show 132 < w.1 by rw [hw]; omega) mW_132 (v := .int (v 3)) rfl dX9_reads_44 ?_
        refine zr_iconst X (v := 1) dX9_reads_47 (by decide) ?_
        refine zr_iadd X dX9_reads_48 ?_
        refine zr_put X zfd_RX9_136 zty_9_8 (132) (show 132 < w.1 by rw [hw]; omega) mW_132 rfl rfl (Nat.le_of_ble_eq_true rfl) eMod_s8 dX9_reads_49 ?_
        refine zcw (f2 := mW w cy f (upd (upd v 8 (dOr tx n p)) 3 (nI (p + 1))) s nu) (mu_132.trans (by rw [hv3, nI_1])) ?_
        refine zr_aload_n X 1 dX9_reads_52 rfl rfl ?_
        refine zr_iconst X (v := 0) dX9_reads_53 (by decide) ?_
        refine zr_cV X (As := [.int (0)]) (rest := []) (f' := mW w cy f (upd (upd (upd v 8 (dOr tx n p)) 3 (nI (p + 1))) 3 (nI (dNum tx n 0 (p + 1) nu).2.1)) s ((dNum tx n 0 (p + 1) nu).2.2)) (st' := [.int ((dNum tx n 0 (p + 1) nu).1)]) zc_X9_numbered (132) (show 132 < w.1 by rw [hw]; omega) mW_132 (q9 := _) rfl rfl (k_numD (q0 := 0) hw htx ((upd_ne (by decide)).trans ((upd_ne (by decide)).trans hv2)) hn upd_eq hp1 rfl (by decide)) ⟨Nat.le_of_ble_eq_true rfl, Nat.le_of_ble_eq_true rfl⟩ ⟨Nat.le_refl _, Nat.le_refl _⟩ rfl (Nat.le_of_ble_eq_true rfl) zm_4_203 rfl dX9_reads_54 rfl ?_
        refine zcw (f2 := mW w cy f (upd (upd v 8 (dOr tx n p)) 3 (nI ((dNum tx n 0 (p + 1) nu).2.1))) s ((dNum tx n 0 (p + 1) nu).2.2)) (by rw [upd_upd]) ?_
        have hb4 : (dNum tx n 0 (p + 1) nu).2.1 ≤ n := dNum_le hn hp1
        generalize eA4 : dNum tx n 0 (p + 1) nu = A4 at hb4 ⊢
        refine zr_istore_n X (ls' := [(2, .int (A4.1)), (1, .int (2)), (0, .ref (w.2 (132)))]) dX9_reads_57 rfl (by decide) rfl ?_
        refine zr_iconst X (v := 1) dX9_reads_58 (by decide) ?_
        refine zr_istore_n X (ls' := [(3, .int (1)), (2, .int (A4.1)), (1, .int (2)), (0, .ref (w.2 (132)))]) dX9_reads_59 rfl (by decide) rfl ?_
        refine zr_iload_n X 0 dX9_reads_60 rfl rfl ?_
        refine zr_iload_n X 2 dX9_reads_61 rfl rfl ?_
        refine zr_icmp_ge X (tgt := 98) dX9_reads_62 (by decide) (fun h => absurd h (by decide)) (fun _ => ?_)
        refine zr_iload_n X 1 dX9_reads_65 rfl rfl ?_
        refine zr_if_eq X (tgt := 98) dX9_reads_66 (by decide) (fun h8 => ?_) (fun h9 => ?_)
        · refine zr_iload_n X 1 dX9_reads_98 rfl rfl ?_
          refine zr_if_eq X (tgt := 115) dX9_reads_99 (by decide) (fun _ => ?_) (fun h10 => absurd h8 h10)
          refine zr_iconst X (v := 0) dX9_reads_115 (by decide) ?_
          exact zret_z E rfl (Or.inl rfl) dX9_reads_116 (by unfold dReads; rw [if_neg h1, hm3, eA4]; show _ = (dRd tx n 1 1 A4).1; simp only [dRd_s, dRd_0, if_pos h8]) (by unfold dReads; rw [if_neg h1, hm3, eA4]; show _ = mW w cy f (upd (upd v 8 (dOr tx n p)) 3 (nI (dRd tx n 1 1 A4).2.1)) s (dRd tx n 1 1 A4).2.2; simp only [dRd_s, dRd_0, if_pos h8])
        · refine zr_aload_n X 3 dX9_reads_69 rfl rfl ?_
          refine zr_bipush X (v := 44) dX9_reads_70 (by decide) ?_
          by_cases h11 : (dAt tx n A4.2.1 44 44) = 0
          · refine zr_cV X (As := [.int (44)]) (rest := []) (f' := mW w cy f (upd (upd (upd v 8 (dOr tx n p)) 3 (nI A4.2.1)) 3 (nI (dSg tx n A4.2.1 44))) s A4.2.2) (st' := [.int (dAt tx n A4.2.1 44 44)]) zc_X9_sign (132) (show 132 < w.1 by rw [hw]; omega) mW_132 (q9 := _) rfl rfl (k_sign hw htx ((upd_ne (by decide)).trans ((upd_ne (by decide)).trans hv2)) hn upd_eq hb4) ⟨Nat.le_of_ble_eq_true rfl, Nat.le_of_ble_eq_true rfl⟩ ⟨Nat.le_refl _, Nat.le_refl _⟩ rfl (Nat.le_of_ble_eq_true rfl) zm_4_207 rfl dX9_reads_72 rfl ?_
            refine zcw (f2 := mW w cy f (upd (upd v 8 (dOr tx n p)) 3 (nI A4.2.1)) s A4.2.2) (by unfold dSg; rw [if_pos h11, upd_upd]) ?_
            refine zr_if_eq X (tgt := 90) dX9_reads_75 (by decide) (fun _ => ?_) (fun h12 => absurd h11 h12)
            refine zr_iconst X (v := 0) dX9_reads_90 (by decide) ?_
            refine zr_istore_n X (ls' := [(2, .int (0)), (3, .int (1)), (1, .int (2)), (0, .ref (w.2 (132)))]) dX9_reads_91 rfl (by decide) rfl ?_
            refine zr_iinc X (v := 2) (ls' := [(3, .int (2)), (2, .int (0)), (1, .int (2)), (0, .ref (w.2 (132)))]) 1 dX9_reads_92 rfl (by decide) (by decide) rfl ?_
            refine zr_goto X (tgt := 60) dX9_reads_95 (by decide) ?_
            refine zr_iload_n X 0 dX9_reads_60 rfl rfl ?_
            refine zr_iload_n X 2 dX9_reads_61 rfl rfl ?_
            refine zr_icmp_ge X (tgt := 98) dX9_reads_62 (by decide) (fun _ => ?_) (fun h => absurd h (by decide))
            refine zr_iload_n X 1 dX9_reads_98 rfl rfl ?_
            refine zr_if_eq X (tgt := 115) dX9_reads_99 (by decide) (fun _ => ?_) (fun h => absurd rfl h)
            refine zr_iconst X (v := 0) dX9_reads_115 (by decide) ?_
            exact zret_z E rfl (Or.inl rfl) dX9_reads_116 (by unfold dReads; rw [if_neg h1, hm3, eA4]; show _ = (dRd tx n 1 1 A4).1; simp only [dRd_s, dRd_0, if_neg h9, if_pos h11]) (by unfold dReads; rw [if_neg h1, hm3, eA4]; show _ = mW w cy f (upd (upd v 8 (dOr tx n p)) 3 (nI (dRd tx n 1 1 A4).2.1)) s (dRd tx n 1 1 A4).2.2; simp only [dRd_s, dRd_0, if_neg h9, if_pos h11])
          · refine zr_cV X (As := [.int (44)]) (rest := []) (f' := mW w cy f (upd (upd (upd v 8 (dOr tx n p)) 3 (nI A4.2.1)) 3 (nI (dSg tx n A4.2.1 44))) s A4.2.2) (st' := [.int (dAt tx n A4.2.1 44 44)]) zc_X9_sign (132) (show 132 < w.1 by rw [hw]; omega) mW_132 (q9 := _) rfl rfl (k_sign hw htx ((upd_ne (by decide)).trans ((upd_ne (by decide)).trans hv2)) hn upd_eq hb4) ⟨Nat.le_of_ble_eq_true rfl, Nat.le_of_ble_eq_true rfl⟩ ⟨Nat.le_refl _, Nat.le_refl _⟩ rfl (Nat.le_of_ble_eq_true rfl) zm_4_207 rfl dX9_reads_72 rfl ?_
            refine zcw (f2 := mW w cy f (upd (upd v 8 (dOr tx n p)) 3 (nI (A4.2.1 + 1))) s A4.2.2) (by unfold dSg; rw [if_neg h11, upd_upd]) ?_
            have hb6 : A4.2.1 + 1 ≤ n := dAt_lt h11 (Nat.lt_of_le_of_lt hb4 (by omega)) hn
            refine zr_if_eq X (tgt := 90) dX9_reads_75 (by decide) (fun h13 => absurd h13 h11) (fun _ => ?_)
            refine zr_aload_n X 3 dX9_reads_78 rfl rfl ?_
            refine zr_iload_n X 0 dX9_reads_79 rfl rfl ?_
            refine zr_cV X (As := [.int (1)]) (rest := []) (f' := mW w cy f (upd (upd (upd v 8 (dOr tx n p)) 3 (nI (A4.2.1 + 1))) 3 (nI (dNum tx n 1 (A4.2.1 + 1) A4.2.2).2.1)) s ((dNum tx n 1 (A4.2.1 + 1) A4.2.2).2.2)) (st' := [.int ((dNum tx n 1 (A4.2.1 + 1) A4.2.2).1)]) zc_X9_numbered (132) (show 132 < w.1 by rw [hw]; omega) mW_132 (q9 := _) rfl rfl (k_numD (q0 := 1) hw htx ((upd_ne (by decide)).trans ((upd_ne (by decide)).trans hv2)) hn upd_eq hb6 rfl (by decide)) ⟨Nat.le_of_ble_eq_true rfl, Nat.le_of_ble_eq_true rfl⟩ ⟨Nat.le_refl _, Nat.le_refl _⟩ rfl (Nat.le_of_ble_eq_true rfl) zm_4_203 rfl dX9_reads_80 rfl ?_
            refine zcw (f2 := mW w cy f (upd (upd v 8 (dOr tx n p)) 3 (nI ((dNum tx n 1 (A4.2.1 + 1) A4.2.2).2.1))) s ((dNum tx n 1 (A4.2.1 + 1) A4.2.2).2.2)) (by rw [upd_upd]) ?_
            have hb7 : (dNum tx n 1 (A4.2.1 + 1) A4.2.2).2.1 ≤ n := dNum_le hn hb6
            generalize eA7 : dNum tx n 1 (A4.2.1 + 1) A4.2.2 = A7 at hb7 ⊢
            refine zr_if_eq X (tgt := 90) dX9_reads_83 (by decide) (fun h14 => ?_) (fun h15 => ?_)
            · refine zr_iconst X (v := 0) dX9_reads_90 (by decide) ?_
              refine zr_istore_n X (ls' := [(2, .int (0)), (3, .int (1)), (1, .int (2)), (0, .ref (w.2 (132)))]) dX9_reads_91 rfl (by decide) rfl ?_
              refine zr_iinc X (v := 2) (ls' := [(3, .int (2)), (2, .int (0)), (1, .int (2)), (0, .ref (w.2 (132)))]) 1 dX9_reads_92 rfl (by decide) (by decide) rfl ?_
              refine zr_goto X (tgt := 60) dX9_reads_95 (by decide) ?_
              refine zr_iload_n X 0 dX9_reads_60 rfl rfl ?_
              refine zr_iload_n X 2 dX9_reads_61 rfl rfl ?_
              refine zr_icmp_ge X (tgt := 98) dX9_reads_62 (by decide) (fun _ => ?_) (fun h => absurd h (by decide))
              refine zr_iload_n X 1 dX9_reads_98 rfl rfl ?_
              refine zr_if_eq X (tgt := 115) dX9_reads_99 (by decide) (fun _ => ?_) (fun h => absurd rfl h)
              refine zr_iconst X (v := 0) dX9_reads_115 (by decide) ?_
              exact zret_z E rfl (Or.inl rfl) dX9_reads_116 (by unfold dReads; rw [if_neg h1, hm3, eA4]; show _ = (dRd tx n 1 1 A4).1; simp only [dRd_s, dRd_0, if_neg h9, if_neg h11, if_pos h14, eA7]) (by unfold dReads; rw [if_neg h1, hm3, eA4]; show _ = mW w cy f (upd (upd v 8 (dOr tx n p)) 3 (nI (dRd tx n 1 1 A4).2.1)) s (dRd tx n 1 1 A4).2.2; simp only [dRd_s, dRd_0, if_neg h9, if_neg h11, if_pos h14, eA7])
            · refine zr_iconst X (v := 1) dX9_reads_86 (by decide) ?_
              refine zr_goto X (tgt := 91) dX9_reads_87 (by decide) ?_
              refine zr_istore_n X (ls' := [(2, .int (1)), (3, .int (1)), (1, .int (2)), (0, .ref (w.2 (132)))]) dX9_reads_91 rfl (by decide) rfl ?_
              refine zr_iinc X (v := 2) (ls' := [(3, .int (2)), (2, .int (1)), (1, .int (2)), (0, .ref (w.2 (132)))]) 1 dX9_reads_92 rfl (by decide) (by decide) rfl ?_
              refine zr_goto X (tgt := 60) dX9_reads_95 (by decide) ?_
              refine zr_iload_n X 0 dX9_reads_60 rfl rfl ?_
              refine zr_iload_n X 2 dX9_reads_61 rfl rfl ?_
              refine zr_icmp_ge X (tgt := 98) dX9_reads_62 (by decide) (fun _ => ?_) (fun h => absurd h (by decide))
              refine zr_iload_n X 1 dX9_reads_98 rfl rfl ?_
              refine zr_if_eq X (tgt := 115) dX9_reads_99 (by decide) (fun h => absurd h (by decide)) (fun _ => ?_)
              refine zr_aload_n X 3 dX9_reads_102 rfl rfl ?_
              refine zr_bipush X (v := 59) dX9_reads_103 (by decide) ?_
              by_cases h16 : (dAt tx n A7.2.1 59 59) = 0
              · refine zr_cV X (As := [.int (59)]) (rest := []) (f' := mW w cy f (upd (upd (upd v 8 (dOr tx n p)) 3 (nI A7.2.1)) 3 (nI (dSg tx n A7.2.1 59))) s A7.2.2) (st' := [.int (dAt tx n A7.2.1 59 59)]) zc_X9_sign (132) (show 132 < w.1 by rw [hw]; omega) mW_132 (q9 := _) rfl rfl (k_sign hw htx ((upd_ne (by decide)).trans ((upd_ne (by decide)).trans hv2)) hn upd_eq hb7) ⟨Nat.le_of_ble_eq_true rfl, Nat.le_of_ble_eq_true rfl⟩ ⟨Nat.le_refl _, Nat.le_refl _⟩ rfl (Nat.le_of_ble_eq_true rfl) zm_4_207 rfl dX9_reads_105 rfl ?_
                refine zcw (f2 := mW w cy f (upd (upd v 8 (dOr tx n p)) 3 (nI A7.2.1)) s A7.2.2) (by unfold dSg; rw [if_pos h16, upd_upd]) ?_
                refine zr_if_eq X (tgt := 115) dX9_reads_108 (by decide) (fun _ => ?_) (fun h17 => absurd h16 h17)
                refine zr_iconst X (v := 0) dX9_reads_115 (by decide) ?_
                exact zret_z E rfl (Or.inl rfl) dX9_reads_116 (by unfold dReads; rw [if_neg h1, hm3, eA4]; show _ = (dRd tx n 1 1 A4).1; simp only [dRd_s, dRd_0, if_neg h9, if_neg h11, if_neg h15, if_pos h16, eA7]) (by unfold dReads; rw [if_neg h1, hm3, eA4]; show _ = mW w cy f (upd (upd v 8 (dOr tx n p)) 3 (nI (dRd tx n 1 1 A4).2.1)) s (dRd tx n 1 1 A4).2.2; simp only [dRd_s, dRd_0, if_neg h9, if_neg h11, if_neg h15, if_pos h16, eA7])
              · refine zr_cV X (As := [.int (59)]) (rest := []) (f' := mW w cy f (upd (upd (upd v 8 (dOr tx n p)) 3 (nI A7.2.1)) 3 (nI (dSg tx n A7.2.1 59))) s A7.2.2) (st' := [.int (dAt tx n A7.2.1 59 59)]) zc_X9_sign (132) (show 132 < w.1 by rw [hw]; omega) mW_132 (q9 := _) rfl rfl (k_sign hw htx ((upd_ne (by decide)).trans ((upd_ne (by decide)).trans hv2)) hn upd_eq hb7) ⟨Nat.le_of_ble_eq_true rfl, Nat.le_of_ble_eq_true rfl⟩ ⟨Nat.le_refl _, Nat.le_refl _⟩ rfl (Nat.le_of_ble_eq_true rfl) zm_4_207 rfl dX9_reads_105 rfl ?_
                refine zcw (f2 := mW w cy f (upd (upd v 8 (dOr tx n p)) 3 (nI (A7.2.1 + 1))) s A7.2.2) (by unfold dSg; rw [if_neg h16, upd_upd]) ?_
                have hb9 : A7.2.1 + 1 ≤ n := dAt_lt h16 (Nat.lt_of_le_of_lt hb7 (by omega)) hn
                refine zr_if_eq X (tgt := 115) dX9_reads_108 (by decide) (fun h18 => absurd h18 h16) (fun _ => ?_)
                refine zr_iconst X (v := 1) dX9_reads_111 (by decide) ?_
                refine zr_goto X (tgt := 116) dX9_reads_112 (by decide) ?_
                exact zret_z E rfl (Or.inr rfl) dX9_reads_116 (by unfold dReads; rw [if_neg h1, hm3, eA4]; show _ = (dRd tx n 1 1 A4).1; simp only [dRd_s, dRd_0, if_neg h9, if_neg h11, if_neg h15, if_neg h16, eA7]) (by unfold dReads; rw [if_neg h1, hm3, eA4]; show _ = mW w cy f (upd (upd v 8 (dOr tx n p)) 3 (nI (dRd tx n 1 1 A4).2.1)) s (dRd tx n 1 1 A4).2.2; simp only [dRd_s, dRd_0, if_neg h9, if_neg h11, if_neg h15, if_neg h16, eA7])
      ·
        rw [hm3]
        show G (w, 0, 0) (mW w cy f (upd v 8 (dOr tx n p)) s nu) [(1, .int (3)), (0, .ref (w.2 (132)))] 42 []
        refine zr_aload_n X 1 dX9_reads_42 rfl rfl ?_
        refine zr_dup X dX9_reads_43 rfl ?_
        refine zr_get X zfd_RX9_136 (132) (show 132 < w.1 by rw [hw]; omega) mW_132 (v := .int (v 3)) rfl dX9_reads_44 ?_
        refine zr_iconst X (v := 1) dX9_reads_47 (by decide) ?_
        refine zr_iadd X dX9_reads_48 ?_
        refine zr_put X zfd_RX9_136 zty_9_8 (132) (show 132 < w.1 by rw [hw]; omega) mW_132 rfl rfl (Nat.le_of_ble_eq_true rfl) eMod_s8 dX9_reads_49 ?_
        refine zcw (f2 := mW w cy f (upd (upd v 8 (dOr tx n p)) 3 (nI (p + 1))) s nu) (mu_132.trans (by rw [hv3, nI_1])) ?_
        refine zr_aload_n X 1 dX9_reads_52 rfl rfl ?_
        refine zr_iconst X (v := 0) dX9_reads_53 (by decide) ?_
        refine zr_cV X (As := [.int (0)]) (rest := []) (f' := mW w cy f (upd (upd (upd v 8 (dOr tx n p)) 3 (nI (p + 1))) 3 (nI (dNum tx n 0 (p + 1) nu).2.1)) s ((dNum tx n 0 (p + 1) nu).2.2)) (st' := [.int ((dNum tx n 0 (p + 1) nu).1)]) zc_X9_numbered (132) (show 132 < w.1 by rw [hw]; omega) mW_132 (q9 := _) rfl rfl (k_numD (q0 := 0) hw htx ((upd_ne (by decide)).trans ((upd_ne (by decide)).trans hv2)) hn upd_eq hp1 rfl (by decide)) ⟨Nat.le_of_ble_eq_true rfl, Nat.le_of_ble_eq_true rfl⟩ ⟨Nat.le_refl _, Nat.le_refl _⟩ rfl (Nat.le_of_ble_eq_true rfl) zm_4_203 rfl dX9_reads_54 rfl ?_
        refine zcw (f2 := mW w cy f (upd (upd v 8 (dOr tx n p)) 3 (nI ((dNum tx n 0 (p + 1) nu).2.1))) s ((dNum tx n 0 (p + 1) nu).2.2)) (by rw [upd_upd]) ?_
        have hb10 : (dNum tx n 0 (p + 1) nu).2.1 ≤ n := dNum_le hn hp1
        generalize eA10 : dNum tx n 0 (p + 1) nu = A10 at hb10 ⊢
        refine zr_istore_n X (ls' := [(2, .int (A10.1)), (1, .int (3)), (0, .ref (w.2 (132)))]) dX9_reads_57 rfl (by decide) rfl ?_
        refine zr_iconst X (v := 1) dX9_reads_58 (by decide) ?_
        refine zr_istore_n X (ls' := [(3, .int (1)), (2, .int (A10.1)), (1, .int (3)), (0, .ref (w.2 (132)))]) dX9_reads_59 rfl (by decide) rfl ?_
        refine zr_iload_n X 0 dX9_reads_60 rfl rfl ?_
        refine zr_iload_n X 2 dX9_reads_61 rfl rfl ?_
        refine zr_icmp_ge X (tgt := 98) dX9_reads_62 (by decide) (fun h => absurd h (by decide)) (fun _ => ?_)
        refine zr_iload_n X 1 dX9_reads_65 rfl rfl ?_
        refine zr_if_eq X (tgt := 98) dX9_reads_66 (by decide) (fun h19 => ?_) (fun h20 => ?_)
        · refine zr_iload_n X 1 dX9_reads_98 rfl rfl ?_
          refine zr_if_eq X (tgt := 115) dX9_reads_99 (by decide) (fun _ => ?_) (fun h21 => absurd h19 h21)
          refine zr_iconst X (v := 0) dX9_reads_115 (by decide) ?_
          exact zret_z E rfl (Or.inl rfl) dX9_reads_116 (by unfold dReads; rw [if_neg h1, hm3, eA10]; show _ = (dRd tx n 2 1 A10).1; simp only [dRd_s, dRd_0, if_pos h19]) (by unfold dReads; rw [if_neg h1, hm3, eA10]; show _ = mW w cy f (upd (upd v 8 (dOr tx n p)) 3 (nI (dRd tx n 2 1 A10).2.1)) s (dRd tx n 2 1 A10).2.2; simp only [dRd_s, dRd_0, if_pos h19])
        · refine zr_aload_n X 3 dX9_reads_69 rfl rfl ?_
          refine zr_bipush X (v := 44) dX9_reads_70 (by decide) ?_
          by_cases h22 : (dAt tx n A10.2.1 44 44) = 0
          · refine zr_cV X (As := [.int (44)]) (rest := []) (f' := mW w cy f (upd (upd (upd v 8 (dOr tx n p)) 3 (nI A10.2.1)) 3 (nI (dSg tx n A10.2.1 44))) s A10.2.2) (st' := [.int (dAt tx n A10.2.1 44 44)]) zc_X9_sign (132) (show 132 < w.1 by rw [hw]; omega) mW_132 (q9 := _) rfl rfl (k_sign hw htx ((upd_ne (by decide)).trans ((upd_ne (by decide)).trans hv2)) hn upd_eq hb10) ⟨Nat.le_of_ble_eq_true rfl, Nat.le_of_ble_eq_true rfl⟩ ⟨Nat.le_refl _, Nat.le_refl _⟩ rfl (Nat.le_of_ble_eq_true rfl) zm_4_207 rfl dX9_reads_72 rfl ?_
            refine zcw (f2 := mW w cy f (upd (upd v 8 (dOr tx n p)) 3 (nI A10.2.1)) s A10.2.2) (by unfold dSg; rw [if_pos h22, upd_upd]) ?_
            refine zr_if_eq X (tgt := 90) dX9_reads_75 (by decide) (fun _ => ?_) (fun h23 => absurd h22 h23)
            refine zr_iconst X (v := 0) dX9_reads_90 (by decide) ?_
            refine zr_istore_n X (ls' := [(2, .int (0)), (3, .int (1)), (1, .int (3)), (0, .ref (w.2 (132)))]) dX9_reads_91 rfl (by decide) rfl ?_
            refine zr_iinc X (v := 2) (ls' := [(3, .int (2)), (2, .int (0)), (1, .int (3)), (0, .ref (w.2 (132)))]) 1 dX9_reads_92 rfl (by decide) (by decide) rfl ?_
            refine zr_goto X (tgt := 60) dX9_reads_95 (by decide) ?_
            refine zr_iload_n X 0 dX9_reads_60 rfl rfl ?_
            refine zr_iload_n X 2 dX9_reads_61 rfl rfl ?_
            refine zr_icmp_ge X (tgt := 98) dX9_reads_62 (by decide) (fun h => absurd h (by decide)) (fun _ => ?_)
            refine zr_iload_n X 1 dX9_reads_65 rfl rfl ?_
            refine zr_if_eq X (tgt := 98) dX9_reads_66 (by decide) (fun _ => ?_) (fun h => absurd rfl h)
            refine zr_iload_n X 1 dX9_reads_98 rfl rfl ?_
            refine zr_if_eq X (tgt := 115) dX9_reads_99 (by decide) (fun _ => ?_) (fun h => absurd rfl h)
            refine zr_iconst X (v := 0) dX9_reads_115 (by decide) ?_
            exact zret_z E rfl (Or.inl rfl) dX9_reads_116 (by unfold dReads; rw [if_neg h1, hm3, eA10]; show _ = (dRd tx n 2 1 A10).1; simp only [dRd_s, dRd_0, if_neg h20, if_pos h22]) (by unfold dReads; rw [if_neg h1, hm3, eA10]; show _ = mW w cy f (upd (upd v 8 (dOr tx n p)) 3 (nI (dRd tx n 2 1 A10).2.1)) s (dRd tx n 2 1 A10).2.2; simp only [dRd_s, dRd_0, if_neg h20, if_pos h22])
          · refine zr_cV X (As := [.int (44)]) (rest := []) (f' := mW w cy f (upd (upd (upd v 8 (dOr tx n p)) 3 (nI A10.2.1)) 3 (nI (dSg tx n A10.2.1 44))) s A10.2.2) (st' := [.int (dAt tx n A10.2.1 44 44)]) zc_X9_sign (132) (show 132 < w.1 by rw [hw]; omega) mW_132 (q9 := _) rfl rfl (k_sign hw htx ((upd_ne (by decide)).trans ((upd_ne (by decide)).trans hv2)) hn upd_eq hb10) ⟨Nat.le_of_ble_eq_true rfl, Nat.le_of_ble_eq_true rfl⟩ ⟨Nat.le_refl _, Nat.le_refl _⟩ rfl (Nat.le_of_ble_eq_true rfl) zm_4_207 rfl dX9_reads_72 rfl ?_
            refine zcw (f2 := mW w cy f (upd (upd v 8 (dOr tx n p)) 3 (nI (A10.2.1 + 1))) s A10.2.2) (by unfold dSg; rw [if_neg h22, upd_upd]) ?_
            have hb12 : A10.2.1 + 1 ≤ n := dAt_lt h22 (Nat.lt_of_le_of_lt hb10 (by omega)) hn
            refine zr_if_eq X (tgt := 90) dX9_reads_75 (by decide) (fun h24 => absurd h24 h22) (fun _ => ?_)
            refine zr_aload_n X 3 dX9_reads_78 rfl rfl ?_
            refine zr_iload_n X 0 dX9_reads_79 rfl rfl ?_
            refine zr_cV X (As := [.int (1)]) (rest := []) (f' := mW w cy f (upd (upd (upd v 8 (dOr tx n p)) 3 (nI (A10.2.1 + 1))) 3 (nI (dNum tx n 1 (A10.2.1 + 1) A10.2.2).2.1)) s ((dNum tx n 1 (A10.2.1 + 1) A10.2.2).2.2)) (st' := [.int ((dNum tx n 1 (A10.2.1 + 1) A10.2.2).1)]) zc_X9_numbered (132) (show 132 < w.1 by rw [hw]; omega) mW_132 (q9 := _) rfl rfl (k_numD (q0 := 1) hw htx ((upd_ne (by decide)).trans ((upd_ne (by decide)).trans hv2)) hn upd_eq hb12 rfl (by decide)) ⟨Nat.le_of_ble_eq_true rfl, Nat.le_of_ble_eq_true rfl⟩ ⟨Nat.le_refl _, Nat.le_refl _⟩ rfl (Nat.le_of_ble_eq_true rfl) zm_4_203 rfl dX9_reads_80 rfl ?_
            refine zcw (f2 := mW w cy f (upd (upd v 8 (dOr tx n p)) 3 (nI ((dNum tx n 1 (A10.2.1 + 1) A10.2.2).2.1))) s ((dNum tx n 1 (A10.2.1 + 1) A10.2.2).2.2)) (by rw [upd_upd]) ?_
            have hb13 : (dNum tx n 1 (A10.2.1 + 1) A10.2.2).2.1 ≤ n := dNum_le hn hb12
            generalize eA13 : dNum tx n 1 (A10.2.1 + 1) A10.2.2 = A13 at hb13 ⊢
            refine zr_if_eq X (tgt := 90) dX9_reads_83 (by decide) (fun h25 => ?_) (fun h26 => ?_)
            · refine zr_iconst X (v := 0) dX9_reads_90 (by decide) ?_
              refine zr_istore_n X (ls' := [(2, .int (0)), (3, .int (1)), (1, .int (3)), (0, .ref (w.2 (132)))]) dX9_reads_91 rfl (by decide) rfl ?_
              refine zr_iinc X (v := 2) (ls' := [(3, .int (2)), (2, .int (0)), (1, .int (3)), (0, .ref (w.2 (132)))]) 1 dX9_reads_92 rfl (by decide) (by decide) rfl ?_
              refine zr_goto X (tgt := 60) dX9_reads_95 (by decide) ?_
              refine zr_iload_n X 0 dX9_reads_60 rfl rfl ?_
              refine zr_iload_n X 2 dX9_reads_61 rfl rfl ?_
              refine zr_icmp_ge X (tgt := 98) dX9_reads_62 (by decide) (fun h => absurd h (by decide)) (fun _ => ?_)
              refine zr_iload_n X 1 dX9_reads_65 rfl rfl ?_
              refine zr_if_eq X (tgt := 98) dX9_reads_66 (by decide) (fun _ => ?_) (fun h => absurd rfl h)
              refine zr_iload_n X 1 dX9_reads_98 rfl rfl ?_
              refine zr_if_eq X (tgt := 115) dX9_reads_99 (by decide) (fun _ => ?_) (fun h => absurd rfl h)
              refine zr_iconst X (v := 0) dX9_reads_115 (by decide) ?_
              exact zret_z E rfl (Or.inl rfl) dX9_reads_116 (by unfold dReads; rw [if_neg h1, hm3, eA10]; show _ = (dRd tx n 2 1 A10).1; simp only [dRd_s, dRd_0, if_neg h20, if_neg h22, if_pos h25, eA13]) (by unfold dReads; rw [if_neg h1, hm3, eA10]; show _ = mW w cy f (upd (upd v 8 (dOr tx n p)) 3 (nI (dRd tx n 2 1 A10).2.1)) s (dRd tx n 2 1 A10).2.2; simp only [dRd_s, dRd_0, if_neg h20, if_neg h22, if_pos h25, eA13])
            · refine zr_iconst X (v := 1) dX9_reads_86 (by decide) ?_
              refine zr_goto X (tgt := 91) dX9_reads_87 (by decide) ?_
              refine zr_istore_n X (ls' := [(2, .int (1)), (3, .int (1)), (1, .int (3)), (0, .ref (w.2 (132)))]) dX9_reads_91 rfl (by decide) rfl ?_
              refine zr_iinc X (v := 2) (ls' := [(3, .int (2)), (2, .int (1)), (1, .int (3)), (0, .ref (w.2 (132)))]) 1 dX9_reads_92 rfl (by decide) (by decide) rfl ?_
              refine zr_goto X (tgt := 60) dX9_reads_95 (by decide) ?_
              refine zr_iload_n X 0 dX9_reads_60 rfl rfl ?_
              refine zr_iload_n X 2 dX9_reads_61 rfl rfl ?_
              refine zr_icmp_ge X (tgt := 98) dX9_reads_62 (by decide) (fun h => absurd h (by decide)) (fun _ => ?_)
              refine zr_iload_n X 1 dX9_reads_65 rfl rfl ?_
              refine zr_if_eq X (tgt := 98) dX9_reads_66 (by decide) (fun h => absurd h (by decide)) (fun _ => ?_)
              refine zr_aload_n X 3 dX9_reads_69 rfl rfl ?_
              refine zr_bipush X (v := 44) dX9_reads_70 (by decide) ?_
              by_cases h27 : (dAt tx n A13.2.1 44 44) = 0
              · refine zr_cV X (As := [.int (44)]) (rest := []) (f' := mW w cy f (upd (upd (upd v 8 (dOr tx n p)) 3 (nI A13.2.1)) 3 (nI (dSg tx n A13.2.1 44))) s A13.2.2) (st' := [.int (dAt tx n A13.2.1 44 44)]) zc_X9_sign (132) (show 132 < w.1 by rw [hw]; omega) mW_132 (q9 := _) rfl rfl (k_sign hw htx ((upd_ne (by decide)).trans ((upd_ne (by decide)).trans hv2)) hn upd_eq hb13) ⟨Nat.le_of_ble_eq_true rfl, Nat.le_of_ble_eq_true rfl⟩ ⟨Nat.le_refl _, Nat.le_refl _⟩ rfl (Nat.le_of_ble_eq_true rfl) zm_4_207 rfl dX9_reads_72 rfl ?_
                refine zcw (f2 := mW w cy f (upd (upd v 8 (dOr tx n p)) 3 (nI A13.2.1)) s A13.2.2) (by unfold dSg; rw [if_pos h27, upd_upd]) ?_
                refine zr_if_eq X (tgt := 90) dX9_reads_75 (by decide) (fun _ => ?_) (fun h28 => absurd h27 h28)
                refine zr_iconst X (v := 0) dX9_reads_90 (by decide) ?_
                refine zr_istore_n X (ls' := [(2, .int (0)), (3, .int (2)), (1, .int (3)), (0, .ref (w.2 (132)))]) dX9_reads_91 rfl (by decide) rfl ?_
                refine zr_iinc X (v := 3) (ls' := [(3, .int (3)), (2, .int (0)), (1, .int (3)), (0, .ref (w.2 (132)))]) 1 dX9_reads_92 rfl (by decide) (by decide) rfl ?_
                refine zr_goto X (tgt := 60) dX9_reads_95 (by decide) ?_
                refine zr_iload_n X 0 dX9_reads_60 rfl rfl ?_
                refine zr_iload_n X 2 dX9_reads_61 rfl rfl ?_
                refine zr_icmp_ge X (tgt := 98) dX9_reads_62 (by decide) (fun _ => ?_) (fun h => absurd h (by decide))
                refine zr_iload_n X 1 dX9_reads_98 rfl rfl ?_
                refine zr_if_eq X (tgt := 115) dX9_reads_99 (by decide) (fun _ => ?_) (fun h => absurd rfl h)
                refine zr_iconst X (v := 0) dX9_reads_115 (by decide) ?_
                exact zret_z E rfl (Or.inl rfl) dX9_reads_116 (by unfold dReads; rw [if_neg h1, hm3, eA10]; show _ = (dRd tx n 2 1 A10).1; simp only [dRd_s, dRd_0, if_neg h20, if_neg h22, if_neg h26, if_pos h27, eA13]) (by unfold dReads; rw [if_neg h1, hm3, eA10]; show _ = mW w cy f (upd (upd v 8 (dOr tx n p)) 3 (nI (dRd tx n 2 1 A10).2.1)) s (dRd tx n 2 1 A10).2.2; simp only [dRd_s, dRd_0, if_neg h20, if_neg h22, if_neg h26, if_pos h27, eA13])
              · refine zr_cV X (As := [.int (44)]) (rest := []) (f' := mW w cy f (upd (upd (upd v 8 (dOr tx n p)) 3 (nI A13.2.1)) 3 (nI (dSg tx n A13.2.1 44))) s A13.2.2) (st' := [.int (dAt tx n A13.2.1 44 44)]) zc_X9_sign (132) (show 132 < w.1 by rw [hw]; omega) mW_132 (q9 := _) rfl rfl (k_sign hw htx ((upd_ne (by decide)).trans ((upd_ne (by decide)).trans hv2)) hn upd_eq hb13) ⟨Nat.le_of_ble_eq_true rfl, Nat.le_of_ble_eq_true rfl⟩ ⟨Nat.le_refl _, Nat.le_refl _⟩ rfl (Nat.le_of_ble_eq_true rfl) zm_4_207 rfl dX9_reads_72 rfl ?_
                refine zcw (f2 := mW w cy f (upd (upd v 8 (dOr tx n p)) 3 (nI (A13.2.1 + 1))) s A13.2.2) (by unfold dSg; rw [if_neg h27, upd_upd]) ?_
                have hb15 : A13.2.1 + 1 ≤ n := dAt_lt h27 (Nat.lt_of_le_of_lt hb13 (by omega)) hn
                refine zr_if_eq X (tgt := 90) dX9_reads_75 (by decide) (fun h29 => absurd h29 h27) (fun _ => ?_)
                refine zr_aload_n X 3 dX9_reads_78 rfl rfl ?_
                refine zr_iload_n X 0 dX9_reads_79 rfl rfl ?_
                refine zr_cV X (As := [.int (2)]) (rest := []) (f' := mW w cy f (upd (upd (upd v 8 (dOr tx n p)) 3 (nI (A13.2.1 + 1))) 3 (nI (dNum tx n 2 (A13.2.1 + 1) A13.2.2).2.1)) s ((dNum tx n 2 (A13.2.1 + 1) A13.2.2).2.2)) (st' := [.int ((dNum tx n 2 (A13.2.1 + 1) A13.2.2).1)]) zc_X9_numbered (132) (show 132 < w.1 by rw [hw]; omega) mW_132 (q9 := _) rfl rfl (k_numD (q0 := 2) hw htx ((upd_ne (by decide)).trans ((upd_ne (by decide)).trans hv2)) hn upd_eq hb15 rfl (by decide)) ⟨Nat.le_of_ble_eq_true rfl, Nat.le_of_ble_eq_true rfl⟩ ⟨Nat.le_refl _, Nat.le_refl _⟩ rfl (Nat.le_of_ble_eq_true rfl) zm_4_203 rfl dX9_reads_80 rfl ?_
                refine zcw (f2 := mW w cy f (upd (upd v 8 (dOr tx n p)) 3 (nI ((dNum tx n 2 (A13.2.1 + 1) A13.2.2).2.1))) s ((dNum tx n 2 (A13.2.1 + 1) A13.2.2).2.2)) (by rw [upd_upd]) ?_
                have hb16 : (dNum tx n 2 (A13.2.1 + 1) A13.2.2).2.1 ≤ n := dNum_le hn hb15
                generalize eA16 : dNum tx n 2 (A13.2.1 + 1) A13.2.2 = A16 at hb16 ⊢
                refine zr_if_eq X (tgt := 90) dX9_reads_83 (by decide) (fun h30 => ?_) (fun h31 => ?_)
                · refine zr_iconst X (v := 0) dX9_reads_90 (by decide) ?_
                  refine zr_istore_n X (ls' := [(2, .int (0)), (3, .int (2)), (1, .int (3)), (0, .ref (w.2 (132)))]) dX9_reads_91 rfl (by decide) rfl ?_
                  refine zr_iinc X (v := 3) (ls' := [(3, .int (3)), (2, .int (0)), (1, .int (3)), (0, .ref (w.2 (132)))]) 1 dX9_reads_92 rfl (by decide) (by decide) rfl ?_
                  refine zr_goto X (tgt := 60) dX9_reads_95 (by decide) ?_
                  refine zr_iload_n X 0 dX9_reads_60 rfl rfl ?_
                  refine zr_iload_n X 2 dX9_reads_61 rfl rfl ?_
                  refine zr_icmp_ge X (tgt := 98) dX9_reads_62 (by decide) (fun _ => ?_) (fun h => absurd h (by decide))
                  refine zr_iload_n X 1 dX9_reads_98 rfl rfl ?_
                  refine zr_if_eq X (tgt := 115) dX9_reads_99 (by decide) (fun _ => ?_) (fun h => absurd rfl h)
                  refine zr_iconst X (v := 0) dX9_reads_115 (by decide) ?_
                  exact zret_z E rfl (Or.inl rfl) dX9_reads_116 (by unfold dReads; rw [if_neg h1, hm3, eA10]; show _ = (dRd tx n 2 1 A10).1; simp only [dRd_s, dRd_0, if_neg h20, if_neg h22, if_neg h26, if_neg h27, if_pos h30, eA13, eA16]) (by unfold dReads; rw [if_neg h1, hm3, eA10]; show _ = mW w cy f (upd (upd v 8 (dOr tx n p)) 3 (nI (dRd tx n 2 1 A10).2.1)) s (dRd tx n 2 1 A10).2.2; simp only [dRd_s, dRd_0, if_neg h20, if_neg h22, if_neg h26, if_neg h27, if_pos h30, eA13, eA16])
                · refine zr_iconst X (v := 1) dX9_reads_86 (by decide) ?_
                  refine zr_goto X (tgt := 91) dX9_reads_87 (by decide) ?_
                  refine zr_istore_n X (ls' := [(2, .int (1)), (3, .int (2)), (1, .int (3)), (0, .ref (w.2 (132)))]) dX9_reads_91 rfl (by decide) rfl ?_
                  refine zr_iinc X (v := 3) (ls' := [(3, .int (3)), (2, .int (1)), (1, .int (3)), (0, .ref (w.2 (132)))]) 1 dX9_reads_92 rfl (by decide) (by decide) rfl ?_
                  refine zr_goto X (tgt := 60) dX9_reads_95 (by decide) ?_
                  refine zr_iload_n X 0 dX9_reads_60 rfl rfl ?_
                  refine zr_iload_n X 2 dX9_reads_61 rfl rfl ?_
                  refine zr_icmp_ge X (tgt := 98) dX9_reads_62 (by decide) (fun _ => ?_) (fun h => absurd h (by decide))
                  refine zr_iload_n X 1 dX9_reads_98 rfl rfl ?_
                  refine zr_if_eq X (tgt := 115) dX9_reads_99 (by decide) (fun h => absurd h (by decide)) (fun _ => ?_)
                  refine zr_aload_n X 3 dX9_reads_102 rfl rfl ?_
                  refine zr_bipush X (v := 59) dX9_reads_103 (by decide) ?_
                  by_cases h32 : (dAt tx n A16.2.1 59 59) = 0
                  · refine zr_cV X (As := [.int (59)]) (rest := []) (f' := mW w cy f (upd (upd (upd v 8 (dOr tx n p)) 3 (nI A16.2.1)) 3 (nI (dSg tx n A16.2.1 59))) s A16.2.2) (st' := [.int (dAt tx n A16.2.1 59 59)]) zc_X9_sign (132) (show 132 < w.1 by rw [hw]; omega) mW_132 (q9 := _) rfl rfl (k_sign hw htx ((upd_ne (by decide)).trans ((upd_ne (by decide)).trans hv2)) hn upd_eq hb16) ⟨Nat.le_of_ble_eq_true rfl, Nat.le_of_ble_eq_true rfl⟩ ⟨Nat.le_refl _, Nat.le_refl _⟩ rfl (Nat.le_of_ble_eq_true rfl) zm_4_207 rfl dX9_reads_105 rfl ?_
                    refine zcw (f2 := mW w cy f (upd (upd v 8 (dOr tx n p)) 3 (nI A16.2.1)) s A16.2.2) (by unfold dSg; rw [if_pos h32, upd_upd]) ?_
                    refine zr_if_eq X (tgt := 115) dX9_reads_108 (by decide) (fun _ => ?_) (fun h33 => absurd h32 h33)
                    refine zr_iconst X (v := 0) dX9_reads_115 (by decide) ?_
                    exact zret_z E rfl (Or.inl rfl) dX9_reads_116 (by unfold dReads; rw [if_neg h1, hm3, eA10]; show _ = (dRd tx n 2 1 A10).1; simp only [dRd_s, dRd_0, if_neg h20, if_neg h22, if_neg h26, if_neg h27, if_neg h31, if_pos h32, eA13, eA16]) (by unfold dReads; rw [if_neg h1, hm3, eA10]; show _ = mW w cy f (upd (upd v 8 (dOr tx n p)) 3 (nI (dRd tx n 2 1 A10).2.1)) s (dRd tx n 2 1 A10).2.2; simp only [dRd_s, dRd_0, if_neg h20, if_neg h22, if_neg h26, if_neg h27, if_neg h31, if_pos h32, eA13, eA16])
                  · refine zr_cV X (As := [.int (59)]) (rest := []) (f' := mW w cy f (upd (upd (upd v 8 (dOr tx n p)) 3 (nI A16.2.1)) 3 (nI (dSg tx n A16.2.1 59))) s A16.2.2) (st' := [.int (dAt tx n A16.2.1 59 59)]) zc_X9_sign (132) (show 132 < w.1 by rw [hw]; omega) mW_132 (q9 := _) rfl rfl (k_sign hw htx ((upd_ne (by decide)).trans ((upd_ne (by decide)).trans hv2)) hn upd_eq hb16) ⟨Nat.le_of_ble_eq_true rfl, Nat.le_of_ble_eq_true rfl⟩ ⟨Nat.le_refl _, Nat.le_refl _⟩ rfl (Nat.le_of_ble_eq_true rfl) zm_4_207 rfl dX9_reads_105 rfl ?_
                    refine zcw (f2 := mW w cy f (upd (upd v 8 (dOr tx n p)) 3 (nI (A16.2.1 + 1))) s A16.2.2) (by unfold dSg; rw [if_neg h32, upd_upd]) ?_
                    have hb18 : A16.2.1 + 1 ≤ n := dAt_lt h32 (Nat.lt_of_le_of_lt hb16 (by omega)) hn
                    refine zr_if_eq X (tgt := 115) dX9_reads_108 (by decide) (fun h34 => absurd h34 h32) (fun _ => ?_)
                    refine zr_iconst X (v := 1) dX9_reads_111 (by decide) ?_
                    refine zr_goto X (tgt := 116) dX9_reads_112 (by decide) ?_
                    exact zret_z E rfl (Or.inr rfl) dX9_reads_116 (by unfold dReads; rw [if_neg h1, hm3, eA10]; show _ = (dRd tx n 2 1 A10).1; simp only [dRd_s, dRd_0, if_neg h20, if_neg h22, if_neg h26, if_neg h27, if_neg h31, if_neg h32, eA13, eA16]) (by unfold dReads; rw [if_neg h1, hm3, eA10]; show _ = mW w cy f (upd (upd v 8 (dOr tx n p)) 3 (nI (dRd tx n 2 1 A10).2.1)) s (dRd tx n 2 1 A10).2.2; simp only [dRd_s, dRd_0, if_neg h20, if_neg h22, if_neg h26, if_neg h27, if_neg h31, if_neg h32, eA13, eA16])
    · refine zr_iconst X (v := 0) dX9_reads_40 (by decide) ?_
      exact zret_z E rfl (Or.inl rfl) dX9_reads_41 (by unfold dReads; rw [if_pos h2]) (by unfold dReads; rw [if_pos h2, ← hv3]; exact congrArg (fun z => mW w cy f z s nu) (upd_id9 (upd_ne (by decide))))
  refine zr_aload_n X 0 dX9_reads_0 rfl rfl ?_
  refine zr_aload_n X 0 dX9_reads_1 rfl rfl ?_
  refine zr_bipush X (v := 33) dX9_reads_2 (by decide) ?_
  refine zr_bipush X (v := 126) dX9_reads_4 (by decide) ?_
  refine zr_cV X (As := [.int (33), .int (126)]) (rest := [.ref (w.2 (132))]) (f' := mW w cy f v s nu) (st' := [.int (dAt tx n p 33 126), .ref (w.2 (132))]) zc_X9_isAt (132) (show 132 < w.1 by rw [hw]; omega) mW_132 (q9 := _) rfl rfl (k_isAt hw htx hv2 hn hv3 hp) ⟨Nat.le_of_ble_eq_true rfl, Nat.le_of_ble_eq_true rfl⟩ ⟨Nat.le_refl _, Nat.le_refl _⟩ rfl (Nat.le_of_ble_eq_true rfl) zm_4_196 rfl dX9_reads_6 rfl ?_
  refine zr_if_eq X (tgt := 24) dX9_reads_9 (by decide) (fun h35 => ?_) (fun h36 => ?_)
  · refine zr_iconst X (v := 0) dX9_reads_24 (by decide) ?_
    refine zr_put X zfd_RX9_142 zty_9_13 (132) (show 132 < w.1 by rw [hw]; omega) mW_132 rfl rfl (Nat.le_of_ble_eq_true rfl) eMod_s13 dX9_reads_25 ?_
    refine zcw (f2 := mW w cy f (upd v 8 0) s nu) mu_132 ?_
    exact zjoin (by unfold dOr; rw [if_pos h35]) rfl rfl J28
  · refine zr_aload_n X 0 dX9_reads_12 rfl rfl ?_
    refine zr_get X zfd_RX9_22 (132) (show 132 < w.1 by rw [hw]; omega) mW_132 (v := .ref (w.2 (137))) rfl dX9_reads_13 ?_
    refine zr_aload_n X 0 dX9_reads_16 rfl rfl ?_
    refine zr_get X zfd_RX9_136 (132) (show 132 < w.1 by rw [hw]; omega) mW_132 (v := .int (v 3)) rfl dX9_reads_17 ?_
    refine zr_iald X (137) (show 137 < w.1 by rw [hw]; omega) ((mW_out (by decide) (by decide) (by decide)).trans htx) (p) (hv3) ((Nat.lt_of_lt_of_le (dAt_lt h36 (Nat.lt_of_le_of_lt hp (by omega)) hn) hn)) (by decide) dX9_reads_20 ?_
    refine zr_goto X (tgt := 25) dX9_reads_21 (by decide) ?_
    refine zr_put X zfd_RX9_142 zty_9_13 (132) (show 132 < w.1 by rw [hw]; omega) mW_132 rfl rfl (Nat.le_of_ble_eq_true rfl) eMod_s13 dX9_reads_25 ?_
    refine zcw (f2 := mW w cy f (upd v 8 (tx p)) s nu) mu_132 ?_
    exact zjoin (by unfold dOr; rw [if_neg h36]) rfl rfl J28
