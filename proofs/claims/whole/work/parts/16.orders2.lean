theorem nI_pred' {n : Nat} (h : 0 < n) : nI n - 1 = nI (n - 1) := by
  obtain ⟨k, rfl⟩ : ∃ k, n = k + 1 := ⟨n - 1, by omega⟩
  exact nI_pred k
def qSend (s : zGS) (x n : Int32) : Int32 × zGS := ((hSend s.2 x n).1, s.1, (hSend s.2 x n).2)
def qPay (s : zGS) (m : Int32) : Int32 × zGS := ((hPay s.2 m).1, s.1, (hPay s.2 m).2)
def qBook (s : zGS) (p d n : Int32) : Int32 × zGS := ((hBook (s.2 1).toNatClampNeg s.1 s.2 p d n).1, s.1, (hBook (s.2 1).toNatClampNeg s.1 s.2 p d n).2)
def qOff (s : zGS) (x : Int32) : Int32 × zGS := hOff (s.2 1).toNatClampNeg s.1 s.2 x
def oPerf (c : Int32) (nu : Nat → Int32) (s : zGS) : Int32 × zGS := if c = 103 then qBook s (oNumAt nu 0) (oNumAt nu 1) (oNumAt nu 2) else if c = 112 then qPay s (oNumAt nu 0) else if c = 115 then qSend s (oNumAt nu 0) (oNumAt nu 1) else if c = 120 then qOff s (oNumAt nu 0) else hEnd s (oNumAt nu 0)
theorem hSend_lo {σ : Nat → Int32} {x n : Int32} {i : Nat} (h : i < 5) : (hSend σ x n).2 i = σ i := by
  unfold hSend
  split
  · rfl
  · split
    · unfold hSend2 hSend1
      show upd (upd _ 7 _) 6 _ i = σ i
      rw [upd_ne (by omega), upd_ne (by omega), setR_out (by omega)]
    · rfl
theorem hPay_lo {σ : Nat → Int32} {m : Int32} {i : Nat} (h : i < 5) : (hPay σ m).2 i = σ i := by
  unfold hPay
  split
  · rfl
  · split
    · rfl
    · split
      · show upd (upd (upd σ 5 _) 6 _) 14 _ i = σ i
        rw [upd_ne (by omega), upd_ne (by omega), upd_ne (by omega)]
      · rfl
theorem qSend_ok {mc : Nat} {s : zGS} {x n : Int32} (h : zOk mc s) : zOk mc (qSend s x n).2 := by
  obtain ⟨a, b, c, d, e⟩ := h
  exact ⟨a, (hSend_lo (by decide)).trans b, c, d, (hSend_lo (by decide)).trans e⟩
theorem qPay_ok {mc : Nat} {s : zGS} {m : Int32} (h : zOk mc s) : zOk mc (qPay s m).2 := by
  obtain ⟨a, b, c, d, e⟩ := h
  exact ⟨a, (hPay_lo (by decide)).trans b, c, d, (hPay_lo (by decide)).trans e⟩
theorem hBook1_lo {γ : Nat → Nat} {bk : Nat} {σ : Nat → Int32} {p d n : Int32} : hBook1 γ bk σ p d n 0 = σ 0 ∧ hBook1 γ bk σ p d n 1 = σ 1 + 1 := by
  unfold hBook1
  constructor
  · rw [setR_out (by omega), upd_ne (by decide), upd_ne (by decide)]
  · rw [setR_out (by omega), upd_ne (by decide), upd_eq]
theorem qBook_ok {mc : Nat} {s : zGS} {p d n : Int32} (h : zOk mc s) : zOk mc (qBook s p d n).2 := by
  obtain ⟨a, b, c, d9, e⟩ := h
  have key : zOk mc (s.1, (hBook (s.2 1).toNatClampNeg s.1 s.2 p d n).2) := by
    unfold hBook
    split
    · exact ⟨a, b, c, d9, e⟩
    · split
      · exact ⟨a, b, c, d9, e⟩
      · split
        · exact ⟨a, b, c, d9, e⟩
        · split
          · rename_i h4
            rw [e] at h4
            have hc : c < 10 := (nI_ltI (by omega) (show 10 < 2147483648 by decide)).mp h4
            exact ⟨a, hBook1_lo.1.trans b, c + 1, by omega, by rw [nI_succ, ← e]; exact hBook1_lo.2⟩
          · exact ⟨a, b, c, d9, e⟩
  exact key
theorem hPlace_in {γ : Nat → Nat} {σ : Nat → Int32} {x : Int32} : ∀ m k : Nat, hPlace γ σ x m k = -1 ∨ ∃ j, k ≤ j ∧ j < k + m ∧ hPlace γ σ x m k = nI j
  | 0, k => Or.inl rfl
  | m + 1, k => by
    by_cases h : σ (55 + 6 * γ k + 0) = x
    · exact Or.inr ⟨k, Nat.le_refl _, by omega, by simp only [hPlace, if_pos h]⟩
    · rcases hPlace_in (γ := γ) (σ := σ) (x := x) m (k + 1) with q | ⟨j, q1, q2, q3⟩
      · exact Or.inl (by simp only [hPlace, if_neg h]; exact q)
      · exact Or.inr ⟨j, by omega, by omega, by simp only [hPlace, if_neg h]; exact q3⟩
theorem qOff_ok {mc : Nat} {s : zGS} {x : Int32} (h : zOk mc s) : zOk mc (qOff s x).2 := by
  obtain ⟨a, b, c, d, e⟩ := h
  unfold qOff hOff
  split
  · rename_i h4
    rw [e, nI_clamp (by omega)] at h4 ⊢
    have hc : 0 < c := by
      rcases hPlace_in (γ := s.1) (σ := s.2) (x := x) c 0 with q | ⟨j, q1, q2, q3⟩
      · rw [q] at h4; exact absurd h4 (by decide)
      · omega
    exact ⟨gRem_lt a 9 (Nat.le_refl _), (show upd s.2 1 (nI c - 1) 0 = nI mc from (upd_ne (show 0 ≠ 1 by decide)).trans b), c - 1, by omega, (show upd s.2 1 (nI c - 1) 1 = nI (c - 1) from upd_eq.trans (nI_pred' hc))⟩
  · exact ⟨a, b, c, d, e⟩
theorem hEnd_ok {mc : Nat} {s : zGS} {d : Int32} (hmc : mc ≤ 4) (h : zOk mc s) : zOk mc (hEnd s d).2 := by
  unfold hEnd
  split
  · exact h
  · split
    · exact hDays_ok hmc h _
    · exact h
theorem oPerf_ok {mc : Nat} {c : Int32} {nu : Nat → Int32} {s : zGS} (hmc : mc ≤ 4) (h : zOk mc s) : zOk mc (oPerf c nu s).2 := by
  unfold oPerf
  split
  · exact qBook_ok h
  · split
    · exact qPay_ok h
    · split
      · exact qSend_ok h
      · split
        · exact qOff_ok h
        · exact hEnd_ok hmc h
set_option maxHeartbeats 4000000 in
set_option maxRecDepth 100000 in
theorem k_perform {l : Launch} {D : va_G} {cy : Nat → ClassId} {w : zW} {f : zF} {tx v nu σ : Nat → Int32} {γ : Nat → Nat} {mc bk : Nat} (hw : w.1 = 139) (htx : f 130 = eChars cy 60 tx) (hm : σ 0 = nI mc) (hmc : mc ≤ 4) (hg : σ 1 = nI bk) (hbk : bk ≤ 10) (hγ : ∀ k, k < 10 → γ k < 10) : zSd l D cy yX5_perform cX5_perform 2 (some .int) 4 100 [.ref (w.2 (129)), .ref (w.2 (22))] w (oW w cy (zPut f 22 (zHut w cy 22 γ σ)) v nu) (some (.int ((oPerf (oSign tx (v 0) (v 1)) nu (γ, σ)).1))) (oW w cy (zPut f 22 (zHut w cy 22 (oPerf (oSign tx (v 0) (v 1)) nu (γ, σ)).2.1 (oPerf (oSign tx (v 0) (v 1)) nu (γ, σ)).2.2)) v nu) := by
  refine zSd.intro (by decide) (Nat.le_of_ble_eq_true rfl) (fun G X E => ?_)
  have hbkE : (σ 1).toNatClampNeg = bk := by rw [hg, nI_clamp (by omega)]
  show G (w, 0, 0) (oW w cy (zPut f 22 (zHut w cy 22 γ σ)) v nu) [(0, .ref (w.2 (129))), (1, .ref (w.2 (22)))] 0 []
  refine zr_aload_n X 0 dX5_perform_0 rfl rfl ?_
  refine zr_aload_n X 0 dX5_perform_1 rfl rfl ?_
  refine zr_get X zfd_RX5_24 (129) (show 129 < w.1 by rw [hw]; decide) oW_129 (v := .int (v 1)) rfl dX5_perform_2 ?_
  refine zr_cV X (As := [.int (v 1)]) (rest := []) (f' := oW w cy (zPut f 22 (zHut w cy 22 γ σ)) v nu) (st' := [.int (oSign tx (v 0) (v 1))]) zc_X5_signAt (129) (show 129 < w.1 by rw [hw]; decide) oW_129 (q9 := _) rfl rfl (k_signAt hw ((zPut_out (by decide)).trans htx)) ⟨Nat.le_of_ble_eq_true rfl, Nat.le_of_ble_eq_true rfl⟩ ⟨Nat.le_refl _, Nat.le_refl _⟩ rfl (Nat.le_of_ble_eq_true rfl) zm_3_142 rfl dX5_perform_5 rfl ?_
  by_cases h1 : (oSign tx (v 0) (v 1)) = 103
  · refine zr_lookup X (off := 59) (tgt := 67) dX5_perform_8 (by decide) (by rw [h1]; decide) (by decide) ?_
    refine zr_aload_n X 1 dX5_perform_67 rfl rfl ?_
    refine zr_aload_n X 0 dX5_perform_68 rfl rfl ?_
    refine zr_iconst X (v := 0) dX5_perform_69 (by decide) ?_
    refine zr_cV X (As := [.int (0)]) (rest := [.ref (w.2 (22))]) (f' := oW w cy (zPut f 22 (zHut w cy 22 γ σ)) v nu) (st' := [.int (oNumAt nu 0), .ref (w.2 (22))]) zc_X5_numberAt (129) (show 129 < w.1 by rw [hw]; decide) oW_129 (q9 := _) rfl rfl (k_numberAt hw ((zPut_out (by decide)).trans htx)) ⟨Nat.le_of_ble_eq_true rfl, Nat.le_of_ble_eq_true rfl⟩ ⟨Nat.le_refl _, Nat.le_refl _⟩ rfl (Nat.le_of_ble_eq_true rfl) zm_3_158 rfl dX5_perform_70 rfl ?_
    refine zr_aload_n X 0 dX5_perform_73 rfl rfl ?_
    refine zr_iconst X (v := 1) dX5_perform_74 (by decide) ?_
    refine zr_cV X (As := [.int (1)]) (rest := [.int (oNumAt nu 0), .ref (w.2 (22))]) (f' := oW w cy (zPut f 22 (zHut w cy 22 γ σ)) v nu) (st' := [.int (oNumAt nu 1), .int (oNumAt nu 0), .ref (w.2 (22))]) zc_X5_numberAt (129) (show 129 < w.1 by rw [hw]; decide) oW_129 (q9 := _) rfl rfl (k_numberAt hw ((zPut_out (by decide)).trans htx)) ⟨Nat.le_of_ble_eq_true rfl, Nat.le_of_ble_eq_true rfl⟩ ⟨Nat.le_refl _, Nat.le_refl _⟩ rfl (Nat.le_of_ble_eq_true rfl) zm_3_158 rfl dX5_perform_75 rfl ?_
    refine zr_aload_n X 0 dX5_perform_78 rfl rfl ?_
    refine zr_iconst X (v := 2) dX5_perform_79 (by decide) ?_
    refine zr_cV X (As := [.int (2)]) (rest := [.int (oNumAt nu 1), .int (oNumAt nu 0), .ref (w.2 (22))]) (f' := oW w cy (zPut f 22 (zHut w cy 22 γ σ)) v nu) (st' := [.int (oNumAt nu 2), .int (oNumAt nu 1), .int (oNumAt nu 0), .ref (w.2 (22))]) zc_X5_numberAt (129) (show 129 < w.1 by rw [hw]; decide) oW_129 (q9 := _) rfl rfl (k_numberAt hw ((zPut_out (by decide)).trans htx)) ⟨Nat.le_of_ble_eq_true rfl, Nat.le_of_ble_eq_true rfl⟩ ⟨Nat.le_refl _, Nat.le_refl _⟩ rfl (Nat.le_of_ble_eq_true rfl) zm_3_158 rfl dX5_perform_80 rfl ?_
    refine zr_cV X (As := [.int (oNumAt nu 0), .int (oNumAt nu 1), .int (oNumAt nu 2)]) (rest := []) (f' := zPut (oW w cy (zPut f 22 (zHut w cy 22 γ σ)) v nu) 22 (zHut w cy 22 γ ((hBook bk γ σ (oNumAt nu 0) (oNumAt nu 1) (oNumAt nu 2)).2))) (st' := [.int ((hBook bk γ σ (oNumAt nu 0) (oNumAt nu 1) (oNumAt nu 2)).1)]) zc_X2_bookGroup (22) (show 22 < w.1 by rw [hw]; decide) (pW_hut (o := 0) (by decide)) (q9 := _) rfl rfl (k_bookGroupF (fun o ho => pW_hut ho) (show 22 + 21 ≤ w.1 by rw [hw]; decide) hm hmc hg hbk hγ) ⟨Nat.le_of_ble_eq_true rfl, Nat.le_of_ble_eq_true rfl⟩ ⟨Nat.le_refl _, Nat.le_refl _⟩ rfl (Nat.le_of_ble_eq_true rfl) zm_3_163 rfl dX5_perform_83 rfl ?_
    refine zcw (f2 := oW w cy (zPut f 22 (zHut w cy 22 γ ((hBook bk γ σ (oNumAt nu 0) (oNumAt nu 1) (oNumAt nu 2)).2))) v nu) pu_hut ?_
    exact zret_i E rfl dX5_perform_86 (by simp only [oPerf, qBook, qPay, qSend, qOff, hbkE, if_pos h1]) (by simp only [oPerf, qBook, qPay, qSend, qOff, hbkE, if_pos h1])
  by_cases h2 : (oSign tx (v 0) (v 1)) = 112
  · refine zr_lookup X (off := 89) (tgt := 97) dX5_perform_8 (by decide) (by rw [h2]; decide) (by decide) ?_
    refine zr_aload_n X 1 dX5_perform_97 rfl rfl ?_
    refine zr_aload_n X 0 dX5_perform_98 rfl rfl ?_
    refine zr_iconst X (v := 0) dX5_perform_99 (by decide) ?_
    refine zr_cV X (As := [.int (0)]) (rest := [.ref (w.2 (22))]) (f' := oW w cy (zPut f 22 (zHut w cy 22 γ σ)) v nu) (st' := [.int (oNumAt nu 0), .ref (w.2 (22))]) zc_X5_numberAt (129) (show 129 < w.1 by rw [hw]; decide) oW_129 (q9 := _) rfl rfl (k_numberAt hw ((zPut_out (by decide)).trans htx)) ⟨Nat.le_of_ble_eq_true rfl, Nat.le_of_ble_eq_true rfl⟩ ⟨Nat.le_refl _, Nat.le_refl _⟩ rfl (Nat.le_of_ble_eq_true rfl) zm_3_158 rfl dX5_perform_100 rfl ?_
    refine zr_cV X (As := [.int (oNumAt nu 0)]) (rest := []) (f' := zPut (oW w cy (zPut f 22 (zHut w cy 22 γ σ)) v nu) 22 (zHut w cy 22 γ ((hPay σ (oNumAt nu 0)).2))) (st' := [.int ((hPay σ (oNumAt nu 0)).1)]) zc_X2_payBaker (22) (show 22 < w.1 by rw [hw]; decide) (pW_hut (o := 0) (by decide)) (q9 := _) rfl rfl (k_payBakerF (fun o ho => pW_hut ho) (show 22 + 21 ≤ w.1 by rw [hw]; decide) hm hmc hg hbk hγ) ⟨Nat.le_of_ble_eq_true rfl, Nat.le_of_ble_eq_true rfl⟩ ⟨Nat.le_refl _, Nat.le_refl _⟩ rfl (Nat.le_of_ble_eq_true rfl) zm_3_165 rfl dX5_perform_103 rfl ?_
    refine zcw (f2 := oW w cy (zPut f 22 (zHut w cy 22 γ ((hPay σ (oNumAt nu 0)).2))) v nu) pu_hut ?_
    exact zret_i E rfl dX5_perform_106 (by simp only [oPerf, qBook, qPay, qSend, qOff, hbkE, if_neg h1, if_pos h2]) (by simp only [oPerf, qBook, qPay, qSend, qOff, hbkE, if_neg h1, if_pos h2])
  by_cases h3 : (oSign tx (v 0) (v 1)) = 115
  · refine zr_lookup X (off := 44) (tgt := 52) dX5_perform_8 (by decide) (by rw [h3]; decide) (by decide) ?_
    refine zr_aload_n X 1 dX5_perform_52 rfl rfl ?_
    refine zr_aload_n X 0 dX5_perform_53 rfl rfl ?_
    refine zr_iconst X (v := 0) dX5_perform_54 (by decide) ?_
    refine zr_cV X (As := [.int (0)]) (rest := [.ref (w.2 (22))]) (f' := oW w cy (zPut f 22 (zHut w cy 22 γ σ)) v nu) (st' := [.int (oNumAt nu 0), .ref (w.2 (22))]) zc_X5_numberAt (129) (show 129 < w.1 by rw [hw]; decide) oW_129 (q9 := _) rfl rfl (k_numberAt hw ((zPut_out (by decide)).trans htx)) ⟨Nat.le_of_ble_eq_true rfl, Nat.le_of_ble_eq_true rfl⟩ ⟨Nat.le_refl _, Nat.le_refl _⟩ rfl (Nat.le_of_ble_eq_true rfl) zm_3_158 rfl dX5_perform_55 rfl ?_
    refine zr_aload_n X 0 dX5_perform_58 rfl rfl ?_
    refine zr_iconst X (v := 1) dX5_perform_59 (by decide) ?_
    refine zr_cV X (As := [.int (1)]) (rest := [.int (oNumAt nu 0), .ref (w.2 (22))]) (f' := oW w cy (zPut f 22 (zHut w cy 22 γ σ)) v nu) (st' := [.int (oNumAt nu 1), .int (oNumAt nu 0), .ref (w.2 (22))]) zc_X5_numberAt (129) (show 129 < w.1 by rw [hw]; decide) oW_129 (q9 := _) rfl rfl (k_numberAt hw ((zPut_out (by decide)).trans htx)) ⟨Nat.le_of_ble_eq_true rfl, Nat.le_of_ble_eq_true rfl⟩ ⟨Nat.le_refl _, Nat.le_refl _⟩ rfl (Nat.le_of_ble_eq_true rfl) zm_3_158 rfl dX5_perform_60 rfl ?_
    refine zr_cV X (As := [.int (oNumAt nu 0), .int (oNumAt nu 1)]) (rest := []) (f' := zPut (oW w cy (zPut f 22 (zHut w cy 22 γ σ)) v nu) 22 (zHut w cy 22 γ ((hSend σ (oNumAt nu 0) (oNumAt nu 1)).2))) (st' := [.int ((hSend σ (oNumAt nu 0) (oNumAt nu 1)).1)]) zc_X2_sendMule (22) (show 22 < w.1 by rw [hw]; decide) (pW_hut (o := 0) (by decide)) (q9 := _) rfl rfl (k_sendMuleF (fun o ho => pW_hut ho) (show 22 + 21 ≤ w.1 by rw [hw]; decide) hm hmc hg hbk hγ) ⟨Nat.le_of_ble_eq_true rfl, Nat.le_of_ble_eq_true rfl⟩ ⟨Nat.le_refl _, Nat.le_refl _⟩ rfl (Nat.le_of_ble_eq_true rfl) zm_3_162 rfl dX5_perform_63 rfl ?_
    refine zcw (f2 := oW w cy (zPut f 22 (zHut w cy 22 γ ((hSend σ (oNumAt nu 0) (oNumAt nu 1)).2))) v nu) pu_hut ?_
    exact zret_i E rfl dX5_perform_66 (by simp only [oPerf, qBook, qPay, qSend, qOff, hbkE, if_neg h1, if_neg h2, if_pos h3]) (by simp only [oPerf, qBook, qPay, qSend, qOff, hbkE, if_neg h1, if_neg h2, if_pos h3])
  by_cases h4 : (oSign tx (v 0) (v 1)) = 120
  · refine zr_lookup X (off := 79) (tgt := 87) dX5_perform_8 (by decide) (by rw [h4]; decide) (by decide) ?_
    refine zr_aload_n X 1 dX5_perform_87 rfl rfl ?_
    refine zr_aload_n X 0 dX5_perform_88 rfl rfl ?_
    refine zr_iconst X (v := 0) dX5_perform_89 (by decide) ?_
    refine zr_cV X (As := [.int (0)]) (rest := [.ref (w.2 (22))]) (f' := oW w cy (zPut f 22 (zHut w cy 22 γ σ)) v nu) (st' := [.int (oNumAt nu 0), .ref (w.2 (22))]) zc_X5_numberAt (129) (show 129 < w.1 by rw [hw]; decide) oW_129 (q9 := _) rfl rfl (k_numberAt hw ((zPut_out (by decide)).trans htx)) ⟨Nat.le_of_ble_eq_true rfl, Nat.le_of_ble_eq_true rfl⟩ ⟨Nat.le_refl _, Nat.le_refl _⟩ rfl (Nat.le_of_ble_eq_true rfl) zm_3_158 rfl dX5_perform_90 rfl ?_
    refine zr_cV X (As := [.int (oNumAt nu 0)]) (rest := []) (f' := zPut (oW w cy (zPut f 22 (zHut w cy 22 γ σ)) v nu) 22 (zHut w cy 22 ((hOff bk γ σ (oNumAt nu 0)).2.1) ((hOff bk γ σ (oNumAt nu 0)).2.2))) (st' := [.int ((hOff bk γ σ (oNumAt nu 0)).1)]) zc_X2_callOff (22) (show 22 < w.1 by rw [hw]; decide) (pW_hut (o := 0) (by decide)) (q9 := _) rfl rfl (k_callOffF (fun o ho => pW_hut ho) (show 22 + 21 ≤ w.1 by rw [hw]; decide) hm hmc hg hbk hγ) ⟨Nat.le_of_ble_eq_true rfl, Nat.le_of_ble_eq_true rfl⟩ ⟨Nat.le_refl _, Nat.le_refl _⟩ rfl (Nat.le_of_ble_eq_true rfl) zm_3_164 rfl dX5_perform_93 rfl ?_
    refine zcw (f2 := oW w cy (zPut f 22 (zHut w cy 22 ((hOff bk γ σ (oNumAt nu 0)).2.1) ((hOff bk γ σ (oNumAt nu 0)).2.2))) v nu) pu_hut ?_
    exact zret_i E rfl dX5_perform_96 (by simp only [oPerf, qBook, qPay, qSend, qOff, hbkE, if_neg h1, if_neg h2, if_neg h3, if_pos h4]) (by simp only [oPerf, qBook, qPay, qSend, qOff, hbkE, if_neg h1, if_neg h2, if_neg h3, if_pos h4])
  refine zr_lookup X (off := 99) (tgt := 107) dX5_perform_8 (by decide) (by rw [lv_osw h1 (show (103 : Int32).toInt = 103 from by decide), lv_osw h2 (show (112 : Int32).toInt = 112 from by decide), lv_osw h3 (show (115 : Int32).toInt = 115 from by decide), lv_osw h4 (show (120 : Int32).toInt = 120 from by decide)]; rfl) (by decide) ?_
  refine zr_aload_n X 1 dX5_perform_107 rfl rfl ?_
  refine zr_aload_n X 0 dX5_perform_108 rfl rfl ?_
  refine zr_iconst X (v := 0) dX5_perform_109 (by decide) ?_
  refine zr_cV X (As := [.int (0)]) (rest := [.ref (w.2 (22))]) (f' := oW w cy (zPut f 22 (zHut w cy 22 γ σ)) v nu) (st' := [.int (oNumAt nu 0), .ref (w.2 (22))]) zc_X5_numberAt (129) (show 129 < w.1 by rw [hw]; decide) oW_129 (q9 := _) rfl rfl (k_numberAt hw ((zPut_out (by decide)).trans htx)) ⟨Nat.le_of_ble_eq_true rfl, Nat.le_of_ble_eq_true rfl⟩ ⟨Nat.le_refl _, Nat.le_refl _⟩ rfl (Nat.le_of_ble_eq_true rfl) zm_3_158 rfl dX5_perform_110 rfl ?_
  refine zr_cV X (As := [.int (oNumAt nu 0)]) (rest := []) (f' := zPut (oW w cy (zPut f 22 (zHut w cy 22 γ σ)) v nu) 22 (zHut w cy 22 ((hEnd (γ, σ) (oNumAt nu 0)).2.1) ((hEnd (γ, σ) (oNumAt nu 0)).2.2))) (st' := [.int ((hEnd (γ, σ) (oNumAt nu 0)).1)]) zc_X2_endDays (22) (show 22 < w.1 by rw [hw]; decide) (pW_hut (o := 0) (by decide)) (q9 := _) rfl rfl (k_endDaysF (fun o ho => pW_hut ho) (show 22 + 21 ≤ w.1 by rw [hw]; decide) hm hmc hg hbk hγ) ⟨Nat.le_of_ble_eq_true rfl, Nat.le_of_ble_eq_true rfl⟩ ⟨Nat.le_refl _, Nat.le_refl _⟩ rfl (Nat.le_of_ble_eq_true rfl) zm_3_166 rfl dX5_perform_113 rfl ?_
  refine zcw (f2 := oW w cy (zPut f 22 (zHut w cy 22 ((hEnd (γ, σ) (oNumAt nu 0)).2.1) ((hEnd (γ, σ) (oNumAt nu 0)).2.2))) v nu) pu_hut ?_
  exact zret_i E rfl dX5_perform_116 (by simp only [oPerf, qBook, qPay, qSend, qOff, hbkE, if_neg h1, if_neg h2, if_neg h3, if_neg h4]) (by simp only [oPerf, qBook, qPay, qSend, qOff, hbkE, if_neg h1, if_neg h2, if_neg h3, if_neg h4])
/-- the orders' own numbers: length, start, at, reason, cause -/
def ov (l s a r c : Int32) : Nat → Int32
  | 0 => l
  | 1 => s
  | 2 => a
  | 3 => r
  | 4 => c
  | _ + 5 => 0
section OV
variable {l s a r c x : Int32}
theorem ov0 : upd (ov l s a r c) 0 x = ov x s a r c := funext fun i => by match i with | 0 => rfl | 1 => rfl | 2 => rfl | 3 => rfl | 4 => rfl | _ + 5 => exact upd_ne (by omega)
theorem ov1 : upd (ov l s a r c) 1 x = ov l x a r c := funext fun i => by match i with | 0 => rfl | 1 => rfl | 2 => rfl | 3 => rfl | 4 => rfl | _ + 5 => exact upd_ne (by omega)
theorem ov2 : upd (ov l s a r c) 2 x = ov l s x r c := funext fun i => by match i with | 0 => rfl | 1 => rfl | 2 => rfl | 3 => rfl | 4 => rfl | _ + 5 => exact upd_ne (by omega)
theorem ov3 : upd (ov l s a r c) 3 x = ov l s a x c := funext fun i => by match i with | 0 => rfl | 1 => rfl | 2 => rfl | 3 => rfl | 4 => rfl | _ + 5 => exact upd_ne (by omega)
theorem ov4 : upd (ov l s a r c) 4 x = ov l s a r x := funext fun i => by match i with | 0 => rfl | 1 => rfl | 2 => rfl | 3 => rfl | 4 => rfl | _ + 5 => exact upd_ne (by omega)
end OV
def oReh (tx : Nat → Int32) (n : Int32) : Nat → Nat → Int32 → Int32 → (Nat → Int32) → zGS → Int32 × Int32 × Int32 × Int32 × Int32 × (Nat → Int32) × zGS
  | 0, k, p, a, nu, s => (nI k, p, a, 0, 0, nu, s)
  | m + 1, k, p, a, nu, s => if n ≤ p then (nI k, p, a, 0, 0, nu, s) else if (oRead tx n p nu).1 = 0 then (nI k, p, (oRead tx n p nu).2.1, 1, (oRead tx n p nu).2.1 - p, (oRead tx n p nu).2.2, s) else if 0 ≤ (oPerf (oSign tx n p) (oRead tx n p nu).2.2 s).1 then oReh tx n m (k + 1) (oRead tx n p nu).2.1 (oRead tx n p nu).2.1 (oRead tx n p nu).2.2 (oPerf (oSign tx n p) (oRead tx n p nu).2.2 s).2 else (nI k, p, (oRead tx n p nu).2.1, 2, (oPerf (oSign tx n p) (oRead tx n p nu).2.2 s).1, (oRead tx n p nu).2.2, (oPerf (oSign tx n p) (oRead tx n p nu).2.2 s).2)
set_option maxHeartbeats 4000000 in
set_option maxRecDepth 100000 in
theorem k_rehearse {l : Launch} {D : va_G} {cy : Nat → ClassId} {w : zW} {f : zF} {tx nu : Nat → Int32} {l0 p0 a r0 c0 : Int32} {s0 : zGS} {mc : Nat} (hw : w.1 = 139) (htx : f 130 = eChars cy 60 tx) (hmc : mc ≤ 4) (ok0 : zOk mc s0) : zSd l D cy yX5_rehearse cX5_rehearse 5 (some .int) 5 121 [.ref (w.2 (129)), .ref (w.2 (22))] w (oW w cy (zPut f 22 (zHut w cy 22 s0.1 s0.2)) (ov l0 p0 a r0 c0) nu) (some (.int ((oReh tx l0 60 0 0 a nu s0).1))) (oW w cy (zPut f 22 (zHut w cy 22 (oReh tx l0 60 0 0 a nu s0).2.2.2.2.2.2.1 (oReh tx l0 60 0 0 a nu s0).2.2.2.2.2.2.2)) (ov l0 (oReh tx l0 60 0 0 a nu s0).2.1 (oReh tx l0 60 0 0 a nu s0).2.2.1 (oReh tx l0 60 0 0 a nu s0).2.2.2.1 (oReh tx l0 60 0 0 a nu s0).2.2.2.2.1) (oReh tx l0 60 0 0 a nu s0).2.2.2.2.2.1) := by
  refine zSd.intro (by decide) (Nat.le_of_ble_eq_true rfl) (fun G X E => ?_)
  obtain ⟨RES, eR⟩ : ∃ z, oReh tx l0 60 0 0 a nu s0 = z := ⟨_, rfl⟩
  show G (w, 0, 0) (oW w cy (zPut f 22 (zHut w cy 22 s0.1 s0.2)) (ov l0 p0 a r0 c0) nu) [(0, .ref (w.2 (129))), (1, .ref (w.2 (22)))] 0 []
  refine zr_iconst X (v := 0) dX5_rehearse_0 (by decide) ?_
  refine zr_istore_n X (ls' := [(2, .int (0)), (0, .ref (w.2 (129))), (1, .ref (w.2 (22)))]) dX5_rehearse_1 rfl (by decide) rfl ?_
  refine zr_aload_n X 1 dX5_rehearse_2 rfl rfl ?_
  refine zr_iconst X (v := 0) dX5_rehearse_3 (by decide) ?_
  refine zr_put X zfd_RX5_24 zty_5_3 (129) (show 129 < w.1 by rw [hw]; decide) oW_129 rfl rfl (Nat.le_of_ble_eq_true rfl) (eOrd_set _ _ _ 1 (by decide)) dX5_rehearse_4 ?_
  refine zcw (f2 := oW w cy (zPut f 22 (zHut w cy 22 s0.1 s0.2)) (ov l0 0 a r0 c0) nu) (ou_129.trans (by rw [ov1])) ?_
  refine zr_aload_n X 1 dX5_rehearse_7 rfl rfl ?_
  refine zr_iconst X (v := 0) dX5_rehearse_8 (by decide) ?_
  refine zr_put X zfd_RX5_27 zty_5_5 (129) (show 129 < w.1 by rw [hw]; decide) oW_129 rfl rfl (Nat.le_of_ble_eq_true rfl) (eOrd_set _ _ _ 3 (by decide)) dX5_rehearse_9 ?_
  refine zcw (f2 := oW w cy (zPut f 22 (zHut w cy 22 s0.1 s0.2)) (ov l0 0 a 0 c0) nu) (ou_129.trans (by rw [ov3])) ?_
  refine zr_aload_n X 1 dX5_rehearse_12 rfl rfl ?_
  refine zr_iconst X (v := 0) dX5_rehearse_13 (by decide) ?_
  refine zr_put X zfd_RX5_30 zty_5_6 (129) (show 129 < w.1 by rw [hw]; decide) oW_129 rfl rfl (Nat.le_of_ble_eq_true rfl) (eOrd_set _ _ _ 4 (by decide)) dX5_rehearse_14 ?_
  refine zcw (f2 := oW w cy (zPut f 22 (zHut w cy 22 s0.1 s0.2)) (ov l0 0 a 0 0) nu) (ou_129.trans (by rw [ov4])) ?_
  refine zr_iconst X (v := 0) dX5_rehearse_17 (by decide) ?_
  refine zr_istore_n X (ls' := [(3, .int (0)), (2, .int (0)), (0, .ref (w.2 (129))), (1, .ref (w.2 (22)))]) dX5_rehearse_18 rfl (by decide) rfl ?_
  refine zr_loc X (ls' := [(0, .ref (w.2 (129))), (1, .ref (w.2 (22))), (2, .int (0)), (3, .int (0))]) [2, 3, 1, 0] rfl ?_
  refine zcast (f2 := oW w cy (zPut f 22 (zHut w cy 22 s0.1 s0.2)) (ov l0 0 a 0 0) nu) (ls2 := [(0, .ref (w.2 (129))), (1, .ref (w.2 (22))), (2, .int (nI (0))), (3, .int (nI (0)))]) rfl rfl ?_
  refine zdown (P := fun n => ∀ (p a : Int32) (nv : Nat → Int32) (s : zGS), oReh tx l0 (60 - (n)) (n) p a nv s = RES → zOk mc s → G (w, 0, 0) (oW w cy (zPut f 22 (zHut w cy 22 s.1 s.2)) (ov l0 p a 0 0) nv) [(0, .ref (w.2 (129))), (1, .ref (w.2 (22))), (2, .int (nI (n))), (3, .int (nI (n)))] 19 []) (B := 60) ?_ (fun n hn19 ih19 => ?_) 0 (Nat.zero_le _) _ _ _ _ eR ok0
  · show ∀ (p a : Int32) (nv : Nat → Int32) (s : zGS), oReh tx l0 (60 - (60)) (60) p a nv s = RES → zOk mc s → G (w, 0, 0) (oW w cy (zPut f 22 (zHut w cy 22 s.1 s.2)) (ov l0 p a 0 0) nv) [(0, .ref (w.2 (129))), (1, .ref (w.2 (22))), (2, .int (nI (60))), (3, .int (nI (60)))] 19 []
    intro p a nv s q ok
    rw [Nat.sub_self] at q
    refine zr_iload_n X 3 dX5_rehearse_19 rfl rfl ?_
    refine zr_bipush X (v := 60) dX5_rehearse_20 (by decide) ?_
    refine zr_icmp_ge X (tgt := 105) dX5_rehearse_22 (by decide) (fun _ => ?_) (fun h => False.elim (h (by decide)))
    refine zr_iload_n X 2 dX5_rehearse_105 rfl rfl ?_
    exact zret_i E rfl dX5_rehearse_106 (by rw [eR, ← q]; simp only [oReh]) (by rw [eR, ← q]; simp only [oReh])
  · show ∀ (p a : Int32) (nv : Nat → Int32) (s : zGS), oReh tx l0 (60 - (n)) (n) p a nv s = RES → zOk mc s → G (w, 0, 0) (oW w cy (zPut f 22 (zHut w cy 22 s.1 s.2)) (ov l0 p a 0 0) nv) [(0, .ref (w.2 (129))), (1, .ref (w.2 (22))), (2, .int (nI (n))), (3, .int (nI (n)))] 19 []
    intro p a nv s q ok
    have ok9 := ok
    rw [show 60 - n = (60 - (n + 1)) + 1 by omega] at q
    refine zr_iload_n X 3 dX5_rehearse_19 rfl rfl ?_
    refine zr_bipush X (v := 60) dX5_rehearse_20 (by decide) ?_
    refine zr_icmp_ge X (tgt := 105) dX5_rehearse_22 (by decide) (fun h => False.elim (nI_ge hn19 (by decide) h)) (fun _ => ?_)
    refine zr_aload_n X 0 dX5_rehearse_25 rfl rfl ?_
    refine zr_get X zfd_RX5_24 (129) (show 129 < w.1 by rw [hw]; decide) oW_129 (v := .int (p)) rfl dX5_rehearse_26 ?_
    refine zr_aload_n X 0 dX5_rehearse_29 rfl rfl ?_
    refine zr_get X zfd_RX5_19 (129) (show 129 < w.1 by rw [hw]; decide) oW_129 (v := .int (l0)) rfl dX5_rehearse_30 ?_
    refine zr_icmp_ge X (tgt := 105) dX5_rehearse_33 (by decide) (fun h1 => ?_) (fun h2 => ?_)
    · refine zr_iload_n X 2 dX5_rehearse_105 rfl rfl ?_
      exact zret_i E rfl dX5_rehearse_106 (by rw [eR, ← q]; simp only [if_pos h1, oReh]) (by rw [eR, ← q]; simp only [if_pos h1, oReh])
    · refine zr_aload_n X 0 dX5_rehearse_36 rfl rfl ?_
      refine zr_cV X (As := []) (rest := []) (f' := oW w cy (zPut f 22 (zHut w cy 22 s.1 s.2)) (upd (ov l0 p a 0 0) 2 (oRead tx l0 p nv).2.1) (oRead tx l0 p nv).2.2) (st' := [.int ((oRead tx l0 p nv).1)]) zc_X5_readOrder (129) (show 129 < w.1 by rw [hw]; decide) oW_129 (q9 := _) rfl rfl (k_readOrder (v := (ov l0 p a 0 0)) hw ((zPut_out (by decide)).trans htx)) ⟨Nat.le_of_ble_eq_true rfl, Nat.le_of_ble_eq_true rfl⟩ ⟨Nat.le_refl _, Nat.le_refl _⟩ rfl (Nat.le_of_ble_eq_true rfl) zm_3_138 rfl dX5_rehearse_37 rfl ?_
      refine zcw (f2 := oW w cy (zPut f 22 (zHut w cy 22 s.1 s.2)) (ov l0 p ((oRead tx l0 p nv).2.1) 0 0) ((oRead tx l0 p nv).2.2)) (by rw [ov2]) ?_
      refine zr_if_ne X (tgt := 63) dX5_rehearse_40 (by decide) (fun h3 => ?_) (fun h4 => ?_)
      · refine zr_aload_n X 0 dX5_rehearse_63 rfl rfl ?_
        refine zr_aload_n X 1 dX5_rehearse_64 rfl rfl ?_
        obtain ⟨o1, o2, o3, o4, o5⟩ := ok
        refine zr_cV X (As := [.ref (w.2 (22))]) (rest := []) (f' := oW w cy (zPut f 22 (zHut w cy 22 ((oPerf (oSign tx l0 p) ((oRead tx l0 p nv).2.2) s).2.1) ((oPerf (oSign tx l0 p) ((oRead tx l0 p nv).2.2) s).2.2))) (ov l0 p ((oRead tx l0 p nv).2.1) 0 0) ((oRead tx l0 p nv).2.2)) (st' := [.int ((oPerf (oSign tx l0 p) ((oRead tx l0 p nv).2.2) s).1)]) zc_X5_perform (129) (show 129 < w.1 by rw [hw]; decide) oW_129 (q9 := _) rfl rfl (k_perform (v := (ov l0 p ((oRead tx l0 p nv).2.1) 0 0)) hw htx o2 hmc o5 o4 o1) ⟨Nat.le_of_ble_eq_true rfl, Nat.le_of_ble_eq_true rfl⟩ ⟨Nat.le_refl _, Nat.le_refl _⟩ rfl (Nat.le_of_ble_eq_true rfl) zm_3_154 rfl dX5_rehearse_65 rfl ?_
        refine zr_istore X (ls' := [(4, .int ((oPerf (oSign tx l0 p) ((oRead tx l0 p nv).2.2) s).1)), (0, .ref (w.2 (129))), (1, .ref (w.2 (22))), (2, .int (nI (n))), (3, .int (nI (n)))]) dX5_rehearse_68 (by decide) rfl ?_
        refine zr_iload X 0 dX5_rehearse_70 rfl ?_
        refine zr_if_ge X (tgt := 88) dX5_rehearse_72 (by decide) (fun h5 => ?_) (fun h6 => ?_)
        · refine zr_iinc X (v := nI (n + 1)) (ls' := [(2, .int (nI (n + 1))), (4, .int ((oPerf (oSign tx l0 p) ((oRead tx l0 p nv).2.2) s).1)), (0, .ref (w.2 (129))), (1, .ref (w.2 (22))), (3, .int (nI (n)))]) 3 dX5_rehearse_88 rfl (zinc1 _) (by decide) rfl ?_
          refine zr_aload_n X 2 dX5_rehearse_91 rfl rfl ?_
          refine zr_aload_n X 2 dX5_rehearse_92 rfl rfl ?_
          refine zr_get X zfd_RX5_37 (129) (show 129 < w.1 by rw [hw]; decide) oW_129 (v := .int ((oRead tx l0 p nv).2.1)) rfl dX5_rehearse_93 ?_
          refine zr_put X zfd_RX5_24 zty_5_3 (129) (show 129 < w.1 by rw [hw]; decide) oW_129 rfl rfl (Nat.le_of_ble_eq_true rfl) (eOrd_set _ _ _ 1 (by decide)) dX5_rehearse_96 ?_
          refine zcw (f2 := oW w cy (zPut f 22 (zHut w cy 22 ((oPerf (oSign tx l0 p) ((oRead tx l0 p nv).2.2) s).2.1) ((oPerf (oSign tx l0 p) ((oRead tx l0 p nv).2.2) s).2.2))) (ov l0 ((oRead tx l0 p nv).2.1) ((oRead tx l0 p nv).2.1) 0 0) ((oRead tx l0 p nv).2.2)) (ou_129.trans (by rw [ov1])) ?_
          refine zr_iinc X (v := nI (n + 1)) (ls' := [(3, .int (nI (n + 1))), (2, .int (nI (n + 1))), (4, .int ((oPerf (oSign tx l0 p) ((oRead tx l0 p nv).2.2) s).1)), (0, .ref (w.2 (129))), (1, .ref (w.2 (22)))]) 4 dX5_rehearse_99 rfl (zinc1 _) (by decide) rfl ?_
          refine zr_goto X (tgt := 19) dX5_rehearse_102 (by decide) ?_
          refine zr_loc X (ls' := [(0, .ref (w.2 (129))), (1, .ref (w.2 (22))), (2, .int (nI (n + 1))), (3, .int (nI (n + 1)))]) [3, 4, 1, 0] rfl ?_
          exact zcast (f2 := oW w cy (zPut f 22 (zHut w cy 22 ((oPerf (oSign tx l0 p) ((oRead tx l0 p nv).2.2) s).2.1) ((oPerf (oSign tx l0 p) ((oRead tx l0 p nv).2.2) s).2.2))) (ov l0 ((oRead tx l0 p nv).2.1) ((oRead tx l0 p nv).2.1) 0 0) ((oRead tx l0 p nv).2.2)) (ls2 := [(0, .ref (w.2 (129))), (1, .ref (w.2 (22))), (2, .int (nI (n + 1))), (3, .int (nI (n + 1)))]) rfl rfl (ih19 _ _ _ _ (by rw [← q]; simp only [if_neg h2, if_neg h3, if_pos h5, oReh]) (oPerf_ok hmc ok9))
        · refine zr_aload_n X 1 dX5_rehearse_75 rfl rfl ?_
          refine zr_iconst X (v := 2) dX5_rehearse_76 (by decide) ?_
          refine zr_put X zfd_RX5_27 zty_5_5 (129) (show 129 < w.1 by rw [hw]; decide) oW_129 rfl rfl (Nat.le_of_ble_eq_true rfl) (eOrd_set _ _ _ 3 (by decide)) dX5_rehearse_77 ?_
          refine zcw (f2 := oW w cy (zPut f 22 (zHut w cy 22 ((oPerf (oSign tx l0 p) ((oRead tx l0 p nv).2.2) s).2.1) ((oPerf (oSign tx l0 p) ((oRead tx l0 p nv).2.2) s).2.2))) (ov l0 p ((oRead tx l0 p nv).2.1) 2 0) ((oRead tx l0 p nv).2.2)) (ou_129.trans (by rw [ov3])) ?_
          refine zr_aload_n X 1 dX5_rehearse_80 rfl rfl ?_
          refine zr_iload X 0 dX5_rehearse_81 rfl ?_
          refine zr_put X zfd_RX5_30 zty_5_6 (129) (show 129 < w.1 by rw [hw]; decide) oW_129 rfl rfl (Nat.le_of_ble_eq_true rfl) (eOrd_set _ _ _ 4 (by decide)) dX5_rehearse_83 ?_
          refine zcw (f2 := oW w cy (zPut f 22 (zHut w cy 22 ((oPerf (oSign tx l0 p) ((oRead tx l0 p nv).2.2) s).2.1) ((oPerf (oSign tx l0 p) ((oRead tx l0 p nv).2.2) s).2.2))) (ov l0 p ((oRead tx l0 p nv).2.1) 2 ((oPerf (oSign tx l0 p) ((oRead tx l0 p nv).2.2) s).1)) ((oRead tx l0 p nv).2.2)) (ou_129.trans (by rw [ov4])) ?_
          refine zr_iload_n X 3 dX5_rehearse_86 rfl rfl ?_
          exact zret_i E rfl dX5_rehearse_87 (by rw [eR, ← q]; simp only [if_neg h2, if_neg h3, if_neg h6, oReh]) (by rw [eR, ← q]; simp only [if_neg h2, if_neg h3, if_neg h6, oReh])
      · refine zr_aload_n X 0 dX5_rehearse_43 rfl rfl ?_
        refine zr_iconst X (v := 1) dX5_rehearse_44 (by decide) ?_
        refine zr_put X zfd_RX5_27 zty_5_5 (129) (show 129 < w.1 by rw [hw]; decide) oW_129 rfl rfl (Nat.le_of_ble_eq_true rfl) (eOrd_set _ _ _ 3 (by decide)) dX5_rehearse_45 ?_
        refine zcw (f2 := oW w cy (zPut f 22 (zHut w cy 22 s.1 s.2)) (ov l0 p ((oRead tx l0 p nv).2.1) 1 0) ((oRead tx l0 p nv).2.2)) (ou_129.trans (by rw [ov3])) ?_
        refine zr_aload_n X 0 dX5_rehearse_48 rfl rfl ?_
        refine zr_aload_n X 0 dX5_rehearse_49 rfl rfl ?_
        refine zr_get X zfd_RX5_37 (129) (show 129 < w.1 by rw [hw]; decide) oW_129 (v := .int ((oRead tx l0 p nv).2.1)) rfl dX5_rehearse_50 ?_
        refine zr_aload_n X 0 dX5_rehearse_53 rfl rfl ?_
        refine zr_get X zfd_RX5_24 (129) (show 129 < w.1 by rw [hw]; decide) oW_129 (v := .int (p)) rfl dX5_rehearse_54 ?_
        refine zr_isub X dX5_rehearse_57 ?_
        refine zr_put X zfd_RX5_30 zty_5_6 (129) (show 129 < w.1 by rw [hw]; decide) oW_129 rfl rfl (Nat.le_of_ble_eq_true rfl) (eOrd_set _ _ _ 4 (by decide)) dX5_rehearse_58 ?_
        refine zcw (f2 := oW w cy (zPut f 22 (zHut w cy 22 s.1 s.2)) (ov l0 p ((oRead tx l0 p nv).2.1) 1 (((oRead tx l0 p nv).2.1) - p)) ((oRead tx l0 p nv).2.2)) (ou_129.trans (by rw [ov4])) ?_
        refine zr_iload_n X 2 dX5_rehearse_61 rfl rfl ?_
        exact zret_i E rfl dX5_rehearse_62 (by rw [eR, ← q]; simp only [if_neg h2, if_pos h4, oReh]) (by rw [eR, ← q]; simp only [if_neg h2, if_pos h4, oReh])
def oApp (l x : Int32) : Int32 := if l < 0 then (-1000003) else if l < 60 then l + 1 else (-1000003)
theorem zchar {x : Int32} (h : ¬ x < 32) (h2 : ¬ 126 < x) : (x.toUInt32 % 65536).toInt32 = x ∧ vp_nar .char x = x := by
  have h0 : ¬ x < 0 := by
    intro q
    apply h
    rw [Int32.lt_iff_toInt_lt] at q ⊢
    have e1 : (32 : Int32).toInt = 32 := by decide
    have e2 : (0 : Int32).toInt = 0 := by decide
    omega
  obtain ⟨j, hj, rfl⟩ := nI_of h0
  have h3 : j < 127 := by
    rcases Nat.lt_or_ge j 127 with q | q
    · exact q
    · exact absurd (nI_lt (show 126 < j by omega) hj) h2
  have e : ∀ n, n < 127 → ((nI n).toUInt32 % 65536).toInt32 = nI n ∧ vp_nar .char (nI n) = nI n := by decide +kernel
  exact e j h3
set_option maxHeartbeats 4000000 in
set_option maxRecDepth 100000 in
theorem k_append {l : Launch} {D : va_G} {cy : Nat → ClassId} {w : zW} {f : zF} {tx : Nat → Int32} {l0 p a r c x : Int32} (hw : w.1 = 139) (htx : f 130 = eChars cy 60 tx) (h9 : f 129 = eOrd w (ov l0 p a r c)) : zSd l D cy yX5_append cX5_append 2 (some .int) 0 0 [.ref (w.2 (129)), .int (x)] w f (some (.int (oApp l0 x))) (if l0 < 0 then f else if l0 < 60 then va_up (va_up f 130 (eChars cy 60 (upd tx l0.toNatClampNeg (vp_nar .char x)))) 129 (eOrd w (ov (l0 + 1) p a r c)) else f) := by
  refine zSd.intro (by decide) (Nat.le_of_ble_eq_true rfl) (fun G X E => ?_)
  show G (w, 0, 0) f [(0, .ref (w.2 (129))), (1, .int (x))] 0 []
  refine zr_aload_n X 0 dX5_append_0 rfl rfl ?_
  refine zr_get X zfd_RX5_19 (129) (show 129 < w.1 by rw [hw]; decide) h9 (v := .int (l0)) rfl dX5_append_1 ?_
  refine zr_if_lt X (tgt := 19) dX5_append_4 (by decide) (fun h1 => ?_) (fun h2 => ?_)
  · refine zr_ldc X zm_3_121 dX5_append_19 ?_
    exact zret_i E rfl dX5_append_21 (by simp only [oApp, if_pos h1]) (by simp only [oApp, if_pos h1, ov0])
  · refine zr_aload_n X 0 dX5_append_7 rfl rfl ?_
    refine zr_get X zfd_RX5_19 (129) (show 129 < w.1 by rw [hw]; decide) h9 (v := .int (l0)) rfl dX5_append_8 ?_
    refine zr_aload_n X 0 dX5_append_11 rfl rfl ?_
    refine zr_get X zfd_RX5_9 (129) (show 129 < w.1 by rw [hw]; decide) h9 (v := .ref (w.2 (130))) rfl dX5_append_12 ?_
    refine zr_alen X (130) (show 130 < w.1 by rw [hw]; decide) (b := 1) rfl htx (v := 60) rfl dX5_append_15 ?_
    refine zr_icmp_lt X (tgt := 22) dX5_append_16 (by decide) (fun h3 => ?_) (fun h4 => ?_)
    · refine zr_aload_n X 0 dX5_append_22 rfl rfl ?_
      refine zr_get X zfd_RX5_9 (129) (show 129 < w.1 by rw [hw]; decide) h9 (v := .ref (w.2 (130))) rfl dX5_append_23 ?_
      refine zr_aload_n X 0 dX5_append_26 rfl rfl ?_
      refine zr_get X zfd_RX5_19 (129) (show 129 < w.1 by rw [hw]; decide) h9 (v := .int (l0)) rfl dX5_append_27 ?_
      refine zr_iload_n X 1 dX5_append_30 rfl rfl ?_
      refine zr_cast X (130) (show 130 < w.1 by rw [hw]; decide) htx (l0.toNatClampNeg) (zix1 h2) (zix2 h2 (by decide) (fun q => absurd h3 (Int32.not_lt.mpr q))) (by decide) dX5_append_31 ?_
      refine zr_aload_n X 0 dX5_append_32 rfl rfl ?_
      refine zr_dup X dX5_append_33 rfl ?_
      refine zr_get X zfd_RX5_19 (129) (show 129 < w.1 by rw [hw]; decide) ((va_up_ne _ _ (by decide)).trans h9) (v := .int (l0)) rfl dX5_append_34 ?_
      refine zr_iconst X (v := 1) dX5_append_37 (by decide) ?_
      refine zr_iadd X dX5_append_38 ?_
      refine zr_put X zfd_RX5_19 zty_5_2 (129) (show 129 < w.1 by rw [hw]; decide) ((va_up_ne _ _ (by decide)).trans h9) rfl rfl (Nat.le_of_ble_eq_true rfl) (eOrd_set _ _ _ 0 (by decide)) dX5_append_39 ?_
      refine zr_aload_n X 0 dX5_append_42 rfl rfl ?_
      refine zr_get X zfd_RX5_19 (129) (show 129 < w.1 by rw [hw]; decide) (va_up_self _ _ _) (v := .int (l0 + 1)) rfl dX5_append_43 ?_
      exact zret_i E rfl dX5_append_46 (by simp only [oApp, if_neg h2, if_pos h3]) (by simp only [oApp, if_neg h2, if_pos h3, ov0])
    · refine zr_ldc X zm_3_121 dX5_append_19 ?_
      exact zret_i E rfl dX5_append_21 (by simp only [oApp, if_neg h2, if_neg h4]) (by simp only [oApp, if_neg h2, if_neg h4, ov0])
set_option maxHeartbeats 4000000 in
set_option maxRecDepth 100000 in
theorem k_empty {l : Launch} {D : va_G} {cy : Nat → ClassId} {w : zW} {f : zF} {l0 p a r c : Int32} (hw : w.1 = 139) (h9 : f 129 = eOrd w (ov l0 p a r c)) : zSd l D cy yX5_empty cX5_empty 2 (some .int) 0 0 [.ref (w.2 (129))] w f (some (.int (l0))) (va_up f 129 (eOrd w (ov 0 p a r c))) := by
  refine zSd.intro (by decide) (Nat.le_of_ble_eq_true rfl) (fun G X E => ?_)
  show G (w, 0, 0) f [(0, .ref (w.2 (129)))] 0 []
  refine zr_aload_n X 0 dX5_empty_0 rfl rfl ?_
  refine zr_get X zfd_RX5_19 (129) (show 129 < w.1 by rw [hw]; decide) h9 (v := .int (l0)) rfl dX5_empty_1 ?_
  refine zr_istore_n X (ls' := [(1, .int (l0)), (0, .ref (w.2 (129)))]) dX5_empty_4 rfl (by decide) rfl ?_
  refine zr_aload_n X 1 dX5_empty_5 rfl rfl ?_
  refine zr_iconst X (v := 0) dX5_empty_6 (by decide) ?_
  refine zr_put X zfd_RX5_19 zty_5_2 (129) (show 129 < w.1 by rw [hw]; decide) h9 rfl rfl (Nat.le_of_ble_eq_true rfl) (eOrd_set _ _ _ 0 (by decide)) dX5_empty_7 ?_
  refine zr_iload_n X 0 dX5_empty_10 rfl rfl ?_
  exact zret_i E rfl dX5_empty_11 rfl (by rw [ov0])
