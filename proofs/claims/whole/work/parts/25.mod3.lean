theorem dSt1_ne {s : Nat → Int32} {k i : Nat} (h1 : i ≠ 19 + 9 * k + 4) (h2 : i ≠ 19 + 9 * k + 7) : dSt1 s k i = s i := (upd_ne h2).trans (upd_ne h1)
theorem dSt_ne {s : Nat → Int32} {k i : Nat} (h1 : i ≠ 19 + 9 * k + 4) (h2 : i ≠ 19 + 9 * k + 7) (h3 : i < 115) (h4 : i ≠ 9) (h5 : i ≠ 10) : dSt s k i = s i := by
  unfold dSt
  split
  · rw [upd_ne h5, upd_ne (by omega), dSt1_ne h1 h2]
  · rw [upd_ne h4, dSt1_ne h1 h2]
theorem dHo_ne {s : Nat → Int32} {k i : Nat} (h : i < 19 + 9 * k ∨ 19 + 9 * k + 9 ≤ i) : dHo s k i = s i := by
  unfold dHo
  split
  · rw [upd_ne (by omega), upd_ne (by omega), upd_ne (by omega)]
  · rw [upd_ne (by omega), upd_ne (by omega), upd_ne (by omega)]
theorem dCo_ne {s : Nat → Int32} {k i : Nat} (h : i < 19 + 9 * k ∨ 19 + 9 * k + 9 ≤ i) (h3 : i < 115) (h4 : i ≠ 9) (h5 : i ≠ 10) : dCo s k i = s i := by
  unfold dCo
  split
  · split
    · rw [upd_ne (by omega), upd_ne (by omega), dSt_ne (by omega) (by omega) h3 h4 h5, dC1_ne (by omega)]
    · split
      · rw [dHo_ne h, dC1_ne (by omega)]
      · rw [upd_ne (by omega), upd_ne (by omega), dC1_ne (by omega)]
  · exact dC1_ne (by omega)
def dN0 (s : Nat → Int32) : Nat → Int32 := upd s 4 (((s 4) * 421 + 1663) - ((s 4) * 421 + 1663) / 10000 * 10000)
def dSn (s : Nat → Int32) : Int32 := if (dN0 s) 18 ≤ ((dN0 s) 4 - (dN0 s) 4 / 100 * 100) then 0 else 1
def dN1 (s : Nat → Int32) : Nat → Int32 := upd (dN0 s) 11 ((dN0 s) 11 + dSn s)
def dMuS (sn : Int32) (k : Nat) (t : Nat → Int32) : Nat → Int32 := if t (19 + 9 * k + 2) = 3 then dCo t k else if t (19 + 9 * k + 2) = 0 then t else if sn = 0 then dCo t k else t
def dMu (s : Nat → Int32) (sn : Int32) (n : Nat) : Nat → Int32 := zfold (dMuS sn) s n
theorem dMu_s {s : Nat → Int32} {sn : Int32} {n : Nat} : dMu s sn (n + 1) = dMuS sn n (dMu s sn n) := rfl
theorem dMuS_ne {sn : Int32} {s : Nat → Int32} {k i : Nat} (h : i < 19 + 9 * k ∨ 19 + 9 * k + 9 ≤ i) (h3 : i < 115) (h4 : i ≠ 9) (h5 : i ≠ 10) : dMuS sn k s i = s i := by
  unfold dMuS
  split
  · exact dCo_ne h h3 h4 h5
  · split
    · rfl
    · split
      · exact dCo_ne h h3 h4 h5
      · rfl
theorem dMu_ne {sn : Int32} {s : Nat → Int32} {i : Nat} (h3 : i < 115) (h4 : i ≠ 9) (h5 : i ≠ 10) : ∀ n, (i < 19 ∨ 19 + 9 * n ≤ i) → dMu s sn n i = s i
  | 0, _ => rfl
  | n + 1, h => (dMuS_ne (by omega) h3 h4 h5).trans (dMu_ne h3 h4 h5 n (by omega))
theorem dN1_ne {s : Nat → Int32} {i : Nat} (h : i ≠ 4) (h2 : i ≠ 11) : dN1 s i = s i := (upd_ne h2).trans (upd_ne h)
def dEaS (fr : Nat) (k : Nat) (t : Nat → Int32) : Nat → Int32 := if zwin (t 3 - t (55 + 6 * k + 2)) 0 (t (55 + 6 * k + 3) - 1) = 0 then t else dEat t k fr
def dEa (s : Nat → Int32) (fr n : Nat) : Nat → Int32 := zfold (dEaS fr) s n
theorem dEa_s {s : Nat → Int32} {fr n : Nat} : dEa s fr (n + 1) = dEaS fr n (dEa s fr n) := rfl
theorem dE3_ne {t : Nat → Int32} {k i : Nat} {p h : Int32} (h3 : i ≠ 5) (h4 : i ≠ 12) (h5 : i ≠ 13) (h6 : i ≠ 55 + 6 * k + 4) (h7 : i ≠ 55 + 6 * k + 5) : dE3 t k p h i = t i := by
  unfold dE3
  rw [upd_ne h5, upd_ne h3, upd_ne h4, upd_ne h7, upd_ne h6]
theorem dEat_ne {s : Nat → Int32} {k fr i : Nat} (h1 : i < 115) (h2 : i ≠ 8) (h3 : i ≠ 5) (h4 : i ≠ 12) (h5 : i ≠ 13) (h6 : i ≠ 55 + 6 * k + 4) (h7 : i ≠ 55 + 6 * k + 5) : dEat s k fr i = s i := by
  unfold dEat
  split
  · split
    · rw [dE3_ne h3 h4 h5 h6 h7, dE2_lo h1 h2]
    · rw [dE3_ne h3 h4 h5 h6 h7, dE2_lo h1 h2]
  · rw [dE3_ne h3 h4 h5 h6 h7, dE2_lo h1 h2]
theorem dEaS_ne {s : Nat → Int32} {k fr i : Nat} (h1 : i < 115) (h2 : i ≠ 8) (h3 : i ≠ 5) (h4 : i ≠ 12) (h5 : i ≠ 13) (h6 : i ≠ 55 + 6 * k + 4) (h7 : i ≠ 55 + 6 * k + 5) : dEaS fr k s i = s i := by
  unfold dEaS
  split
  · rfl
  · exact dEat_ne h1 h2 h3 h4 h5 h6 h7
theorem dEa_lo {s : Nat → Int32} {fr i : Nat} (h1 : i < 55) (h2 : i ≠ 8) (h3 : i ≠ 5) (h4 : i ≠ 12) (h5 : i ≠ 13) : ∀ n, dEa s fr n i = s i
  | 0 => rfl
  | n + 1 => (dEaS_ne (by omega) h2 h3 h4 h5 (by omega) (by omega)).trans (dEa_lo h1 h2 h3 h4 h5 n)
def dThr (t : Nat → Int32) : Nat → Int32 := upd t 9 (t 9 + t 135)
def dShS (k : Nat) (u : Nat → Int32) : Nat → Int32 := upd u (115 + (20 - k)) (u (115 + (20 - k - 1)))
def dSh (t : Nat → Int32) (n : Nat) : Nat → Int32 := zfold dShS t n
theorem dSh_s {t : Nat → Int32} {n : Nat} : dSh t (n + 1) = dShS n (dSh t n) := rfl
theorem dSh_lo {t : Nat → Int32} {i : Nat} (h : i < 115) : ∀ n, dSh t n i = t i
  | 0 => rfl
  | n + 1 => (upd_ne (by omega)).trans (dSh_lo h n)
def dSft (t : Nat → Int32) : Nat → Int32 := upd (dSh (dThr t) 20) 115 0
theorem dSft_lo {t : Nat → Int32} {i : Nat} (h : i < 115) (h2 : i ≠ 9) : dSft t i = t i := (upd_ne (by omega)).trans ((dSh_lo h 20).trans (upd_ne h2))
def dGz : Nat → Nat → (Nat → Int32) → Nat → Int32
  | 0, _, s => s
  | m + 1, b, s => if s (55 + 6 * m + 2) + s (55 + 6 * m + 3) - 1 = s 3 then dGz m (b - 1) (dGo s m (b - 1)) else dGz m b s
theorem dGz_s {m b : Nat} {s : Nat → Int32} : dGz (m + 1) b s = if s (55 + 6 * m + 2) + s (55 + 6 * m + 3) - 1 = s 3 then dGz m (b - 1) (dGo s m (b - 1)) else dGz m b s := rfl
def dA1 (s : Nat → Int32) (mc : Nat) : Nat → Int32 := dMu (dN1 s) (dSn s) mc
def dA2 (s : Nat → Int32) (mc bk fr : Nat) : Nat → Int32 := dEa (dA1 s mc) fr bk
def dA3 (s : Nat → Int32) (mc bk fr : Nat) : Nat → Int32 := dSft (dA2 s mc bk fr)
def dA4 (s : Nat → Int32) (mc bk fr : Nat) : Nat → Int32 := dGz bk bk (dA3 s mc bk fr)
def dEnds (s : Nat → Int32) (mc bk fr : Nat) : Nat → Int32 := upd (dA4 s mc bk fr) 3 ((dA4 s mc bk fr) 3 + 1)
theorem zpr_dn {g n : Nat} (h : n < g) : zpr (g - n) = nI (g - (n + 1)) := by
  rw [show g - n = (g - (n + 1)) + 1 by omega]
  rfl
theorem zi_sh {c q : Nat} (h : 1 ≤ q) : nI c + nI q - 1 = nI (c + (q - 1)) := by
  rw [nI_add, show c + q = (c + (q - 1)) + 1 by omega]
  exact nI_pred _
theorem dA1_lo {s : Nat → Int32} {mc i : Nat} (h : i < 19) (h1 : i ≠ 4) (h2 : i ≠ 9) (h3 : i ≠ 10) (h4 : i ≠ 11) : dA1 s mc i = s i := (dMu_ne (by omega) h2 h3 _ (.inl h)).trans (dN1_ne h1 h4)
theorem dA2_lo {s : Nat → Int32} {mc bk fr i : Nat} (h : i < 19) (h1 : i ≠ 4) (h2 : i ≠ 9) (h3 : i ≠ 10) (h4 : i ≠ 11) (h5 : i ≠ 5) (h6 : i ≠ 8) (h7 : i ≠ 12) (h8 : i ≠ 13) : dA2 s mc bk fr i = s i := (dEa_lo (by omega) h6 h5 h7 h8 _).trans (dA1_lo h h1 h2 h3 h4)
theorem dA3_lo {s : Nat → Int32} {mc bk fr i : Nat} (h : i < 19) (h1 : i ≠ 4) (h2 : i ≠ 9) (h3 : i ≠ 10) (h4 : i ≠ 11) (h5 : i ≠ 5) (h6 : i ≠ 8) (h7 : i ≠ 12) (h8 : i ≠ 13) : dA3 s mc bk fr i = s i := (dSft_lo (by omega) h2).trans (dA2_lo h h1 h2 h3 h4 h5 h6 h7 h8)
set_option maxHeartbeats 4000000 in
set_option maxRecDepth 100000 in
theorem k_ends {l : Launch} {D : va_G} {cy : Nat → ClassId} {w : zW} {f : zF} {v s nu : Nat → Int32} {mc bk fr : Nat} (hw : w.1 = 139) (hm : s 0 = nI mc) (hmc : mc ≤ 4) (hg : s 1 = nI bk) (hbk : bk ≤ 10) (hf : s 17 = nI fr) (hfr : fr ≤ 15) (hW : ∀ m, m < mc → s (19 + 9 * m + 2) = 1 → ¬ (s 3 - s (19 + 9 * m + 5)) < 0) : zSd l D cy yX9_ends cX9_ends 4 none 4 90 [.ref (w.2 (132))] w (mW w cy f v s nu) none (mW w cy f v (dEnds s mc bk fr) nu) := by
  refine zSd.intro (by decide) (Nat.le_of_ble_eq_true rfl) (fun G X E => ?_)
  show G (w, 0, 0) (mW w cy f v s nu) [(0, .ref (w.2 (132)))] 0 []
  refine zr_aload_n X 0 dX9_ends_0 rfl rfl ?_
  refine zr_get X zfd_RX9_7 (132) (show 132 < w.1 by rw [hw]; omega) mW_132 (v := .ref (w.2 (133))) rfl dX9_ends_1 ?_
  refine zr_iconst X (v := 4) dX9_ends_4 (by decide) ?_
  refine zr_aload_n X 0 dX9_ends_5 rfl rfl ?_
  refine zr_get X zfd_RX9_7 (132) (show 132 < w.1 by rw [hw]; omega) mW_132 (v := .ref (w.2 (133))) rfl dX9_ends_6 ?_
  refine zr_iconst X (v := 4) dX9_ends_9 (by decide) ?_
  refine zr_iald X (133) (show 133 < w.1 by rw [hw]; omega) mW_133 (4) (rfl) (by decide) (by decide) dX9_ends_10 ?_
  refine zr_sipush X (v := 421) dX9_ends_11 (by decide) ?_
  refine zr_imul X dX9_ends_14 ?_
  refine zr_sipush X (v := 1663) dX9_ends_15 (by decide) ?_
  refine zr_iadd X dX9_ends_18 ?_
  refine zr_sipush X (v := 10000) dX9_ends_19 (by decide) ?_
  refine zr_irem X dX9_ends_22 (by decide) ?_
  refine zr_iast X (133) (show 133 < w.1 by rw [hw]; omega) mW_133 (4) (rfl) (by decide) (by decide) dX9_ends_23 ?_
  refine zcw (f2 := mW w cy f v (dN0 s) nu) (mu_133.trans rfl) ?_
  refine zr_aload_n X 0 dX9_ends_24 rfl rfl ?_
  refine zr_get X zfd_RX9_7 (132) (show 132 < w.1 by rw [hw]; omega) mW_132 (v := .ref (w.2 (133))) rfl dX9_ends_25 ?_
  refine zr_iconst X (v := 4) dX9_ends_28 (by decide) ?_
  refine zr_iald X (133) (show 133 < w.1 by rw [hw]; omega) mW_133 (4) (rfl) (by decide) (by decide) dX9_ends_29 ?_
  refine zr_bipush X (v := 100) dX9_ends_30 (by decide) ?_
  refine zr_irem X dX9_ends_32 (by decide) ?_
  refine zr_aload_n X 0 dX9_ends_33 rfl rfl ?_
  refine zr_get X zfd_RX9_7 (132) (show 132 < w.1 by rw [hw]; omega) mW_132 (v := .ref (w.2 (133))) rfl dX9_ends_34 ?_
  refine zr_bipush X (v := 18) dX9_ends_37 (by decide) ?_
  refine zr_iald X (133) (show 133 < w.1 by rw [hw]; omega) mW_133 (18) (rfl) (by decide) (by decide) dX9_ends_39 ?_
  have J68 : G (w, 0, 0) (mW w cy f v (dN1 s) nu) [(0, .ref (w.2 (132))), (1, .int (dSn s))] 68 [] := by
    refine zr_iconst X (v := 0) dX9_ends_68 (by decide) ?_
    refine zr_istore_n X (ls' := [(2, .int (0)), (0, .ref (w.2 (132))), (1, .int (dSn s))]) dX9_ends_69 rfl (by decide) rfl ?_
    refine zr_loc X (ls' := [(0, .ref (w.2 (132))), (1, .int (dSn s)), (2, .int (0))]) [1, 2, 0] rfl ?_
    refine zcast (f2 := mW w cy f v (dMu (dN1 s) (dSn s) (0)) nu) (ls2 := [(0, .ref (w.2 (132))), (1, .int (dSn s)), (2, .int (nI (0)))]) rfl rfl ?_
    refine zdown (P := fun n => G (w, 0, 0) (mW w cy f v (dMu (dN1 s) (dSn s) (n)) nu) [(0, .ref (w.2 (132))), (1, .int (dSn s)), (2, .int (nI (n)))] 70 []) (B := mc) ?_ (fun n hn70 ih70 => ?_) 0 (Nat.zero_le _) 
    · show G (w, 0, 0) (mW w cy f v (dMu (dN1 s) (dSn s) (mc)) nu) [(0, .ref (w.2 (132))), (1, .int (dSn s)), (2, .int (nI (mc)))] 70 []
      refine zr_iload_n X 2 dX9_ends_70 rfl rfl ?_
      refine zr_aload_n X 0 dX9_ends_71 rfl rfl ?_
      refine zr_get X zfd_RX9_7 (132) (show 132 < w.1 by rw [hw]; omega) mW_132 (v := .ref (w.2 (133))) rfl dX9_ends_72 ?_
      refine zr_iconst X (v := 0) dX9_ends_75 (by decide) ?_
      refine zr_iald X (133) (show 133 < w.1 by rw [hw]; omega) mW_133 (0) (rfl) (by decide) (by decide) dX9_ends_76 ?_
      refine zr_icmp_ge X (tgt := 111) dX9_ends_77 (by decide) (fun _ => ?_) (fun h => False.elim (h (by rw [dMu_ne (by decide) (by decide) (by decide) mc (.inl (by decide)), dN1_ne (by decide) (by decide), hm]; exact Int32.le_refl _)))
      refine zr_iconst X (v := 0) dX9_ends_111 (by decide) ?_
      refine zr_istore_n X (ls' := [(2, .int (0)), (0, .ref (w.2 (132))), (1, .int (dSn s))]) dX9_ends_112 rfl (by decide) rfl ?_
      refine zr_loc X (ls' := [(0, .ref (w.2 (132))), (2, .int (0))]) [1, 0] rfl ?_
      refine zcast (f2 := mW w cy f v (dEa (dA1 s mc) fr (0)) nu) (ls2 := [(0, .ref (w.2 (132))), (2, .int (nI (0)))]) rfl rfl ?_
      refine zdown (P := fun n => G (w, 0, 0) (mW w cy f v (dEa (dA1 s mc) fr (n)) nu) [(0, .ref (w.2 (132))), (2, .int (nI (n)))] 113 []) (B := bk) ?_ (fun n hn113 ih113 => ?_) 0 (Nat.zero_le _) 
      · show G (w, 0, 0) (mW w cy f v (dEa (dA1 s mc) fr (bk)) nu) [(0, .ref (w.2 (132))), (2, .int (nI (bk)))] 113 []
        refine zr_iload_n X 1 dX9_ends_113 rfl rfl ?_
        refine zr_aload_n X 0 dX9_ends_114 rfl rfl ?_
        refine zr_get X zfd_RX9_7 (132) (show 132 < w.1 by rw [hw]; omega) mW_132 (v := .ref (w.2 (133))) rfl dX9_ends_115 ?_
        refine zr_iconst X (v := 1) dX9_ends_118 (by decide) ?_
        refine zr_iald X (133) (show 133 < w.1 by rw [hw]; omega) mW_133 (1) (rfl) (by decide) (by decide) dX9_ends_119 ?_
        refine zr_icmp_ge X (tgt := 148) dX9_ends_120 (by decide) (fun _ => ?_) (fun h => False.elim (h (by rw [dEa_lo (by decide) (by decide) (by decide) (by decide) (by decide) bk, dA1_lo (by decide) (by decide) (by decide) (by decide) (by decide), hg]; exact Int32.le_refl _)))
        refine zr_aload_n X 0 dX9_ends_148 rfl rfl ?_
        refine zr_get X zfd_RX9_7 (132) (show 132 < w.1 by rw [hw]; omega) mW_132 (v := .ref (w.2 (133))) rfl dX9_ends_149 ?_
        refine zr_bipush X (v := 9) dX9_ends_152 (by decide) ?_
        refine zr_dup2 X dX9_ends_154 rfl rfl ?_
        refine zr_iald X (133) (show 133 < w.1 by rw [hw]; omega) mW_133 (9) (rfl) (by decide) (by decide) dX9_ends_155 ?_
        refine zr_aload_n X 0 dX9_ends_156 rfl rfl ?_
        refine zr_get X zfd_RX9_7 (132) (show 132 < w.1 by rw [hw]; omega) mW_132 (v := .ref (w.2 (133))) rfl dX9_ends_157 ?_
        refine zr_sipush X (v := 135) dX9_ends_160 (by decide) ?_
        refine zr_iald X (133) (show 133 < w.1 by rw [hw]; omega) mW_133 (135) (rfl) (by decide) (by decide) dX9_ends_163 ?_
        refine zr_iadd X dX9_ends_164 ?_
        refine zr_iast X (133) (show 133 < w.1 by rw [hw]; omega) mW_133 (9) (rfl) (by decide) (by decide) dX9_ends_165 ?_
        refine zcw (f2 := mW w cy f v (dThr (dA2 s mc bk fr)) nu) (mu_133.trans rfl) ?_
        refine zr_bipush X (v := 20) dX9_ends_166 (by decide) ?_
        refine zr_istore_n X (ls' := [(2, .int (20)), (0, .ref (w.2 (132)))]) dX9_ends_168 rfl (by decide) rfl ?_
        refine zr_loc X (ls' := [(0, .ref (w.2 (132))), (2, .int (20))]) [1, 0] rfl ?_
        refine zcast (f2 := mW w cy f v (dSh (dThr (dA2 s mc bk fr)) (0)) nu) (ls2 := [(0, .ref (w.2 (132))), (2, .int (nI (20 - (0))))]) rfl rfl ?_
        refine zdown (P := fun n => G (w, 0, 0) (mW w cy f v (dSh (dThr (dA2 s mc bk fr)) (n)) nu) [(0, .ref (w.2 (132))), (2, .int (nI (20 - (n))))] 169 []) (B := 20) ?_ (fun n hn169 ih169 => ?_) 0 (Nat.zero_le _) 
        · show G (w, 0, 0) (mW w cy f v (dSh (dThr (dA2 s mc bk fr)) (20)) nu) [(0, .ref (w.2 (132))), (2, .int (nI (20 - (20))))] 169 []
          refine zr_iload_n X 1 dX9_ends_169 rfl rfl ?_
          refine zr_if_le X (tgt := 199) dX9_ends_170 (by decide) (fun _ => ?_) (fun h => False.elim (h (by decide)))
          refine zr_aload_n X 0 dX9_ends_199 rfl rfl ?_
          refine zr_get X zfd_RX9_7 (132) (show 132 < w.1 by rw [hw]; omega) mW_132 (v := .ref (w.2 (133))) rfl dX9_ends_200 ?_
          refine zr_bipush X (v := 115) dX9_ends_203 (by decide) ?_
          refine zr_iconst X (v := 0) dX9_ends_205 (by decide) ?_
          refine zr_iast X (133) (show 133 < w.1 by rw [hw]; omega) mW_133 (115) (rfl) (by decide) (by decide) dX9_ends_206 ?_
          refine zcw (f2 := mW w cy f v (dA3 s mc bk fr) nu) (mu_133.trans rfl) ?_
          refine zr_aload_n X 0 dX9_ends_207 rfl rfl ?_
          refine zr_get X zfd_RX9_7 (132) (show 132 < w.1 by rw [hw]; omega) mW_132 (v := .ref (w.2 (133))) rfl dX9_ends_208 ?_
          refine zr_iconst X (v := 1) dX9_ends_211 (by decide) ?_
          refine zr_iald X (133) (show 133 < w.1 by rw [hw]; omega) mW_133 (1) (rfl) (by decide) (by decide) dX9_ends_212 ?_
          refine zr_iconst X (v := 1) dX9_ends_213 (by decide) ?_
          refine zr_isub X dX9_ends_214 ?_
          refine zr_istore_n X (ls' := [(2, .int (((dA3 s mc bk fr) 1) - 1)), (0, .ref (w.2 (132)))]) dX9_ends_215 rfl (by decide) rfl ?_
          refine zr_loc X (ls' := [(0, .ref (w.2 (132))), (2, .int (((dA3 s mc bk fr) 1) - 1))]) [1, 0] rfl ?_
          refine zcast (f2 := mW w cy f v (dA3 s mc bk fr) nu) (ls2 := [(0, .ref (w.2 (132))), (2, .int (zpr (bk)))]) rfl (by rw [dA3_lo (by decide) (by decide) (by decide) (by decide) (by decide) (by decide) (by decide) (by decide) (by decide), hg, zpr_of]) ?_
          refine zupw (P := fun m => ∀ (b : Nat) (u : Nat → Int32), dGz (m) b u = dGz bk bk (dA3 s mc bk fr) → u 1 = nI b → (m) ≤ b → b ≤ 10 → G (w, 0, 0) (mW w cy f v u nu) [(0, .ref (w.2 (132))), (2, .int (zpr (m)))] 216 []) (B := bk) ?_ (fun m hn216 ih216 => ?_) bk _ rfl ((dA3_lo (by decide) (by decide) (by decide) (by decide) (by decide) (by decide) (by decide) (by decide) (by decide)).trans hg) (Nat.le_refl _) hbk
          · show ∀ (b : Nat) (u : Nat → Int32), dGz (0) b u = dGz bk bk (dA3 s mc bk fr) → u 1 = nI b → (0) ≤ b → b ≤ 10 → G (w, 0, 0) (mW w cy f v u nu) [(0, .ref (w.2 (132))), (2, .int (zpr (0)))] 216 []
            intro b u q g1 g2 g3
            change u = _ at q
            refine zr_iload_n X 1 dX9_ends_216 rfl rfl ?_
            refine zr_if_lt X (tgt := 255) dX9_ends_217 (by decide) (fun _ => ?_) (fun h => False.elim (h (by decide)))
            refine zr_aload_n X 0 dX9_ends_255 rfl rfl ?_
            refine zr_get X zfd_RX9_7 (132) (show 132 < w.1 by rw [hw]; omega) mW_132 (v := .ref (w.2 (133))) rfl dX9_ends_256 ?_
            refine zr_iconst X (v := 3) dX9_ends_259 (by decide) ?_
            refine zr_dup2 X dX9_ends_260 rfl rfl ?_
            refine zr_iald X (133) (show 133 < w.1 by rw [hw]; omega) mW_133 (3) (rfl) (by decide) (by decide) dX9_ends_261 ?_
            refine zr_iconst X (v := 1) dX9_ends_262 (by decide) ?_
            refine zr_iadd X dX9_ends_263 ?_
            refine zr_iast X (133) (show 133 < w.1 by rw [hw]; omega) mW_133 (3) (rfl) (by decide) (by decide) dX9_ends_264 ?_
            refine zcw (f2 := mW w cy f v (upd u 3 ((u 3) + 1)) nu) mu_133 ?_
            exact zret_v E rfl dX9_ends_265 (by unfold dEnds dA4; rw [← q])
          · show ∀ (b : Nat) (u : Nat → Int32), dGz (m + 1) b u = dGz bk bk (dA3 s mc bk fr) → u 1 = nI b → (m + 1) ≤ b → b ≤ 10 → G (w, 0, 0) (mW w cy f v u nu) [(0, .ref (w.2 (132))), (2, .int (zpr (m + 1)))] 216 []
            intro b u q g1 g2 g3
            show G (w, 0, 0) (mW w cy f v u nu) [(0, .ref (w.2 (132))), (2, .int (nI m))] 216 []
            refine zr_iload_n X 1 dX9_ends_216 rfl rfl ?_
            refine zr_if_lt X (tgt := 255) dX9_ends_217 (by decide) (fun h => False.elim (nI_pos (by omega) h)) (fun _ => ?_)
            refine zr_aload_n X 0 dX9_ends_220 rfl rfl ?_
            refine zr_iload_n X 1 dX9_ends_221 rfl rfl ?_
            refine zr_iconst X (v := 2) dX9_ends_222 (by decide) ?_
            refine zr_cV X (As := [.int (nI m), .int (2)]) (rest := []) (f' := mW w cy f v u nu) (st' := [.int (u (55 + 6 * m + 2))]) zc_X9_ofGroup (132) (show 132 < w.1 by rw [hw]; omega) mW_132 (q9 := _) rfl rfl (k_ofGroup (k := m) (i := 2) hw rfl rfl (by omega) (by omega)) ⟨Nat.le_of_ble_eq_true rfl, Nat.le_of_ble_eq_true rfl⟩ ⟨Nat.le_refl _, Nat.le_refl _⟩ rfl (Nat.le_of_ble_eq_true rfl) zm_4_37 rfl dX9_ends_223 rfl ?_
            refine zr_aload_n X 0 dX9_ends_226 rfl rfl ?_
            refine zr_iload_n X 1 dX9_ends_227 rfl rfl ?_
            refine zr_iconst X (v := 3) dX9_ends_228 (by decide) ?_
            refine zr_cV X (As := [.int (nI m), .int (3)]) (rest := [.int (u (55 + 6 * m + 2))]) (f' := mW w cy f v u nu) (st' := [.int (u (55 + 6 * m + 3)), .int (u (55 + 6 * m + 2))]) zc_X9_ofGroup (132) (show 132 < w.1 by rw [hw]; omega) mW_132 (q9 := _) rfl rfl (k_ofGroup (k := m) (i := 3) hw rfl rfl (by omega) (by omega)) ⟨Nat.le_of_ble_eq_true rfl, Nat.le_of_ble_eq_true rfl⟩ ⟨Nat.le_refl _, Nat.le_refl _⟩ rfl (Nat.le_of_ble_eq_true rfl) zm_4_37 rfl dX9_ends_229 rfl ?_
            refine zr_iadd X dX9_ends_232 ?_
            refine zr_iconst X (v := 1) dX9_ends_233 (by decide) ?_
            refine zr_isub X dX9_ends_234 ?_
            refine zr_aload_n X 0 dX9_ends_235 rfl rfl ?_
            refine zr_get X zfd_RX9_7 (132) (show 132 < w.1 by rw [hw]; omega) mW_132 (v := .ref (w.2 (133))) rfl dX9_ends_236 ?_
            refine zr_iconst X (v := 3) dX9_ends_239 (by decide) ?_
            refine zr_iald X (133) (show 133 < w.1 by rw [hw]; omega) mW_133 (3) (rfl) (by decide) (by decide) dX9_ends_240 ?_
            refine zr_icmp_ne X (tgt := 249) dX9_ends_241 (by decide) (fun h1 => ?_) (fun h2 => ?_)
            · refine zr_iinc X (v := zpr (m)) (ls' := [(2, .int (zpr (m))), (0, .ref (w.2 (132)))]) 1 dX9_ends_249 rfl (zdec1 _) (by decide) rfl ?_
              refine zr_goto X (tgt := 216) dX9_ends_252 (by decide) ?_
              refine zr_loc X (ls' := [(0, .ref (w.2 (132))), (2, .int (zpr (m)))]) [1, 0] rfl ?_
              exact zcast (f2 := mW w cy f v u nu) (ls2 := [(0, .ref (w.2 (132))), (2, .int (zpr (m)))]) rfl rfl (ih216 b _ (by rw [← q, dGz_s, if_neg h1]) g1 (by omega) g3)
            · refine zr_aload_n X 0 dX9_ends_244 rfl rfl ?_
              refine zr_iload_n X 1 dX9_ends_245 rfl rfl ?_
              refine zr_cV X (As := [.int (nI m)]) (rest := []) (f' := mW w cy f v (dGo u m (b - 1)) nu) (st' := []) zc_X9_goes (132) (show 132 < w.1 by rw [hw]; omega) mW_132 (q9 := _) rfl rfl (k_goes (k := m) (b := b - 1) hw rfl (by rw [show b - 1 + 1 = b by omega]; exact g1) (by omega) (by omega)) ⟨Nat.le_of_ble_eq_true rfl, Nat.le_of_ble_eq_true rfl⟩ ⟨Nat.le_refl _, Nat.le_refl _⟩ rfl (Nat.le_of_ble_eq_true rfl) zm_4_42 rfl dX9_ends_246 rfl ?_
              refine zr_iinc X (v := zpr (m)) (ls' := [(2, .int (zpr (m))), (0, .ref (w.2 (132)))]) 1 dX9_ends_249 rfl (zdec1 _) (by decide) rfl ?_
              refine zr_goto X (tgt := 216) dX9_ends_252 (by decide) ?_
              refine zr_loc X (ls' := [(0, .ref (w.2 (132))), (2, .int (zpr (m)))]) [1, 0] rfl ?_
              exact zcast (f2 := mW w cy f v (dGo u m (b - 1)) nu) (ls2 := [(0, .ref (w.2 (132))), (2, .int (zpr (m)))]) rfl rfl (ih216 (b - 1) _ (by rw [← q, dGz_s, if_pos h2]) dGo_1 (by omega) (by omega))
        · show G (w, 0, 0) (mW w cy f v (dSh (dThr (dA2 s mc bk fr)) (n)) nu) [(0, .ref (w.2 (132))), (2, .int (nI (20 - (n))))] 169 []
          refine zr_iload_n X 1 dX9_ends_169 rfl rfl ?_
          refine zr_if_le X (tgt := 199) dX9_ends_170 (by decide) (fun h => False.elim (nI_nle (show 0 < 20 - n by omega) (by omega) h)) (fun _ => ?_)
          refine zr_aload_n X 0 dX9_ends_173 rfl rfl ?_
          refine zr_get X zfd_RX9_7 (132) (show 132 < w.1 by rw [hw]; omega) mW_132 (v := .ref (w.2 (133))) rfl dX9_ends_174 ?_
          refine zr_bipush X (v := 115) dX9_ends_177 (by decide) ?_
          refine zr_iload_n X 1 dX9_ends_179 rfl rfl ?_
          refine zr_iadd X dX9_ends_180 ?_
          refine zr_aload_n X 0 dX9_ends_181 rfl rfl ?_
          refine zr_get X zfd_RX9_7 (132) (show 132 < w.1 by rw [hw]; omega) mW_132 (v := .ref (w.2 (133))) rfl dX9_ends_182 ?_
          refine zr_bipush X (v := 115) dX9_ends_185 (by decide) ?_
          refine zr_iload_n X 1 dX9_ends_187 rfl rfl ?_
          refine zr_iadd X dX9_ends_188 ?_
          refine zr_iconst X (v := 1) dX9_ends_189 (by decide) ?_
          refine zr_isub X dX9_ends_190 ?_
          refine zr_iald X (133) (show 133 < w.1 by rw [hw]; omega) mW_133 (115 + (20 - n - 1)) (zi_sh (by omega)) (by omega) (by decide) dX9_ends_191 ?_
          refine zr_iast X (133) (show 133 < w.1 by rw [hw]; omega) mW_133 (115 + (20 - (n))) (nI_add 115 _) (by omega) (by decide) dX9_ends_192 ?_
          refine zcw (f2 := mW w cy f v (dSh (dThr (dA2 s mc bk fr)) (n + 1)) nu) (mu_133.trans rfl) ?_
          refine zr_iinc X (v := zpr (20 - (n))) (ls' := [(2, .int (zpr (20 - (n)))), (0, .ref (w.2 (132)))]) 1 dX9_ends_193 rfl (zdec1 _) (by decide) rfl ?_
          refine zr_goto X (tgt := 169) dX9_ends_196 (by decide) ?_
          refine zr_loc X (ls' := [(0, .ref (w.2 (132))), (2, .int (zpr (20 - (n))))]) [1, 0] rfl ?_
          exact zcast (f2 := mW w cy f v (dSh (dThr (dA2 s mc bk fr)) (n + 1)) nu) (ls2 := [(0, .ref (w.2 (132))), (2, .int (nI (20 - (n + 1))))]) rfl (by rw [zpr_dn hn169]) ih169
      · show G (w, 0, 0) (mW w cy f v (dEa (dA1 s mc) fr (n)) nu) [(0, .ref (w.2 (132))), (2, .int (nI (n)))] 113 []
        refine zr_iload_n X 1 dX9_ends_113 rfl rfl ?_
        refine zr_aload_n X 0 dX9_ends_114 rfl rfl ?_
        refine zr_get X zfd_RX9_7 (132) (show 132 < w.1 by rw [hw]; omega) mW_132 (v := .ref (w.2 (133))) rfl dX9_ends_115 ?_
        refine zr_iconst X (v := 1) dX9_ends_118 (by decide) ?_
        refine zr_iald X (133) (show 133 < w.1 by rw [hw]; omega) mW_133 (1) (rfl) (by decide) (by decide) dX9_ends_119 ?_
        refine zr_icmp_ge X (tgt := 148) dX9_ends_120 (by decide) (fun h => False.elim (nI_ge hn113 (by omega) (by rw [dEa_lo (by decide) (by decide) (by decide) (by decide) (by decide) n, dA1_lo (by decide) (by decide) (by decide) (by decide) (by decide), hg] at h; exact h))) (fun _ => ?_)
        refine zr_aload_n X 0 dX9_ends_123 rfl rfl ?_
        refine zr_iload_n X 1 dX9_ends_124 rfl rfl ?_
        refine zr_aload_n X 0 dX9_ends_125 rfl rfl ?_
        refine zr_get X zfd_RX9_7 (132) (show 132 < w.1 by rw [hw]; omega) mW_132 (v := .ref (w.2 (133))) rfl dX9_ends_126 ?_
        refine zr_iconst X (v := 3) dX9_ends_129 (by decide) ?_
        refine zr_iald X (133) (show 133 < w.1 by rw [hw]; omega) mW_133 (3) (rfl) (by decide) (by decide) dX9_ends_130 ?_
        refine zr_cV X (As := [.int (nI (n)), .int ((dEa (dA1 s mc) fr (n)) 3)]) (rest := []) (f' := mW w cy f v (dEa (dA1 s mc) fr (n)) nu) (st' := [.int (zwin ((dEa (dA1 s mc) fr (n)) 3 - (dEa (dA1 s mc) fr (n)) (55 + 6 * n + 2)) 0 ((dEa (dA1 s mc) fr (n)) (55 + 6 * n + 3) - 1))]) zc_X9_isThere (132) (show 132 < w.1 by rw [hw]; omega) mW_132 (q9 := _) rfl rfl (k_isThere (k := n) hw rfl (by omega)) ⟨Nat.le_of_ble_eq_true rfl, Nat.le_of_ble_eq_true rfl⟩ ⟨Nat.le_refl _, Nat.le_refl _⟩ rfl (Nat.le_of_ble_eq_true rfl) zm_4_81 rfl dX9_ends_131 rfl ?_
        refine zr_if_eq X (tgt := 142) dX9_ends_134 (by decide) (fun h3 => ?_) (fun h4 => ?_)
        · refine zr_iinc X (v := nI (n + 1)) (ls' := [(2, .int (nI (n + 1))), (0, .ref (w.2 (132)))]) 1 dX9_ends_142 rfl (zinc1 _) (by decide) rfl ?_
          refine zr_goto X (tgt := 113) dX9_ends_145 (by decide) ?_
          refine zr_loc X (ls' := [(0, .ref (w.2 (132))), (2, .int (nI (n + 1)))]) [1, 0] rfl ?_
          exact zcast (f2 := mW w cy f v (dEa (dA1 s mc) fr (n + 1)) nu) (ls2 := [(0, .ref (w.2 (132))), (2, .int (nI (n + 1)))]) (by rw [dEa_s]; unfold dEaS; rw [if_pos h3]) rfl ih113
        · refine zr_aload_n X 0 dX9_ends_137 rfl rfl ?_
          refine zr_iload_n X 1 dX9_ends_138 rfl rfl ?_
          refine zr_cV X (As := [.int (nI (n))]) (rest := []) (f' := mW w cy f v (dEat (dEa (dA1 s mc) fr n) n fr) nu) (st' := []) zc_X9_eats (132) (show 132 < w.1 by rw [hw]; omega) mW_132 (q9 := _) rfl rfl (k_eats (k := n) (fr := fr) hw rfl (by omega) ((dEa_lo (by decide) (by decide) (by decide) (by decide) (by decide) n).trans ((dA1_lo (by decide) (by decide) (by decide) (by decide) (by decide)).trans hf)) hfr) ⟨Nat.le_of_ble_eq_true rfl, Nat.le_of_ble_eq_true rfl⟩ ⟨Nat.le_refl _, Nat.le_refl _⟩ rfl (Nat.le_of_ble_eq_true rfl) zm_4_85 rfl dX9_ends_139 rfl ?_
          refine zr_iinc X (v := nI (n + 1)) (ls' := [(2, .int (nI (n + 1))), (0, .ref (w.2 (132)))]) 1 dX9_ends_142 rfl (zinc1 _) (by decide) rfl ?_
          refine zr_goto X (tgt := 113) dX9_ends_145 (by decide) ?_
          refine zr_loc X (ls' := [(0, .ref (w.2 (132))), (2, .int (nI (n + 1)))]) [1, 0] rfl ?_
          exact zcast (f2 := mW w cy f v (dEa (dA1 s mc) fr (n + 1)) nu) (ls2 := [(0, .ref (w.2 (132))), (2, .int (nI (n + 1)))]) (by rw [dEa_s]; unfold dEaS; rw [if_neg h4]) rfl ih113
    · show G (w, 0, 0) (mW w cy f v (dMu (dN1 s) (dSn s) (n)) nu) [(0, .ref (w.2 (132))), (1, .int (dSn s)), (2, .int (nI (n)))] 70 []
      refine zr_iload_n X 2 dX9_ends_70 rfl rfl ?_
      refine zr_aload_n X 0 dX9_ends_71 rfl rfl ?_
      refine zr_get X zfd_RX9_7 (132) (show 132 < w.1 by rw [hw]; omega) mW_132 (v := .ref (w.2 (133))) rfl dX9_ends_72 ?_
      refine zr_iconst X (v := 0) dX9_ends_75 (by decide) ?_
      refine zr_iald X (133) (show 133 < w.1 by rw [hw]; omega) mW_133 (0) (rfl) (by decide) (by decide) dX9_ends_76 ?_
      refine zr_icmp_ge X (tgt := 111) dX9_ends_77 (by decide) (fun h => False.elim (nI_ge hn70 (by omega) (by rw [dMu_ne (by decide) (by decide) (by decide) n (.inl (by decide)), dN1_ne (by decide) (by decide), hm] at h; exact h))) (fun _ => ?_)
      refine zr_aload_n X 0 dX9_ends_80 rfl rfl ?_
      refine zr_iload_n X 2 dX9_ends_81 rfl rfl ?_
      refine zr_iconst X (v := 2) dX9_ends_82 (by decide) ?_
      refine zr_cV X (As := [.int (nI (n)), .int (2)]) (rest := []) (f' := mW w cy f v (dMu (dN1 s) (dSn s) (n)) nu) (st' := [.int ((dMu (dN1 s) (dSn s) (n)) (19 + 9 * (n) + 2))]) zc_X9_of (132) (show 132 < w.1 by rw [hw]; omega) mW_132 (q9 := _) rfl rfl (k_of (k := (n)) (i := 2) hw rfl rfl (by omega) (by omega)) ⟨Nat.le_of_ble_eq_true rfl, Nat.le_of_ble_eq_true rfl⟩ ⟨Nat.le_refl _, Nat.le_refl _⟩ rfl (Nat.le_of_ble_eq_true rfl) zm_4_12 rfl dX9_ends_83 rfl ?_
      refine zr_istore_n X (ls' := [(3, .int ((dMu (dN1 s) (dSn s) (n)) (19 + 9 * (n) + 2))), (0, .ref (w.2 (132))), (1, .int (dSn s)), (2, .int (nI (n)))]) dX9_ends_86 rfl (by decide) rfl ?_
      refine zr_iload_n X 0 dX9_ends_87 rfl rfl ?_
      refine zr_iconst X (v := 3) dX9_ends_88 (by decide) ?_
      refine zr_icmp_eq X (tgt := 100) dX9_ends_89 (by decide) (fun h5 => ?_) (fun h6 => ?_)
      · refine zr_aload_n X 1 dX9_ends_100 rfl rfl ?_
        refine zr_iload_n X 3 dX9_ends_101 rfl rfl ?_
        refine zr_cV X (As := [.int (nI (n))]) (rest := []) (f' := mW w cy f v (dCo (dMu (dN1 s) (dSn s) n) n) nu) (st' := []) zc_X9_comesOn (132) (show 132 < w.1 by rw [hw]; omega) mW_132 (q9 := _) rfl rfl (k_comesOn (k := n) hw rfl (by omega) (fun q9 => by rw [dMu_ne (by decide) (by decide) (by decide) n (.inl (by decide)), dMu_ne (by omega) (by omega) (by omega) n (.inr (by omega)), dN1_ne (by decide) (by decide), dN1_ne (by omega) (by omega)]; rw [dMu_ne (by omega) (by omega) (by omega) n (.inr (by omega)), dN1_ne (by omega) (by omega)] at q9; exact hW n hn70 q9)) ⟨Nat.le_of_ble_eq_true rfl, Nat.le_of_ble_eq_true rfl⟩ ⟨Nat.le_refl _, Nat.le_refl _⟩ rfl (Nat.le_of_ble_eq_true rfl) zm_4_58 rfl dX9_ends_102 rfl ?_
        refine zr_iinc X (v := nI (n + 1)) (ls' := [(2, .int (nI (n + 1))), (3, .int ((dMu (dN1 s) (dSn s) (n)) (19 + 9 * (n) + 2))), (0, .ref (w.2 (132))), (1, .int (dSn s))]) 3 dX9_ends_105 rfl (zinc1 _) (by decide) rfl ?_
        refine zr_goto X (tgt := 70) dX9_ends_108 (by decide) ?_
        refine zr_loc X (ls' := [(0, .ref (w.2 (132))), (1, .int (dSn s)), (2, .int (nI (n + 1)))]) [2, 3, 0] rfl ?_
        exact zcast (f2 := mW w cy f v (dMu (dN1 s) (dSn s) (n + 1)) nu) (ls2 := [(0, .ref (w.2 (132))), (1, .int (dSn s)), (2, .int (nI (n + 1)))]) (by rw [dMu_s]; unfold dMuS; rw [if_pos h5]) rfl ih70
      · refine zr_iload_n X 0 dX9_ends_92 rfl rfl ?_
        refine zr_if_eq X (tgt := 105) dX9_ends_93 (by decide) (fun h7 => ?_) (fun h8 => ?_)
        · refine zr_iinc X (v := nI (n + 1)) (ls' := [(2, .int (nI (n + 1))), (3, .int ((dMu (dN1 s) (dSn s) (n)) (19 + 9 * (n) + 2))), (0, .ref (w.2 (132))), (1, .int (dSn s))]) 3 dX9_ends_105 rfl (zinc1 _) (by decide) rfl ?_
          refine zr_goto X (tgt := 70) dX9_ends_108 (by decide) ?_
          refine zr_loc X (ls' := [(0, .ref (w.2 (132))), (1, .int (dSn s)), (2, .int (nI (n + 1)))]) [2, 3, 0] rfl ?_
          exact zcast (f2 := mW w cy f v (dMu (dN1 s) (dSn s) (n + 1)) nu) (ls2 := [(0, .ref (w.2 (132))), (1, .int (dSn s)), (2, .int (nI (n + 1)))]) (by rw [dMu_s]; unfold dMuS; rw [if_neg h6, if_pos h7]) rfl ih70
        · refine zr_iload_n X 2 dX9_ends_96 rfl rfl ?_
          refine zr_if_ne X (tgt := 105) dX9_ends_97 (by decide) (fun h9 => ?_) (fun h10 => ?_)
          · refine zr_iinc X (v := nI (n + 1)) (ls' := [(2, .int (nI (n + 1))), (3, .int ((dMu (dN1 s) (dSn s) (n)) (19 + 9 * (n) + 2))), (0, .ref (w.2 (132))), (1, .int (dSn s))]) 3 dX9_ends_105 rfl (zinc1 _) (by decide) rfl ?_
            refine zr_goto X (tgt := 70) dX9_ends_108 (by decide) ?_
            refine zr_loc X (ls' := [(0, .ref (w.2 (132))), (1, .int (dSn s)), (2, .int (nI (n + 1)))]) [2, 3, 0] rfl ?_
            exact zcast (f2 := mW w cy f v (dMu (dN1 s) (dSn s) (n + 1)) nu) (ls2 := [(0, .ref (w.2 (132))), (1, .int (dSn s)), (2, .int (nI (n + 1)))]) (by rw [dMu_s]; unfold dMuS; rw [if_neg h6, if_neg h8, if_neg h9]) rfl ih70
          · refine zr_aload_n X 1 dX9_ends_100 rfl rfl ?_
            refine zr_iload_n X 3 dX9_ends_101 rfl rfl ?_
            refine zr_cV X (As := [.int (nI (n))]) (rest := []) (f' := mW w cy f v (dCo (dMu (dN1 s) (dSn s) n) n) nu) (st' := []) zc_X9_comesOn (132) (show 132 < w.1 by rw [hw]; omega) mW_132 (q9 := _) rfl rfl (k_comesOn (k := n) hw rfl (by omega) (fun q9 => by rw [dMu_ne (by decide) (by decide) (by decide) n (.inl (by decide)), dMu_ne (by omega) (by omega) (by omega) n (.inr (by omega)), dN1_ne (by decide) (by decide), dN1_ne (by omega) (by omega)]; rw [dMu_ne (by omega) (by omega) (by omega) n (.inr (by omega)), dN1_ne (by omega) (by omega)] at q9; exact hW n hn70 q9)) ⟨Nat.le_of_ble_eq_true rfl, Nat.le_of_ble_eq_true rfl⟩ ⟨Nat.le_refl _, Nat.le_refl _⟩ rfl (Nat.le_of_ble_eq_true rfl) zm_4_58 rfl dX9_ends_102 rfl ?_
            refine zr_iinc X (v := nI (n + 1)) (ls' := [(2, .int (nI (n + 1))), (3, .int ((dMu (dN1 s) (dSn s) (n)) (19 + 9 * (n) + 2))), (0, .ref (w.2 (132))), (1, .int (dSn s))]) 3 dX9_ends_105 rfl (zinc1 _) (by decide) rfl ?_
            refine zr_goto X (tgt := 70) dX9_ends_108 (by decide) ?_
            refine zr_loc X (ls' := [(0, .ref (w.2 (132))), (1, .int (dSn s)), (2, .int (nI (n + 1)))]) [2, 3, 0] rfl ?_
            exact zcast (f2 := mW w cy f v (dMu (dN1 s) (dSn s) (n + 1)) nu) (ls2 := [(0, .ref (w.2 (132))), (1, .int (dSn s)), (2, .int (nI (n + 1)))]) (by rw [dMu_s]; unfold dMuS; rw [if_neg h6, if_neg h8, if_pos h10]) rfl ih70
  refine zr_icmp_ge X (tgt := 47) dX9_ends_40 (by decide) (fun h11 => ?_) (fun h12 => ?_)
  · refine zr_iconst X (v := 0) dX9_ends_47 (by decide) ?_
    refine zr_istore_n X (ls' := [(1, .int (0)), (0, .ref (w.2 (132)))]) dX9_ends_48 rfl (by decide) rfl ?_
    refine zr_aload_n X 1 dX9_ends_49 rfl rfl ?_
    refine zr_get X zfd_RX9_7 (132) (show 132 < w.1 by rw [hw]; omega) mW_132 (v := .ref (w.2 (133))) rfl dX9_ends_50 ?_
    refine zr_bipush X (v := 11) dX9_ends_53 (by decide) ?_
    refine zr_dup2 X dX9_ends_55 rfl rfl ?_
    refine zr_iald X (133) (show 133 < w.1 by rw [hw]; omega) mW_133 (11) (rfl) (by decide) (by decide) dX9_ends_56 ?_
    refine zr_iload_n X 0 dX9_ends_57 rfl rfl ?_
    refine zr_if_eq X (tgt := 65) dX9_ends_58 (by decide) (fun _ => ?_) (fun h => absurd rfl h)
    refine zr_iconst X (v := 0) dX9_ends_65 (by decide) ?_
    refine zr_iadd X dX9_ends_66 ?_
    refine zr_iast X (133) (show 133 < w.1 by rw [hw]; omega) mW_133 (11) (rfl) (by decide) (by decide) dX9_ends_67 ?_
    refine zcw (f2 := mW w cy f v (upd (dN0 s) 11 (((dN0 s) 11) + 0)) nu) mu_133 ?_
    refine zr_loc X (ls' := [(0, .ref (w.2 (132))), (1, .int (0))]) [1, 0] rfl ?_
    exact zjoin (by unfold dN1 dSn; rw [if_pos h11]) (by unfold dSn; rw [if_pos h11]) rfl J68
  · refine zr_iconst X (v := 1) dX9_ends_43 (by decide) ?_
    refine zr_goto X (tgt := 48) dX9_ends_44 (by decide) ?_
    refine zr_istore_n X (ls' := [(1, .int (1)), (0, .ref (w.2 (132)))]) dX9_ends_48 rfl (by decide) rfl ?_
    refine zr_aload_n X 1 dX9_ends_49 rfl rfl ?_
    refine zr_get X zfd_RX9_7 (132) (show 132 < w.1 by rw [hw]; omega) mW_132 (v := .ref (w.2 (133))) rfl dX9_ends_50 ?_
    refine zr_bipush X (v := 11) dX9_ends_53 (by decide) ?_
    refine zr_dup2 X dX9_ends_55 rfl rfl ?_
    refine zr_iald X (133) (show 133 < w.1 by rw [hw]; omega) mW_133 (11) (rfl) (by decide) (by decide) dX9_ends_56 ?_
    refine zr_iload_n X 0 dX9_ends_57 rfl rfl ?_
    refine zr_if_eq X (tgt := 65) dX9_ends_58 (by decide) (fun h => absurd h (by decide)) (fun _ => ?_)
    refine zr_iconst X (v := 1) dX9_ends_61 (by decide) ?_
    refine zr_goto X (tgt := 66) dX9_ends_62 (by decide) ?_
    refine zr_iadd X dX9_ends_66 ?_
    refine zr_iast X (133) (show 133 < w.1 by rw [hw]; omega) mW_133 (11) (rfl) (by decide) (by decide) dX9_ends_67 ?_
    refine zcw (f2 := mW w cy f v (upd (dN0 s) 11 (((dN0 s) 11) + 1)) nu) mu_133 ?_
    refine zr_loc X (ls' := [(0, .ref (w.2 (132))), (1, .int (1))]) [1, 0] rfl ?_
    exact zjoin (by unfold dN1 dSn; rw [if_neg h12]) (by unfold dSn; rw [if_neg h12]) rfl J68
