set_option maxHeartbeats 4000000 in
set_option maxRecDepth 100000 in
theorem k_endDay {l : Launch} {D : va_G} {cy : Nat → ClassId} {w : zW} {f : zF} {b mc bk : Nat} {γ : Nat → Nat} {σ : Nat → Int32}  (hb : b + 21 ≤ w.1) (hm : σ 0 = nI mc) (hmc : mc ≤ 4) (hg : σ 1 = nI bk) (hbk : bk ≤ 10) (hγ : ∀ k, k < 10 → γ k < 10)  : zSd l D cy yX2_endDay cX2_endDay 4 none 2 54 [.ref (w.2 (b))] w (zPut f b (zHut w cy b γ σ)) none (zPut f b (zHut w cy b (hDayB mc bk (γ, σ)).1 (hDayB mc bk (γ, σ)).2)) := by
  refine zSd.intro (by decide) (Nat.le_of_ble_eq_true rfl) (fun G X E => ?_)
  show G (w, 0, 0) (zPut f b (zHut w cy b γ σ)) [(0, .ref (w.2 (b)))] 0 []
  refine zr_aload_n X 0 dX2_endDay_0 rfl rfl ?_
  refine zr_aload_n X 0 dX2_endDay_1 rfl rfl ?_
  refine zr_get X zfd_RX2_44 (b) (show b < w.1 by omega) (zPut_in (o := 0) (by omega)) (v := .int (σ 4)) rfl dX2_endDay_2 ?_
  refine zr_sipush X (v := 421) dX2_endDay_5 (by decide) ?_
  refine zr_imul X dX2_endDay_8 ?_
  refine zr_sipush X (v := 1663) dX2_endDay_9 (by decide) ?_
  refine zr_iadd X dX2_endDay_12 ?_
  refine zr_sipush X (v := 10000) dX2_endDay_13 (by decide) ?_
  refine zr_irem X dX2_endDay_16 (by decide) ?_
  refine zr_put X zfd_RX2_44 zty_2_9 (b) (show b < w.1 by omega) (zPut_in (o := 0) (by omega)) rfl rfl (Nat.le_of_ble_eq_true rfl) (eHut_set _ _ _ _ 4 (by decide)) dX2_endDay_17 ?_
  refine zcw (f2 := zPut f b (zHut w cy b γ (hD0 σ))) (zu_hut (i := 4) (by decide)) ?_
  have J42 : G (w, 0, 0) (zPut f b (zHut w cy b γ (hD0 σ))) [(0, .ref (w.2 (b)))] 42 [.int (hSnow σ)] := by
    have J60 : G (w, 0, 0) (zPut f b (zHut w cy b γ (hD1 σ))) [(1, .int (hSnow σ)), (0, .ref (w.2 (b)))] 60 [] := by
      refine zr_iconst X (v := 0) dX2_endDay_60 (by decide) ?_
      refine zr_istore_n X (ls' := [(2, .int (0)), (1, .int (hSnow σ)), (0, .ref (w.2 (b)))]) dX2_endDay_61 rfl (by decide) rfl ?_
      refine zr_loc X (ls' := [(0, .ref (w.2 (b))), (1, .int (hSnow σ)), (2, .int (0))]) [2, 1, 0] rfl ?_
      refine zcast (f2 := zPut f b (zHut w cy b γ (hMul σ (0)))) (ls2 := [(0, .ref (w.2 (b))), (1, .int (hSnow σ)), (2, .int (nI (0)))]) rfl rfl ?_
      refine zdown (P := fun n => G (w, 0, 0) (zPut f b (zHut w cy b γ (hMul σ (n)))) [(0, .ref (w.2 (b))), (1, .int (hSnow σ)), (2, .int (nI (n)))] 62 []) (B := mc) ?_ (fun n hn62 ih62 => ?_) 0 (Nat.zero_le _) 
      · show G (w, 0, 0) (zPut f b (zHut w cy b γ (hMul σ (mc)))) [(0, .ref (w.2 (b))), (1, .int (hSnow σ)), (2, .int (nI (mc)))] 62 []
        have hm2 : hMul σ mc 0 = nI mc := (hMul_lo (by decide) mc).trans hm
        have hg2 : hMul σ mc 1 = nI bk := (hMul_lo (by decide) mc).trans hg
        refine zr_iload_n X 2 dX2_endDay_62 rfl rfl ?_
        refine zr_aload_n X 0 dX2_endDay_63 rfl rfl ?_
        refine zr_get X zfd_RX2_50 (b) (show b < w.1 by omega) (zPut_in (o := 0) (by omega)) (v := .int ((hMul σ (mc)) 0)) rfl dX2_endDay_64 ?_
        refine zr_icmp_ge X (tgt := 99) dX2_endDay_67 (by decide) (fun _ => ?_) (fun h => False.elim (h (by rw [hm2]; exact nI_le (Nat.le_refl _) (by omega))))
        refine zr_iconst X (v := 0) dX2_endDay_99 (by decide) ?_
        refine zr_istore_n X (ls' := [(2, .int (0)), (0, .ref (w.2 (b))), (1, .int (hSnow σ))]) dX2_endDay_100 rfl (by decide) rfl ?_
        refine zr_loc X (ls' := [(0, .ref (w.2 (b))), (1, .int (hSnow σ)), (2, .int (0))]) [1, 2, 0] rfl ?_
        refine zcast (f2 := zPut f b (zHut w cy b γ (hFd γ mc σ (0)))) (ls2 := [(0, .ref (w.2 (b))), (1, .int (hSnow σ)), (2, .int (nI (0)))]) rfl rfl ?_
        refine zdown (P := fun n => G (w, 0, 0) (zPut f b (zHut w cy b γ (hFd γ mc σ (n)))) [(0, .ref (w.2 (b))), (1, .int (hSnow σ)), (2, .int (nI (n)))] 101 []) (B := bk) ?_ (fun n hn101 ih101 => ?_) 0 (Nat.zero_le _) 
        · show G (w, 0, 0) (zPut f b (zHut w cy b γ (hFd γ mc σ (bk)))) [(0, .ref (w.2 (b))), (1, .int (hSnow σ)), (2, .int (nI (bk)))] 101 []
          have hm2 : hFd γ mc σ bk 0 = nI mc := (hFd_lo (by decide) bk).trans hm
          have hg2 : hFd γ mc σ bk 1 = nI bk := (hFd_lo (by decide) bk).trans hg
          refine zr_iload_n X 2 dX2_endDay_101 rfl rfl ?_
          refine zr_aload_n X 0 dX2_endDay_102 rfl rfl ?_
          refine zr_get X zfd_RX2_53 (b) (show b < w.1 by omega) (zPut_in (o := 0) (by omega)) (v := .int ((hFd γ mc σ (bk)) 1)) rfl dX2_endDay_103 ?_
          refine zr_icmp_ge X (tgt := 141) dX2_endDay_106 (by decide) (fun _ => ?_) (fun h => False.elim (h (by rw [hg2]; exact nI_le (Nat.le_refl _) (by omega))))
          refine zr_aload_n X 0 dX2_endDay_141 rfl rfl ?_
          refine zr_get X zfd_RX2_33 (b) (show b < w.1 by omega) (zPut_in (o := 0) (by omega)) (v := .ref (w.2 (b + 5))) rfl dX2_endDay_142 ?_
          refine zr_dup X dX2_endDay_145 rfl ?_
          refine zr_getN X zfn_RX2_171 (b + 5) (show b + 5 < w.1 by omega) (zPut_in (o := 5) (by omega)) (v := .int ((hFd γ mc σ (bk)) 9)) rfl dX2_endDay_146 ?_
          refine zr_aload_n X 0 dX2_endDay_149 rfl rfl ?_
          refine zr_get X zfd_RX2_26 (b) (show b < w.1 by omega) (zPut_in (o := 0) (by omega)) (v := .ref (w.2 (b + 3))) rfl dX2_endDay_150 ?_
          refine zr_cV X (As := []) (rest := [.int ((hFd γ mc σ (bk)) 9), .ref (w.2 (b + 5))]) (f' := va_up (zPut f b (zHut w cy b γ (hFd γ mc σ (bk)))) (b + 4) (eInts cy 21 ((shGrow (fun k9 => (hFd γ mc σ (bk)) (115 + k9)) 21).1))) (st' := [.int ((hGr γ mc bk σ).2), .int ((hFd γ mc σ (bk)) 9), .ref (w.2 (b + 5))]) zc_X7_growOlder (b + 3) (show b + 3 < w.1 by omega) (zPut_in (o := 3) (by omega)) (q9 := _) rfl rfl (k_Shelf_growOlder (show b + 3 < w.1 by omega) (show b + 4 < w.1 by omega) (zPut_in (o := 3) (by omega)) (zPut_in (o := 4) (by omega)) (by omega)) ⟨Nat.le_of_ble_eq_true rfl, Nat.le_of_ble_eq_true rfl⟩ ⟨Nat.le_refl _, Nat.le_refl _⟩ rfl (Nat.le_of_ble_eq_true rfl) zm_3_1 rfl dX2_endDay_153 rfl ?_
          refine zcw (f2 := zPut f b (zHut w cy b γ (hE1 γ mc bk σ))) (zu_shelf) ?_
          refine zr_iadd X dX2_endDay_156 ?_
          refine zr_putN X zfn_RX2_171 zty_3_4 (b + 5) (show b + 5 < w.1 by omega) (zPut_in (o := 5) (by omega)) rfl rfl (Nat.le_of_ble_eq_true rfl) (eLedger_set _ _ 4 (by decide)) dX2_endDay_157 ?_
          refine zcw (f2 := zPut f b (zHut w cy b γ (hE2 γ mc bk σ))) (zu_ledger (i := 4) (by decide)) ?_
          refine zr_aload_n X 0 dX2_endDay_160 rfl rfl ?_
          refine zr_dup X dX2_endDay_161 rfl ?_
          refine zr_get X zfd_RX2_59 (b) (show b < w.1 by omega) (zPut_in (o := 0) (by omega)) (v := .int ((hE2 γ mc bk σ) 3)) rfl dX2_endDay_162 ?_
          refine zr_iconst X (v := 1) dX2_endDay_165 (by decide) ?_
          refine zr_iadd X dX2_endDay_166 ?_
          refine zr_put X zfd_RX2_59 zty_2_8 (b) (show b < w.1 by omega) (zPut_in (o := 0) (by omega)) rfl rfl (Nat.le_of_ble_eq_true rfl) (eHut_set _ _ _ _ 3 (by decide)) dX2_endDay_167 ?_
          refine zcw (f2 := zPut f b (zHut w cy b γ (hE3 γ mc bk σ))) (zu_hut (i := 3) (by decide)) ?_
          refine zr_aload_n X 0 dX2_endDay_170 rfl rfl ?_
          refine zr_get X zfd_RX2_53 (b) (show b < w.1 by omega) (zPut_in (o := 0) (by omega)) (v := .int ((hE3 γ mc bk σ) 1)) rfl dX2_endDay_171 ?_
          refine zr_iconst X (v := 1) dX2_endDay_174 (by decide) ?_
          refine zr_isub X dX2_endDay_175 ?_
          refine zr_istore_n X (ls' := [(2, .int (((hE3 γ mc bk σ) 1) - 1)), (0, .ref (w.2 (b))), (1, .int (hSnow σ))]) dX2_endDay_176 rfl (by decide) rfl ?_
          refine zr_loc X (ls' := [(0, .ref (w.2 (b))), (1, .int (hSnow σ)), (2, .int (((hE3 γ mc bk σ) 1) - 1))]) [1, 2, 0] rfl ?_
          refine zcast (f2 := zPut f b (zHut w cy b γ (hE3 γ mc bk σ))) (ls2 := [(0, .ref (w.2 (b))), (1, .int (hSnow σ)), (2, .int (zpr (bk)))]) rfl (by rw [show hE3 γ mc bk σ 1 = nI bk from (hE3_lo (by decide)).trans hg, zpr_of]) ?_
          refine zupw (P := fun m => ∀ (g : Nat → Nat) (s : Nat → Int32) (cb : Nat), (∀ k, k < 10 → g k < 10) → s 0 = nI mc → s 1 = nI cb → (m) ≤ cb → cb ≤ 10 → hGone (m) (g, s) = hGone bk (γ, hE3 γ mc bk σ) → G (w, 0, 0) (zPut f b (zHut w cy b g s)) [(0, .ref (w.2 (b))), (1, .int (hSnow σ)), (2, .int (zpr (m)))] 177 []) (B := bk) ?_ (fun m hn177 ih177 => ?_) γ (hE3 γ mc bk σ) bk hγ ((hE3_lo (by decide)).trans hm) ((hE3_lo (by decide)).trans hg) (Nat.le_refl _) hbk rfl
          · show ∀ (g : Nat → Nat) (s : Nat → Int32) (cb : Nat), (∀ k, k < 10 → g k < 10) → s 0 = nI mc → s 1 = nI cb → (0) ≤ cb → cb ≤ 10 → hGone (0) (g, s) = hGone bk (γ, hE3 γ mc bk σ) → G (w, 0, 0) (zPut f b (zHut w cy b g s)) [(0, .ref (w.2 (b))), (1, .int (hSnow σ)), (2, .int (zpr (0)))] 177 []
            intro g s cb q1 q2 q3 q4 q5 q6
            refine zr_iload_n X 2 dX2_endDay_177 rfl rfl ?_
            refine zr_if_lt X (tgt := 213) dX2_endDay_178 (by decide) (fun _ => ?_) (fun h => False.elim (h (by decide)))
            exact zret_v E rfl dX2_endDay_213 (by unfold hDayB; rw [← q6]; rfl)
          · show ∀ (g : Nat → Nat) (s : Nat → Int32) (cb : Nat), (∀ k, k < 10 → g k < 10) → s 0 = nI mc → s 1 = nI cb → (m + 1) ≤ cb → cb ≤ 10 → hGone (m + 1) (g, s) = hGone bk (γ, hE3 γ mc bk σ) → G (w, 0, 0) (zPut f b (zHut w cy b g s)) [(0, .ref (w.2 (b))), (1, .int (hSnow σ)), (2, .int (zpr (m + 1)))] 177 []
            intro g s cb q1 q2 q3 q4 q5 q6
            show G (w, 0, 0) (zPut f b (zHut w cy b g s)) [(0, .ref (w.2 (b))), (1, .int (hSnow σ)), (2, .int (nI m))] 177 []
            refine zr_iload_n X 2 dX2_endDay_177 rfl rfl ?_
            refine zr_if_lt X (tgt := 213) dX2_endDay_178 (by decide) (fun h => False.elim (nI_pos (show m < 2147483648 by omega) h)) (fun _ => ?_)
            refine zr_aload_n X 0 dX2_endDay_181 rfl rfl ?_
            refine zr_iload_n X 2 dX2_endDay_182 rfl rfl ?_
            have q01 := q1 m (by omega)
            refine zr_cV X (As := [.int (nI m)]) (rest := []) (f' := zPut f b (zHut w cy b g s)) (st' := [.ref (w.2 (b + (11 + g m)))]) zc_X2_groupAt (b) (show b < w.1 by omega) (zPut_in (o := 0) (by omega)) (q9 := _) rfl rfl (k_groupAt hb q2 hmc q3 q5 q1 (by omega)) ⟨Nat.le_of_ble_eq_true rfl, Nat.le_of_ble_eq_true rfl⟩ ⟨Nat.le_refl _, Nat.le_refl _⟩ rfl (Nat.le_of_ble_eq_true rfl) zm_2_94 rfl dX2_endDay_183 rfl ?_
            refine zr_astore_n X (ls' := [(3, .ref (w.2 (b + (11 + g m)))), (0, .ref (w.2 (b))), (1, .int (hSnow σ)), (2, .int (nI m))]) dX2_endDay_186 rfl (by decide) rfl ?_
            refine zr_aload_n X 0 dX2_endDay_187 rfl rfl ?_
            refine zr_ifnull X dX2_endDay_188 ?_
            refine zr_aload_n X 0 dX2_endDay_191 rfl rfl ?_
            refine zr_aload_n X 1 dX2_endDay_192 rfl rfl ?_
            refine zr_get X zfd_RX2_59 (b) (show b < w.1 by omega) (zPut_in (o := 0) (by omega)) (v := .int (s 3)) rfl dX2_endDay_193 ?_
            refine zr_cV X (As := [.int (s 3)]) (rest := []) (f' := zPut f b (zHut w cy b g s)) (st' := [.int (gGone (fun i9 => s (55 + 6 * (g m) + i9)) (s 3))]) zc_X0_isGoneBy (b + (11 + g m)) (show b + (11 + g m) < w.1 by omega) ((zPut_in (o := 11 + g m) (by omega)).trans (zHut_group (k := g m))) (q9 := _) rfl rfl (k_Group_isGoneBy (show b + (11 + g m) < w.1 by omega) ((zPut_in (o := 11 + g m) (by omega)).trans (zHut_group (k := g m)))) ⟨Nat.le_of_ble_eq_true rfl, Nat.le_of_ble_eq_true rfl⟩ ⟨Nat.le_refl _, Nat.le_refl _⟩ rfl (Nat.le_of_ble_eq_true rfl) zm_3_5 rfl dX2_endDay_196 rfl ?_
            refine zr_if_eq X (tgt := 207) dX2_endDay_199 (by decide) (fun h1 => ?_) (fun h2 => ?_)
            · refine zr_iinc X (v := zpr (m)) (ls' := [(2, .int (zpr (m))), (3, .ref (w.2 (b + (11 + g m)))), (0, .ref (w.2 (b))), (1, .int (hSnow σ))]) 3 dX2_endDay_207 rfl (zdec1 _) (by decide) rfl ?_
              refine zr_goto X (tgt := 177) dX2_endDay_210 (by decide) ?_
              refine zr_loc X (ls' := [(0, .ref (w.2 (b))), (1, .int (hSnow σ)), (2, .int (zpr (m)))]) [2, 3, 0] rfl ?_
              exact zcast (f2 := zPut f b (zHut w cy b g s)) (ls2 := [(0, .ref (w.2 (b))), (1, .int (hSnow σ)), (2, .int (zpr (m)))]) rfl rfl (ih177 g s cb q1 q2 q3 (by omega) q5 (by rw [← q6, hGone_s]; simp only [if_pos h1, hGoneS]))
            · refine zr_aload_n X 1 dX2_endDay_202 rfl rfl ?_
              refine zr_iload_n X 3 dX2_endDay_203 rfl rfl ?_
              refine zr_cV X (As := [.int (nI m)]) (rest := []) (f' := zPut f b (zHut w cy b (gRem g (nI m) 9) (upd s 1 ((s 1) - 1)))) (st' := []) zc_X2_removeGroup (b) (show b < w.1 by omega) (zPut_in (o := 0) (by omega)) (q9 := _) rfl rfl (k_removeGroup hb q2 hmc q3 q5 q1) ⟨Nat.le_of_ble_eq_true rfl, Nat.le_of_ble_eq_true rfl⟩ ⟨Nat.le_refl _, Nat.le_refl _⟩ rfl (Nat.le_of_ble_eq_true rfl) zm_2_179 rfl dX2_endDay_204 rfl ?_
              refine zr_iinc X (v := zpr (m)) (ls' := [(2, .int (zpr (m))), (3, .ref (w.2 (b + (11 + g m)))), (0, .ref (w.2 (b))), (1, .int (hSnow σ))]) 3 dX2_endDay_207 rfl (zdec1 _) (by decide) rfl ?_
              refine zr_goto X (tgt := 177) dX2_endDay_210 (by decide) ?_
              refine zr_loc X (ls' := [(0, .ref (w.2 (b))), (1, .int (hSnow σ)), (2, .int (zpr (m)))]) [2, 3, 0] rfl ?_
              exact zcast (f2 := zPut f b (zHut w cy b (gRem g (nI m) 9) (upd s 1 ((s 1) - 1)))) (ls2 := [(0, .ref (w.2 (b))), (1, .int (hSnow σ)), (2, .int (zpr (m)))]) rfl rfl (ih177 (gRem g (nI m) 9) (upd s 1 (s 1 - 1)) (cb - 1) (gRem_lt q1 9 (Nat.le_refl _)) (show upd s 1 (s 1 - 1) 0 = nI mc from (upd_ne (show 0 ≠ 1 by decide)).trans q2) (by rw [upd_eq, q3]; exact (congrArg (fun z => nI z - 1) (show cb = (cb - 1) + 1 by omega)).trans (nI_pred _)) (by omega) (by omega) (by rw [← q6, hGone_s]; simp only [if_neg h2, hGoneS]))
        · show G (w, 0, 0) (zPut f b (zHut w cy b γ (hFd γ mc σ (n)))) [(0, .ref (w.2 (b))), (1, .int (hSnow σ)), (2, .int (nI (n)))] 101 []
          have hm2 : hFd γ mc σ n 0 = nI mc := (hFd_lo (by decide) n).trans hm
          have hg2 : hFd γ mc σ n 1 = nI bk := (hFd_lo (by decide) n).trans hg
          refine zr_iload_n X 2 dX2_endDay_101 rfl rfl ?_
          refine zr_aload_n X 0 dX2_endDay_102 rfl rfl ?_
          refine zr_get X zfd_RX2_53 (b) (show b < w.1 by omega) (zPut_in (o := 0) (by omega)) (v := .int ((hFd γ mc σ (n)) 1)) rfl dX2_endDay_103 ?_
          refine zr_icmp_ge X (tgt := 141) dX2_endDay_106 (by decide) (fun h => False.elim (nI_ge hn101 (by omega) (by rw [← hg2]; exact h))) (fun _ => ?_)
          refine zr_aload_n X 0 dX2_endDay_109 rfl rfl ?_
          refine zr_iload_n X 2 dX2_endDay_110 rfl rfl ?_
          have q02 := hγ n (by omega)
          refine zr_cV X (As := [.int (nI (n))]) (rest := []) (f' := zPut f b (zHut w cy b γ (hFd γ mc σ (n)))) (st' := [.ref (w.2 (b + (11 + γ n)))]) zc_X2_groupAt (b) (show b < w.1 by omega) (zPut_in (o := 0) (by omega)) (q9 := _) rfl rfl (k_groupAt hb hm2 hmc hg2 hbk hγ (by omega)) ⟨Nat.le_of_ble_eq_true rfl, Nat.le_of_ble_eq_true rfl⟩ ⟨Nat.le_refl _, Nat.le_refl _⟩ rfl (Nat.le_of_ble_eq_true rfl) zm_2_94 rfl dX2_endDay_111 rfl ?_
          refine zr_astore_n X (ls' := [(3, .ref (w.2 (b + (11 + γ n)))), (0, .ref (w.2 (b))), (1, .int (hSnow σ)), (2, .int (nI (n)))]) dX2_endDay_114 rfl (by decide) rfl ?_
          refine zr_aload_n X 0 dX2_endDay_115 rfl rfl ?_
          refine zr_ifnull X dX2_endDay_116 ?_
          refine zr_aload_n X 0 dX2_endDay_119 rfl rfl ?_
          refine zr_aload_n X 1 dX2_endDay_120 rfl rfl ?_
          refine zr_get X zfd_RX2_59 (b) (show b < w.1 by omega) (zPut_in (o := 0) (by omega)) (v := .int ((hFd γ mc σ (n)) 3)) rfl dX2_endDay_121 ?_
          refine zr_cV X (As := [.int ((hFd γ mc σ (n)) 3)]) (rest := []) (f' := zPut f b (zHut w cy b γ (hFd γ mc σ (n)))) (st' := [.int (gThere (fun i9 => (hFd γ mc σ (n)) (55 + 6 * (γ n) + i9)) ((hFd γ mc σ (n)) 3))]) zc_X0_isThereOn (b + (11 + γ n)) (show b + (11 + γ n) < w.1 by omega) ((zPut_in (o := 11 + γ n) (by omega)).trans (zHut_group (k := γ n))) (q9 := _) rfl rfl (k_Group_isThereOn (show b + (11 + γ n) < w.1 by omega) ((zPut_in (o := 11 + γ n) (by omega)).trans (zHut_group (k := γ n)))) ⟨Nat.le_of_ble_eq_true rfl, Nat.le_of_ble_eq_true rfl⟩ ⟨Nat.le_refl _, Nat.le_refl _⟩ rfl (Nat.le_of_ble_eq_true rfl) zm_2_225 rfl dX2_endDay_124 rfl ?_
          refine zr_if_eq X (tgt := 135) dX2_endDay_127 (by decide) (fun h3 => ?_) (fun h4 => ?_)
          · refine zr_iinc X (v := nI (n + 1)) (ls' := [(2, .int (nI (n + 1))), (3, .ref (w.2 (b + (11 + γ n)))), (0, .ref (w.2 (b))), (1, .int (hSnow σ))]) 3 dX2_endDay_135 rfl (zinc1 _) (by decide) rfl ?_
            refine zr_goto X (tgt := 101) dX2_endDay_138 (by decide) ?_
            refine zr_loc X (ls' := [(0, .ref (w.2 (b))), (1, .int (hSnow σ)), (2, .int (nI (n + 1)))]) [2, 3, 0] rfl ?_
            exact zcast (f2 := zPut f b (zHut w cy b γ (hFd γ mc σ (n + 1)))) (ls2 := [(0, .ref (w.2 (b))), (1, .int (hSnow σ)), (2, .int (nI (n + 1)))]) (by rw [hFd_s]; simp only [if_pos h3, hFdS]) rfl ih101
          · refine zr_aload_n X 1 dX2_endDay_130 rfl rfl ?_
            refine zr_aload_n X 0 dX2_endDay_131 rfl rfl ?_
            refine zr_cV X (As := [.ref (w.2 (b + (11 + γ n)))]) (rest := []) (f' := zPut f b (zHut w cy b γ (hFeed (hFd γ mc σ (n)) (γ n)))) (st' := []) zc_X2_feed (b) (show b < w.1 by omega) (zPut_in (o := 0) (by omega)) (q9 := _) rfl rfl (k_feed hb hm2 hmc hg2 hbk hγ (show γ n < 10 by omega)) ⟨Nat.le_of_ble_eq_true rfl, Nat.le_of_ble_eq_true rfl⟩ ⟨Nat.le_refl _, Nat.le_refl _⟩ rfl (Nat.le_of_ble_eq_true rfl) zm_2_229 rfl dX2_endDay_132 rfl ?_
            refine zr_iinc X (v := nI (n + 1)) (ls' := [(2, .int (nI (n + 1))), (3, .ref (w.2 (b + (11 + γ n)))), (0, .ref (w.2 (b))), (1, .int (hSnow σ))]) 3 dX2_endDay_135 rfl (zinc1 _) (by decide) rfl ?_
            refine zr_goto X (tgt := 101) dX2_endDay_138 (by decide) ?_
            refine zr_loc X (ls' := [(0, .ref (w.2 (b))), (1, .int (hSnow σ)), (2, .int (nI (n + 1)))]) [2, 3, 0] rfl ?_
            exact zcast (f2 := zPut f b (zHut w cy b γ (hFd γ mc σ (n + 1)))) (ls2 := [(0, .ref (w.2 (b))), (1, .int (hSnow σ)), (2, .int (nI (n + 1)))]) (by rw [hFd_s]; simp only [if_neg h4, hFdS]) rfl ih101
      · show G (w, 0, 0) (zPut f b (zHut w cy b γ (hMul σ (n)))) [(0, .ref (w.2 (b))), (1, .int (hSnow σ)), (2, .int (nI (n)))] 62 []
        have hm2 : hMul σ n 0 = nI mc := (hMul_lo (by decide) n).trans hm
        have hg2 : hMul σ n 1 = nI bk := (hMul_lo (by decide) n).trans hg
        refine zr_iload_n X 2 dX2_endDay_62 rfl rfl ?_
        refine zr_aload_n X 0 dX2_endDay_63 rfl rfl ?_
        refine zr_get X zfd_RX2_50 (b) (show b < w.1 by omega) (zPut_in (o := 0) (by omega)) (v := .int ((hMul σ (n)) 0)) rfl dX2_endDay_64 ?_
        refine zr_icmp_ge X (tgt := 99) dX2_endDay_67 (by decide) (fun h => False.elim (nI_ge hn62 (by omega) (by rw [← hm2]; exact h))) (fun _ => ?_)
        refine zr_aload_n X 0 dX2_endDay_70 rfl rfl ?_
        refine zr_iload_n X 2 dX2_endDay_71 rfl rfl ?_
        refine zr_cV X (As := [.int (nI (n))]) (rest := []) (f' := zPut f b (zHut w cy b γ (hMul σ (n)))) (st' := [.ref (w.2 (b + (7 + n)))]) zc_X2_muleAt (b) (show b < w.1 by omega) (zPut_in (o := 0) (by omega)) (q9 := _) rfl rfl (k_muleAt hb hm2 hmc hg2 hbk hγ (by omega)) ⟨Nat.le_of_ble_eq_true rfl, Nat.le_of_ble_eq_true rfl⟩ ⟨Nat.le_refl _, Nat.le_refl _⟩ rfl (Nat.le_of_ble_eq_true rfl) zm_2_42 rfl dX2_endDay_72 rfl ?_
        refine zr_astore_n X (ls' := [(3, .ref (w.2 (b + (7 + n)))), (0, .ref (w.2 (b))), (1, .int (hSnow σ)), (2, .int (nI (n)))]) dX2_endDay_75 rfl (by decide) rfl ?_
        refine zr_aload_n X 0 dX2_endDay_76 rfl rfl ?_
        refine zr_ifnull X dX2_endDay_77 ?_
        refine zr_aload_n X 0 dX2_endDay_80 rfl rfl ?_
        refine zr_iload_n X 2 dX2_endDay_81 rfl rfl ?_
        refine zr_cV X (As := [.int (hSnow σ)]) (rest := []) (f' := va_up (zPut f b (zHut w cy b γ (hMul σ (n)))) (b + (7 + n)) (eMule ((mComeOn (fun i9 => (hMul σ (n)) (19 + 9 * n + i9)) (hSnow σ)).1))) (st' := [.int ((mComeOn (fun i9 => (hMul σ (n)) (19 + 9 * n + i9)) (hSnow σ)).2)]) zc_X4_comeOn (b + (7 + n)) (show b + (7 + n) < w.1 by omega) ((zPut_in (o := 7 + n) (by omega)).trans (zHut_mule (k := n) (by omega))) (q9 := _) rfl rfl (k_Mule_comeOn (show b + (7 + n) < w.1 by omega) ((zPut_in (o := 7 + n) (by omega)).trans (zHut_mule (k := n) (by omega)))) ⟨Nat.le_of_ble_eq_true rfl, Nat.le_of_ble_eq_true rfl⟩ ⟨Nat.le_refl _, Nat.le_refl _⟩ rfl (Nat.le_of_ble_eq_true rfl) zm_2_206 rfl dX2_endDay_82 rfl ?_
        refine zcw (f2 := zPut f b (zHut w cy b γ (setR (hMul σ (n)) (19 + 9 * n) 9 ((mComeOn (fun i9 => (hMul σ (n)) (19 + 9 * n + i9)) (hSnow σ)).1)))) (zu_mule (k := n) (by omega)) ?_
        refine zr_if_eq X (tgt := 93) dX2_endDay_85 (by decide) (fun h5 => ?_) (fun h6 => ?_)
        · refine zr_iinc X (v := nI (n + 1)) (ls' := [(2, .int (nI (n + 1))), (3, .ref (w.2 (b + (7 + n)))), (0, .ref (w.2 (b))), (1, .int (hSnow σ))]) 3 dX2_endDay_93 rfl (zinc1 _) (by decide) rfl ?_
          refine zr_goto X (tgt := 62) dX2_endDay_96 (by decide) ?_
          refine zr_loc X (ls' := [(0, .ref (w.2 (b))), (1, .int (hSnow σ)), (2, .int (nI (n + 1)))]) [2, 3, 0] rfl ?_
          exact zcast (f2 := zPut f b (zHut w cy b γ (hMul σ (n + 1)))) (ls2 := [(0, .ref (w.2 (b))), (1, .int (hSnow σ)), (2, .int (nI (n + 1)))]) (by rw [hMul_s]; simp only [if_pos h5, hMulS]) rfl ih62
        · refine zr_aload_n X 1 dX2_endDay_88 rfl rfl ?_
          refine zr_aload_n X 0 dX2_endDay_89 rfl rfl ?_
          refine zr_cV X (As := [.ref (w.2 (b + (7 + n)))]) (rest := []) (f' := zPut f b (zHut w cy b γ (hUnload n (setR (hMul σ (n)) (19 + 9 * n) 9 ((mComeOn (fun i9 => (hMul σ (n)) (19 + 9 * n + i9)) (hSnow σ)).1))))) (st' := []) zc_X2_unload (b) (show b < w.1 by omega) (zPut_in (o := 0) (by omega)) (q9 := _) rfl rfl (k_unload hb ((setR_out (by omega)).trans hm2) hmc ((setR_out (by omega)).trans hg2) hbk hγ (show n < 4 by omega)) ⟨Nat.le_of_ble_eq_true rfl, Nat.le_of_ble_eq_true rfl⟩ ⟨Nat.le_refl _, Nat.le_refl _⟩ rfl (Nat.le_of_ble_eq_true rfl) zm_2_210 rfl dX2_endDay_90 rfl ?_
          refine zr_iinc X (v := nI (n + 1)) (ls' := [(2, .int (nI (n + 1))), (3, .ref (w.2 (b + (7 + n)))), (0, .ref (w.2 (b))), (1, .int (hSnow σ))]) 3 dX2_endDay_93 rfl (zinc1 _) (by decide) rfl ?_
          refine zr_goto X (tgt := 62) dX2_endDay_96 (by decide) ?_
          refine zr_loc X (ls' := [(0, .ref (w.2 (b))), (1, .int (hSnow σ)), (2, .int (nI (n + 1)))]) [2, 3, 0] rfl ?_
          exact zcast (f2 := zPut f b (zHut w cy b γ (hMul σ (n + 1)))) (ls2 := [(0, .ref (w.2 (b))), (1, .int (hSnow σ)), (2, .int (nI (n + 1)))]) (by rw [hMul_s]; simp only [if_neg h6, hMulS]) rfl ih62
    refine zr_istore_n X (ls' := [(1, .int (hSnow σ)), (0, .ref (w.2 (b)))]) dX2_endDay_42 rfl (by decide) rfl ?_
    refine zr_iload_n X 0 dX2_endDay_43 rfl rfl ?_
    refine zr_if_eq X (tgt := 60) dX2_endDay_44 (by decide) (fun h7 => ?_) (fun h8 => ?_)
    · exact zjoin (by simp only [if_pos h7, hD1]) rfl rfl J60
    · refine zr_aload_n X 1 dX2_endDay_47 rfl rfl ?_
      refine zr_get X zfd_RX2_33 (b) (show b < w.1 by omega) (zPut_in (o := 0) (by omega)) (v := .ref (w.2 (b + 5))) rfl dX2_endDay_48 ?_
      refine zr_dup X dX2_endDay_51 rfl ?_
      refine zr_getN X zfn_RX2_154 (b + 5) (show b + 5 < w.1 by omega) (zPut_in (o := 5) (by omega)) (v := .int ((hD0 σ) 11)) rfl dX2_endDay_52 ?_
      refine zr_iconst X (v := 1) dX2_endDay_55 (by decide) ?_
      refine zr_iadd X dX2_endDay_56 ?_
      refine zr_putN X zfn_RX2_154 zty_3_6 (b + 5) (show b + 5 < w.1 by omega) (zPut_in (o := 5) (by omega)) rfl rfl (Nat.le_of_ble_eq_true rfl) (eLedger_set _ _ 6 (by decide)) dX2_endDay_57 ?_
      refine zcw (f2 := zPut f b (zHut w cy b γ (upd (hD0 σ) 11 (((hD0 σ) 11) + 1)))) (zu_ledger (i := 6) (by decide)) ?_
      exact zjoin (by simp only [if_neg h8, hD1]) rfl rfl J60
  refine zr_aload_n X 0 dX2_endDay_20 rfl rfl ?_
  refine zr_get X zfd_RX2_44 (b) (show b < w.1 by omega) (zPut_in (o := 0) (by omega)) (v := .int ((hD0 σ) 4)) rfl dX2_endDay_21 ?_
  refine zr_bipush X (v := 100) dX2_endDay_24 (by decide) ?_
  refine zr_irem X dX2_endDay_26 (by decide) ?_
  refine zr_aload_n X 0 dX2_endDay_27 rfl rfl ?_
  refine zr_get X zfd_RX2_40 (b) (show b < w.1 by omega) (zPut_in (o := 0) (by omega)) (v := .ref (w.2 (b + 6))) rfl dX2_endDay_28 ?_
  refine zr_getN X zfn_RX2_151 (b + 6) (show b + 6 < w.1 by omega) (zPut_in (o := 6) (by omega)) (v := .int ((hD0 σ) 18)) rfl dX2_endDay_31 ?_
  refine zr_icmp_ge X (tgt := 41) dX2_endDay_34 (by decide) (fun h9 => ?_) (fun h10 => ?_)
  · refine zr_iconst X (v := 0) dX2_endDay_41 (by decide) ?_
    exact zjoin rfl rfl (by simp only [if_pos h9, hSnow]) J42
  · refine zr_iconst X (v := 1) dX2_endDay_37 (by decide) ?_
    refine zr_goto X (tgt := 42) dX2_endDay_38 (by decide) ?_
    exact zjoin rfl rfl (by simp only [if_neg h10, hSnow]) J42
