def hUn1 (k : Nat) (σ : Nat → Int32) : Nat → Int32 := setR σ (19 + 9 * k) 9 (upd (upd (fun i => σ (19 + 9 * k + i)) 4 0) 7 (σ (19 + 9 * k + 7) + σ (19 + 9 * k + 4)))
def hUnAge (k : Nat) (σ : Nat → Int32) : Int32 := hUn1 k σ 3 - hUn1 k σ (19 + 9 * k + 5)
def hUnSt (k : Nat) (σ : Nat → Int32) : Int32 := if (80 - (shMany (fun k9 => hUn1 k σ (115 + k9)) 0 20 21)) < (σ (19 + 9 * k + 4)) then 80 - (shMany (fun k9 => hUn1 k σ (115 + k9)) 0 20 21) else σ (19 + 9 * k + 4)
def hUn2 (k : Nat) (σ : Nat → Int32) : Nat → Int32 := setA (hUn1 k σ) (shStore (fun k9 => hUn1 k σ (115 + k9)) (hUnAge k σ) (hUnSt k σ))
def hUnload (k : Nat) (σ : Nat → Int32) : Nat → Int32 := if (hUnAge k σ) ≤ 20 then upd (hUn2 k σ) 10 (hUn2 k σ 10 + (σ (19 + 9 * k + 4) - hUnSt k σ)) else upd (hUn1 k σ) 9 (hUn1 k σ 9 + σ (19 + 9 * k + 4))
set_option maxHeartbeats 4000000 in
set_option maxRecDepth 100000 in
theorem k_unload {l : Launch} {D : va_G} {cy : Nat → ClassId} {w : zW} {f : zF} {b mc bk : Nat} {γ : Nat → Nat} {σ : Nat → Int32} {k : Nat} (hb : b + 21 ≤ w.1) (hm : σ 0 = nI mc) (hmc : mc ≤ 4) (hg : σ 1 = nI bk) (hbk : bk ≤ 10) (hγ : ∀ k, k < 10 → γ k < 10) (hk : k < 4) : zSd l D cy yX2_unload cX2_unload 5 none 1 24 [.ref (w.2 (b)), .ref (w.2 (b + (7 + k)))] w (zPut f b (zHut w cy b γ σ)) none (zPut f b (zHut w cy b γ (hUnload k σ))) := by
  refine zSd.intro (by decide) (Nat.le_of_ble_eq_true rfl) (fun G X E => ?_)
  show G (w, 0, 0) (zPut f b (zHut w cy b γ σ)) [(0, .ref (w.2 (b))), (1, .ref (w.2 (b + (7 + k))))] 0 []
  refine zr_aload_n X 1 dX2_unload_0 rfl rfl ?_
  refine zr_cV X (As := []) (rest := []) (f' := va_up (zPut f b (zHut w cy b γ σ)) (b + (7 + k)) (eMule (upd (upd (fun i9 => σ (19 + 9 * k + i9)) 4 0) 7 (σ (19 + 9 * k + 7) + σ (19 + 9 * k + 4))))) (st' := [.int (σ (19 + 9 * k + 4))]) zc_X4_unload (b + (7 + k)) (show b + (7 + k) < w.1 by omega) ((zPut_in (o := 7 + k) (by omega)).trans (zHut_mule (k := k) (by omega))) (q9 := _) rfl rfl (k_Mule_unload (show b + (7 + k) < w.1 by omega) ((zPut_in (o := 7 + k) (by omega)).trans (zHut_mule (k := k) (by omega)))) ⟨Nat.le_of_ble_eq_true rfl, Nat.le_of_ble_eq_true rfl⟩ ⟨Nat.le_refl _, Nat.le_refl _⟩ rfl (Nat.le_of_ble_eq_true rfl) zm_2_214 rfl dX2_unload_1 rfl ?_
  refine zcw (f2 := zPut f b (zHut w cy b γ (hUn1 k σ))) (zu_mule (k := k) (by omega)) ?_
  refine zr_istore_n X (ls' := [(2, .int (σ (19 + 9 * k + 4))), (0, .ref (w.2 (b))), (1, .ref (w.2 (b + (7 + k))))]) dX2_unload_4 rfl (by decide) rfl ?_
  refine zr_aload_n X 1 dX2_unload_5 rfl rfl ?_
  refine zr_get X zfd_RX2_59 (b) (show b < w.1 by omega) (zPut_in (o := 0) (by omega)) (v := .int ((hUn1 k σ) 3)) rfl dX2_unload_6 ?_
  refine zr_aload_n X 2 dX2_unload_9 rfl rfl ?_
  refine zr_getN X zfn_RX2_183 (b + (7 + k)) (show b + (7 + k) < w.1 by omega) ((zPut_in (o := 7 + k) (by omega)).trans (zHut_mule (k := k) (by omega))) (v := .int ((hUn1 k σ) (19 + 9 * k + 5))) rfl dX2_unload_10 ?_
  refine zr_isub X dX2_unload_13 ?_
  refine zr_istore_n X (ls' := [(3, .int (hUnAge k σ)), (2, .int (σ (19 + 9 * k + 4))), (0, .ref (w.2 (b))), (1, .ref (w.2 (b + (7 + k))))]) dX2_unload_14 rfl (by decide) rfl ?_
  refine zr_iload_n X 0 dX2_unload_15 rfl rfl ?_
  refine zr_bipush X (v := 20) dX2_unload_16 (by decide) ?_
  refine zr_icmp_le X (tgt := 35) dX2_unload_18 (by decide) (fun h1 => ?_) (fun h2 => ?_)
  · refine zr_iload_n X 1 dX2_unload_35 rfl rfl ?_
    refine zr_bipush X (v := 80) dX2_unload_36 (by decide) ?_
    refine zr_aload_n X 2 dX2_unload_38 rfl rfl ?_
    refine zr_get X zfd_RX2_26 (b) (show b < w.1 by omega) (zPut_in (o := 0) (by omega)) (v := .ref (w.2 (b + 3))) rfl dX2_unload_39 ?_
    refine zr_iconst X (v := 0) dX2_unload_42 (by decide) ?_
    refine zr_bipush X (v := 20) dX2_unload_43 (by decide) ?_
    refine zr_cV X (As := [.int (0), .int (20)]) (rest := [.int (80), .int (σ (19 + 9 * k + 4))]) (f' := zPut f b (zHut w cy b γ (hUn1 k σ))) (st' := [.int (shMany (fun k9 => (hUn1 k σ) (115 + k9)) 0 20 21), .int (80), .int (σ (19 + 9 * k + 4))]) zc_X7_howMany (b + 3) (show b + 3 < w.1 by omega) (zPut_in (o := 3) (by omega)) (q9 := _) rfl rfl (k_Shelf_howMany (show b + 3 < w.1 by omega) (show b + 4 < w.1 by omega) (zPut_in (o := 3) (by omega)) (zPut_in (o := 4) (by omega)) (by omega)) ⟨Nat.le_of_ble_eq_true rfl, Nat.le_of_ble_eq_true rfl⟩ ⟨Nat.le_refl _, Nat.le_refl _⟩ rfl (Nat.le_of_ble_eq_true rfl) zm_2_34 rfl dX2_unload_45 rfl ?_
    refine zr_isub X dX2_unload_48 ?_
    refine zr_min X zm_2_218 (by decide) (by show 0 + 13 ≤ _; decide) (Nat.le_refl _) (Nat.le_refl _) dX2_unload_49 ?_
    refine zr_istore X (ls' := [(4, .int (hUnSt k σ)), (3, .int (hUnAge k σ)), (2, .int (σ (19 + 9 * k + 4))), (0, .ref (w.2 (b))), (1, .ref (w.2 (b + (7 + k))))]) dX2_unload_52 (by decide) rfl ?_
    refine zr_aload_n X 3 dX2_unload_54 rfl rfl ?_
    refine zr_get X zfd_RX2_26 (b) (show b < w.1 by omega) (zPut_in (o := 0) (by omega)) (v := .ref (w.2 (b + 3))) rfl dX2_unload_55 ?_
    refine zr_iload_n X 1 dX2_unload_58 rfl rfl ?_
    refine zr_iload X 0 dX2_unload_59 rfl ?_
    refine zr_cV X (As := [.int (hUnAge k σ), .int (hUnSt k σ)]) (rest := []) (f' := va_up (zPut f b (zHut w cy b γ (hUn1 k σ))) (b + 4) (eInts cy 21 (shStore (fun k9 => (hUn1 k σ) (115 + k9)) (hUnAge k σ) (hUnSt k σ)))) (st' := []) zc_X7_store (b + 3) (show b + 3 < w.1 by omega) (zPut_in (o := 3) (by omega)) (q9 := _) rfl rfl (k_Shelf_store (show b + 3 < w.1 by omega) (show b + 4 < w.1 by omega) (zPut_in (o := 3) (by omega)) (zPut_in (o := 4) (by omega)) (by omega)) ⟨Nat.le_of_ble_eq_true rfl, Nat.le_of_ble_eq_true rfl⟩ ⟨Nat.le_refl _, Nat.le_refl _⟩ rfl (Nat.le_of_ble_eq_true rfl) zm_2_221 rfl dX2_unload_61 rfl ?_
    refine zcw (f2 := zPut f b (zHut w cy b γ (hUn2 k σ))) (zu_shelf) ?_
    refine zr_aload_n X 3 dX2_unload_64 rfl rfl ?_
    refine zr_get X zfd_RX2_33 (b) (show b < w.1 by omega) (zPut_in (o := 0) (by omega)) (v := .ref (w.2 (b + 5))) rfl dX2_unload_65 ?_
    refine zr_dup X dX2_unload_68 rfl ?_
    refine zr_getN X zfn_RX2_197 (b + 5) (show b + 5 < w.1 by omega) (zPut_in (o := 5) (by omega)) (v := .int ((hUn2 k σ) 10)) rfl dX2_unload_69 ?_
    refine zr_iload_n X 2 dX2_unload_72 rfl rfl ?_
    refine zr_iload X 0 dX2_unload_73 rfl ?_
    refine zr_isub X dX2_unload_75 ?_
    refine zr_iadd X dX2_unload_76 ?_
    refine zr_putN X zfn_RX2_197 zty_3_5 (b + 5) (show b + 5 < w.1 by omega) (zPut_in (o := 5) (by omega)) rfl rfl (Nat.le_of_ble_eq_true rfl) (eLedger_set _ _ 5 (by decide)) dX2_unload_77 ?_
    refine zcw (f2 := zPut f b (zHut w cy b γ (upd (hUn2 k σ) 10 (((hUn2 k σ) 10) + ((σ (19 + 9 * k + 4)) - (hUnSt k σ)))))) (zu_ledger (i := 5) (by decide)) ?_
    exact zret_v E rfl dX2_unload_80 (by simp only [hUnload, if_pos h1])
  · refine zr_aload_n X 2 dX2_unload_21 rfl rfl ?_
    refine zr_get X zfd_RX2_33 (b) (show b < w.1 by omega) (zPut_in (o := 0) (by omega)) (v := .ref (w.2 (b + 5))) rfl dX2_unload_22 ?_
    refine zr_dup X dX2_unload_25 rfl ?_
    refine zr_getN X zfn_RX2_171 (b + 5) (show b + 5 < w.1 by omega) (zPut_in (o := 5) (by omega)) (v := .int ((hUn1 k σ) 9)) rfl dX2_unload_26 ?_
    refine zr_iload_n X 1 dX2_unload_29 rfl rfl ?_
    refine zr_iadd X dX2_unload_30 ?_
    refine zr_putN X zfn_RX2_171 zty_3_4 (b + 5) (show b + 5 < w.1 by omega) (zPut_in (o := 5) (by omega)) rfl rfl (Nat.le_of_ble_eq_true rfl) (eLedger_set _ _ 4 (by decide)) dX2_unload_31 ?_
    refine zcw (f2 := zPut f b (zHut w cy b γ (upd (hUn1 k σ) 9 (((hUn1 k σ) 9) + (σ (19 + 9 * k + 4)))))) (zu_ledger (i := 4) (by decide)) ?_
    exact zret_v E rfl dX2_unload_34 (by simp only [hUnload, if_neg h2])
def hFwant (σ : Nat → Int32) (j : Nat) : Int32 := (σ (55 + 6 * j + 1) + 1) / 2
def hFt1 (σ : Nat → Int32) (j : Nat) : (Nat → Int32) × Int32 := shTake (fun k => σ (115 + k)) 0 (σ 17) (hFwant σ j) 21
def hFwhole (σ : Nat → Int32) (j : Nat) : Int32 := hFwant σ j - (hFt1 σ j).2
def hFs1 (σ : Nat → Int32) (j : Nat) : Nat → Int32 := setA σ (hFt1 σ j).1
def hFlack (σ : Nat → Int32) (j : Nat) : Int32 := hFwant σ j - hFwhole σ j
def hFst (σ : Nat → Int32) (j : Nat) : Int32 := hFs1 σ j 17 + 1
def hFhalf (σ : Nat → Int32) (j : Nat) : Int32 := shMany (fun k => hFs1 σ j (115 + k)) (hFst σ j) 20 21 / 2
def hFsoup (σ : Nat → Int32) (j : Nat) : Int32 := if hFhalf σ j < hFlack σ j then hFhalf σ j else hFlack σ j
def hFt2 (σ : Nat → Int32) (j : Nat) : (Nat → Int32) × Int32 := shTake (fun k => hFs1 σ j (115 + k)) (hFst σ j) 20 (hFsoup σ j * 2) 21
def hFs2 (σ : Nat → Int32) (j : Nat) : Nat → Int32 := setA (hFs1 σ j) (hFt2 σ j).1
def hFs3 (σ : Nat → Int32) (j : Nat) : Nat → Int32 := upd (hFs2 σ j) 8 (hFs1 σ j 8 + (hFwhole σ j + (hFsoup σ j * 2 - (hFt2 σ j).2)))
def hFfare (σ : Nat → Int32) (j : Nat) : Int32 := if (hFlack σ j) = 0 then 3 else 2
def hFs4 (s : Nat → Int32) (j : Nat) : Nat → Int32 := upd (upd s (55 + 6 * j + 5) (s (55 + 6 * j + 5) + 1)) 12 ((upd s (55 + 6 * j + 5) (s (55 + 6 * j + 5) + 1)) 12 + 1)
def hFpay (s : Nat → Int32) (j : Nat) (x : Int32) : Nat → Int32 := upd (upd (upd s (55 + 6 * j + 4) (s (55 + 6 * j + 4) + x)) 13 ((upd s (55 + 6 * j + 4) (s (55 + 6 * j + 4) + x)) 13 + x)) 5 ((upd (upd s (55 + 6 * j + 4) (s (55 + 6 * j + 4) + x)) 13 ((upd s (55 + 6 * j + 4) (s (55 + 6 * j + 4) + x)) 13 + x)) 5 + x)
def hFeed (σ : Nat → Int32) (j : Nat) : Nat → Int32 := if (hFlack σ j) ≤ (hFsoup σ j) then hFpay (hFs3 σ j) j (hFfare σ j * hFs3 σ j (55 + 6 * j + 1)) else hFpay (hFs4 (hFs3 σ j) j) j (1 * hFs4 (hFs3 σ j) j (55 + 6 * j + 1))
set_option maxHeartbeats 4000000 in
set_option maxRecDepth 100000 in
theorem k_feed {l : Launch} {D : va_G} {cy : Nat → ClassId} {w : zW} {f : zF} {b mc bk : Nat} {γ : Nat → Nat} {σ : Nat → Int32} {j : Nat} (hb : b + 21 ≤ w.1) (hm : σ 0 = nI mc) (hmc : mc ≤ 4) (hg : σ 1 = nI bk) (hbk : bk ≤ 10) (hγ : ∀ k, k < 10 → γ k < 10) (hj : j < 10) : zSd l D cy yX2_feed cX2_feed 9 none 1 26 [.ref (w.2 (b)), .ref (w.2 (b + (11 + j)))] w (zPut f b (zHut w cy b γ σ)) none (zPut f b (zHut w cy b γ (hFeed σ j))) := by
  refine zSd.intro (by decide) (Nat.le_of_ble_eq_true rfl) (fun G X E => ?_)
  show G (w, 0, 0) (zPut f b (zHut w cy b γ σ)) [(0, .ref (w.2 (b))), (1, .ref (w.2 (b + (11 + j))))] 0 []
  refine zr_aload_n X 1 dX2_feed_0 rfl rfl ?_
  refine zr_cV X (As := []) (rest := []) (f' := zPut f b (zHut w cy b γ σ)) (st' := [.int (hFwant σ j)]) zc_X0_loavesADay (b + (11 + j)) (show b + (11 + j) < w.1 by omega) ((zPut_in (o := 11 + j) (by omega)).trans (zHut_group (k := j))) (q9 := _) rfl rfl (k_Group_loavesADay (show b + (11 + j) < w.1 by omega) ((zPut_in (o := 11 + j) (by omega)).trans (zHut_group (k := j)))) ⟨Nat.le_of_ble_eq_true rfl, Nat.le_of_ble_eq_true rfl⟩ ⟨Nat.le_refl _, Nat.le_refl _⟩ rfl (Nat.le_of_ble_eq_true rfl) zm_2_233 rfl dX2_feed_1 rfl ?_
  refine zr_istore_n X (ls' := [(2, .int (hFwant σ j)), (0, .ref (w.2 (b))), (1, .ref (w.2 (b + (11 + j))))]) dX2_feed_4 rfl (by decide) rfl ?_
  refine zr_aload_n X 1 dX2_feed_5 rfl rfl ?_
  refine zr_get X zfd_RX2_26 (b) (show b < w.1 by omega) (zPut_in (o := 0) (by omega)) (v := .ref (w.2 (b + 3))) rfl dX2_feed_6 ?_
  refine zr_iconst X (v := 0) dX2_feed_9 (by decide) ?_
  refine zr_aload_n X 1 dX2_feed_10 rfl rfl ?_
  refine zr_get X zfd_RX2_40 (b) (show b < w.1 by omega) (zPut_in (o := 0) (by omega)) (v := .ref (w.2 (b + 6))) rfl dX2_feed_11 ?_
  refine zr_getN X zfn_RX2_203 (b + 6) (show b + 6 < w.1 by omega) (zPut_in (o := 6) (by omega)) (v := .int (σ 17)) rfl dX2_feed_14 ?_
  refine zr_iload_n X 0 dX2_feed_17 rfl rfl ?_
  refine zr_cV X (As := [.int (0), .int (σ 17), .int (hFwant σ j)]) (rest := []) (f' := va_up (zPut f b (zHut w cy b γ σ)) (b + 4) (eInts cy 21 ((shTake (fun k9 => σ (115 + k9)) 0 (σ 17) (hFwant σ j) 21).1))) (st' := [.int (hFwhole σ j)]) zc_X7_take (b + 3) (show b + 3 < w.1 by omega) (zPut_in (o := 3) (by omega)) (q9 := _) rfl rfl (k_Shelf_take (show b + 3 < w.1 by omega) (show b + 4 < w.1 by omega) (zPut_in (o := 3) (by omega)) (zPut_in (o := 4) (by omega)) (by omega)) ⟨Nat.le_of_ble_eq_true rfl, Nat.le_of_ble_eq_true rfl⟩ ⟨Nat.le_refl _, Nat.le_refl _⟩ rfl (Nat.le_of_ble_eq_true rfl) zm_2_237 rfl dX2_feed_18 rfl ?_
  refine zcw (f2 := zPut f b (zHut w cy b γ (hFs1 σ j))) (zu_shelf) ?_
  refine zr_istore_n X (ls' := [(3, .int (hFwhole σ j)), (2, .int (hFwant σ j)), (0, .ref (w.2 (b))), (1, .ref (w.2 (b + (11 + j))))]) dX2_feed_21 rfl (by decide) rfl ?_
  refine zr_iload_n X 1 dX2_feed_22 rfl rfl ?_
  refine zr_iload_n X 0 dX2_feed_23 rfl rfl ?_
  refine zr_isub X dX2_feed_24 ?_
  refine zr_istore X (ls' := [(4, .int (hFlack σ j)), (3, .int (hFwhole σ j)), (2, .int (hFwant σ j)), (0, .ref (w.2 (b))), (1, .ref (w.2 (b + (11 + j))))]) dX2_feed_25 (by decide) rfl ?_
  refine zr_aload_n X 3 dX2_feed_27 rfl rfl ?_
  refine zr_get X zfd_RX2_40 (b) (show b < w.1 by omega) (zPut_in (o := 0) (by omega)) (v := .ref (w.2 (b + 6))) rfl dX2_feed_28 ?_
  refine zr_getN X zfn_RX2_203 (b + 6) (show b + 6 < w.1 by omega) (zPut_in (o := 6) (by omega)) (v := .int ((hFs1 σ j) 17)) rfl dX2_feed_31 ?_
  refine zr_iconst X (v := 1) dX2_feed_34 (by decide) ?_
  refine zr_iadd X dX2_feed_35 ?_
  refine zr_istore X (ls' := [(5, .int (hFst σ j)), (4, .int (hFlack σ j)), (3, .int (hFwhole σ j)), (2, .int (hFwant σ j)), (0, .ref (w.2 (b))), (1, .ref (w.2 (b + (11 + j))))]) dX2_feed_36 (by decide) rfl ?_
  refine zr_iload X 1 dX2_feed_38 rfl ?_
  refine zr_aload_n X 4 dX2_feed_40 rfl rfl ?_
  refine zr_get X zfd_RX2_26 (b) (show b < w.1 by omega) (zPut_in (o := 0) (by omega)) (v := .ref (w.2 (b + 3))) rfl dX2_feed_41 ?_
  refine zr_iload X 0 dX2_feed_44 rfl ?_
  refine zr_bipush X (v := 20) dX2_feed_46 (by decide) ?_
  refine zr_cV X (As := [.int (hFst σ j), .int (20)]) (rest := [.int (hFlack σ j)]) (f' := zPut f b (zHut w cy b γ (hFs1 σ j))) (st' := [.int (shMany (fun k => hFs1 σ j (115 + k)) (hFst σ j) 20 21), .int (hFlack σ j)]) zc_X7_howMany (b + 3) (show b + 3 < w.1 by omega) (zPut_in (o := 3) (by omega)) (q9 := _) rfl rfl (k_Shelf_howMany (show b + 3 < w.1 by omega) (show b + 4 < w.1 by omega) (zPut_in (o := 3) (by omega)) (zPut_in (o := 4) (by omega)) (by omega)) ⟨Nat.le_of_ble_eq_true rfl, Nat.le_of_ble_eq_true rfl⟩ ⟨Nat.le_refl _, Nat.le_refl _⟩ rfl (Nat.le_of_ble_eq_true rfl) zm_2_34 rfl dX2_feed_48 rfl ?_
  refine zr_iconst X (v := 2) dX2_feed_51 (by decide) ?_
  refine zr_idiv X dX2_feed_52 (by decide) ?_
  refine zr_min X zm_2_218 (by decide) (by show 0 + 13 ≤ _; decide) (Nat.le_refl _) (Nat.le_refl _) dX2_feed_53 ?_
  refine zr_istore X (ls' := [(6, .int (hFsoup σ j)), (5, .int (hFst σ j)), (4, .int (hFlack σ j)), (3, .int (hFwhole σ j)), (2, .int (hFwant σ j)), (0, .ref (w.2 (b))), (1, .ref (w.2 (b + (11 + j))))]) dX2_feed_56 (by decide) rfl ?_
  refine zr_aload_n X 5 dX2_feed_58 rfl rfl ?_
  refine zr_get X zfd_RX2_33 (b) (show b < w.1 by omega) (zPut_in (o := 0) (by omega)) (v := .ref (w.2 (b + 5))) rfl dX2_feed_59 ?_
  refine zr_dup X dX2_feed_62 rfl ?_
  refine zr_getN X zfn_RX2_145 (b + 5) (show b + 5 < w.1 by omega) (zPut_in (o := 5) (by omega)) (v := .int ((hFs1 σ j) 8)) rfl dX2_feed_63 ?_
  refine zr_iload_n X 3 dX2_feed_66 rfl rfl ?_
  refine zr_aload_n X 5 dX2_feed_67 rfl rfl ?_
  refine zr_get X zfd_RX2_26 (b) (show b < w.1 by omega) (zPut_in (o := 0) (by omega)) (v := .ref (w.2 (b + 3))) rfl dX2_feed_68 ?_
  refine zr_iload X 1 dX2_feed_71 rfl ?_
  refine zr_bipush X (v := 20) dX2_feed_73 (by decide) ?_
  refine zr_iload X 0 dX2_feed_75 rfl ?_
  refine zr_iconst X (v := 2) dX2_feed_77 (by decide) ?_
  refine zr_imul X dX2_feed_78 ?_
  refine zr_cV X (As := [.int (hFst σ j), .int (20), .int ((hFsoup σ j) * 2)]) (rest := [.int (hFwhole σ j), .int ((hFs1 σ j) 8), .ref (w.2 (b + 5))]) (f' := va_up (zPut f b (zHut w cy b γ (hFs1 σ j))) (b + 4) (eInts cy 21 ((shTake (fun k9 => (hFs1 σ j) (115 + k9)) (hFst σ j) 20 ((hFsoup σ j) * 2) 21).1))) (st' := [.int ((hFsoup σ j) * 2 - (hFt2 σ j).2), .int (hFwhole σ j), .int ((hFs1 σ j) 8), .ref (w.2 (b + 5))]) zc_X7_take (b + 3) (show b + 3 < w.1 by omega) (zPut_in (o := 3) (by omega)) (q9 := _) rfl rfl (k_Shelf_take (show b + 3 < w.1 by omega) (show b + 4 < w.1 by omega) (zPut_in (o := 3) (by omega)) (zPut_in (o := 4) (by omega)) (by omega)) ⟨Nat.le_of_ble_eq_true rfl, Nat.le_of_ble_eq_true rfl⟩ ⟨Nat.le_refl _, Nat.le_refl _⟩ rfl (Nat.le_of_ble_eq_true rfl) zm_2_237 rfl dX2_feed_79 rfl ?_
  refine zcw (f2 := zPut f b (zHut w cy b γ (hFs2 σ j))) (zu_shelf) ?_
  refine zr_iadd X dX2_feed_82 ?_
  refine zr_iadd X dX2_feed_83 ?_
  refine zr_putN X zfn_RX2_145 zty_3_3 (b + 5) (show b + 5 < w.1 by omega) (zPut_in (o := 5) (by omega)) rfl rfl (Nat.le_of_ble_eq_true rfl) (eLedger_set _ _ 3 (by decide)) dX2_feed_84 ?_
  refine zcw (f2 := zPut f b (zHut w cy b γ (hFs3 σ j))) (zu_ledger (i := 3) (by decide)) ?_
  have J97 : G (w, 0, 0) (zPut f b (zHut w cy b γ (hFs3 σ j))) [(0, .ref (w.2 (b))), (1, .ref (w.2 (b + (11 + j)))), (2, .int (hFwant σ j)), (3, .int (hFwhole σ j)), (4, .int (hFlack σ j)), (5, .int (hFst σ j)), (6, .int (hFsoup σ j))] 97 [.int (hFfare σ j)] := by
    refine zr_istore X (ls' := [(7, .int (hFfare σ j)), (0, .ref (w.2 (b))), (1, .ref (w.2 (b + (11 + j)))), (2, .int (hFwant σ j)), (3, .int (hFwhole σ j)), (4, .int (hFlack σ j)), (5, .int (hFst σ j)), (6, .int (hFsoup σ j))]) dX2_feed_97 (by decide) rfl ?_
    refine zr_iload X 7 dX2_feed_99 rfl ?_
    refine zr_iload X 5 dX2_feed_101 rfl ?_
    refine zr_icmp_ge X (tgt := 132) dX2_feed_103 (by decide) (fun h1 => ?_) (fun h2 => ?_)
    · refine zr_iload X 0 dX2_feed_132 rfl ?_
      refine zr_aload_n X 2 dX2_feed_134 rfl rfl ?_
      refine zr_getN X zfn_RX2_214 (b + (11 + j)) (show b + (11 + j) < w.1 by omega) ((zPut_in (o := 11 + j) (by omega)).trans (zHut_group (k := j))) (v := .int ((hFs3 σ j) (55 + 6 * j + 1))) rfl dX2_feed_135 ?_
      refine zr_imul X dX2_feed_138 ?_
      refine zr_istore X (ls' := [(8, .int ((hFfare σ j) * ((hFs3 σ j) (55 + 6 * j + 1)))), (7, .int (hFfare σ j)), (0, .ref (w.2 (b))), (1, .ref (w.2 (b + (11 + j)))), (2, .int (hFwant σ j)), (3, .int (hFwhole σ j)), (4, .int (hFlack σ j)), (5, .int (hFst σ j)), (6, .int (hFsoup σ j))]) dX2_feed_139 (by decide) rfl ?_
      refine zr_aload_n X 3 dX2_feed_141 rfl rfl ?_
      refine zr_dup X dX2_feed_142 rfl ?_
      refine zr_getN X zfn_RX2_217 (b + (11 + j)) (show b + (11 + j) < w.1 by omega) ((zPut_in (o := 11 + j) (by omega)).trans (zHut_group (k := j))) (v := .int ((hFs3 σ j) (55 + 6 * j + 4))) rfl dX2_feed_143 ?_
      refine zr_iload X 0 dX2_feed_146 rfl ?_
      refine zr_iadd X dX2_feed_148 ?_
      refine zr_putN X zfn_RX2_217 zty_0_4 (b + (11 + j)) (show b + (11 + j) < w.1 by omega) ((zPut_in (o := 11 + j) (by omega)).trans (zHut_group (k := j))) rfl rfl (Nat.le_of_ble_eq_true rfl) (eGroup_set _ _ 4 (by decide)) dX2_feed_149 ?_
      refine zcw (f2 := zPut f b (zHut w cy b γ (upd (hFs3 σ j) (55 + 6 * j + 4) (((hFs3 σ j) (55 + 6 * j + 4)) + ((hFfare σ j) * ((hFs3 σ j) (55 + 6 * j + 1))))))) (zu_groupF (k := j) (i := 4) (by omega) (by decide)) ?_
      refine zr_aload_n X 2 dX2_feed_152 rfl rfl ?_
      refine zr_get X zfd_RX2_33 (b) (show b < w.1 by omega) (zPut_in (o := 0) (by omega)) (v := .ref (w.2 (b + 5))) rfl dX2_feed_153 ?_
      refine zr_dup X dX2_feed_156 rfl ?_
      refine zr_getN X zfn_RX2_220 (b + 5) (show b + 5 < w.1 by omega) (zPut_in (o := 5) (by omega)) (v := .int ((upd (hFs3 σ j) (55 + 6 * j + 4) (((hFs3 σ j) (55 + 6 * j + 4)) + ((hFfare σ j) * ((hFs3 σ j) (55 + 6 * j + 1))))) 13)) rfl dX2_feed_157 ?_
      refine zr_iload X 0 dX2_feed_160 rfl ?_
      refine zr_iadd X dX2_feed_162 ?_
      refine zr_putN X zfn_RX2_220 zty_3_8 (b + 5) (show b + 5 < w.1 by omega) (zPut_in (o := 5) (by omega)) rfl rfl (Nat.le_of_ble_eq_true rfl) (eLedger_set _ _ 8 (by decide)) dX2_feed_163 ?_
      refine zcw (f2 := zPut f b (zHut w cy b γ (upd (upd (hFs3 σ j) (55 + 6 * j + 4) (((hFs3 σ j) (55 + 6 * j + 4)) + ((hFfare σ j) * ((hFs3 σ j) (55 + 6 * j + 1))))) 13 (((upd (hFs3 σ j) (55 + 6 * j + 4) (((hFs3 σ j) (55 + 6 * j + 4)) + ((hFfare σ j) * ((hFs3 σ j) (55 + 6 * j + 1))))) 13) + ((hFfare σ j) * ((hFs3 σ j) (55 + 6 * j + 1))))))) (zu_ledger (i := 8) (by decide)) ?_
      refine zr_aload_n X 2 dX2_feed_166 rfl rfl ?_
      refine zr_get X zfd_RX2_33 (b) (show b < w.1 by omega) (zPut_in (o := 0) (by omega)) (v := .ref (w.2 (b + 5))) rfl dX2_feed_167 ?_
      refine zr_dup X dX2_feed_170 rfl ?_
      refine zr_getN X zfn_RX2_128 (b + 5) (show b + 5 < w.1 by omega) (zPut_in (o := 5) (by omega)) (v := .int ((upd (upd (hFs3 σ j) (55 + 6 * j + 4) (((hFs3 σ j) (55 + 6 * j + 4)) + ((hFfare σ j) * ((hFs3 σ j) (55 + 6 * j + 1))))) 13 (((upd (hFs3 σ j) (55 + 6 * j + 4) (((hFs3 σ j) (55 + 6 * j + 4)) + ((hFfare σ j) * ((hFs3 σ j) (55 + 6 * j + 1))))) 13) + ((hFfare σ j) * ((hFs3 σ j) (55 + 6 * j + 1))))) 5)) rfl dX2_feed_171 ?_
      refine zr_iload X 0 dX2_feed_174 rfl ?_
      refine zr_iadd X dX2_feed_176 ?_
      refine zr_putN X zfn_RX2_128 zty_3_0 (b + 5) (show b + 5 < w.1 by omega) (zPut_in (o := 5) (by omega)) rfl rfl (Nat.le_of_ble_eq_true rfl) (eLedger_set _ _ 0 (by decide)) dX2_feed_177 ?_
      refine zcw (f2 := zPut f b (zHut w cy b γ (upd (upd (upd (hFs3 σ j) (55 + 6 * j + 4) (((hFs3 σ j) (55 + 6 * j + 4)) + ((hFfare σ j) * ((hFs3 σ j) (55 + 6 * j + 1))))) 13 (((upd (hFs3 σ j) (55 + 6 * j + 4) (((hFs3 σ j) (55 + 6 * j + 4)) + ((hFfare σ j) * ((hFs3 σ j) (55 + 6 * j + 1))))) 13) + ((hFfare σ j) * ((hFs3 σ j) (55 + 6 * j + 1))))) 5 (((upd (upd (hFs3 σ j) (55 + 6 * j + 4) (((hFs3 σ j) (55 + 6 * j + 4)) + ((hFfare σ j) * ((hFs3 σ j) (55 + 6 * j + 1))))) 13 (((upd (hFs3 σ j) (55 + 6 * j + 4) (((hFs3 σ j) (55 + 6 * j + 4)) + ((hFfare σ j) * ((hFs3 σ j) (55 + 6 * j + 1))))) 13) + ((hFfare σ j) * ((hFs3 σ j) (55 + 6 * j + 1))))) 5) + ((hFfare σ j) * ((hFs3 σ j) (55 + 6 * j + 1))))))) (zu_ledger (i := 0) (by decide)) ?_
      exact zret_v E rfl dX2_feed_180 (by simp only [hFeed, hFpay, hFs4, if_pos h1])
    · refine zr_iconst X (v := 1) dX2_feed_106 (by decide) ?_
      refine zr_istore X (ls' := [(7, .int (1)), (0, .ref (w.2 (b))), (1, .ref (w.2 (b + (11 + j)))), (2, .int (hFwant σ j)), (3, .int (hFwhole σ j)), (4, .int (hFlack σ j)), (5, .int (hFst σ j)), (6, .int (hFsoup σ j))]) dX2_feed_107 (by decide) rfl ?_
      refine zr_aload_n X 2 dX2_feed_109 rfl rfl ?_
      refine zr_dup X dX2_feed_110 rfl ?_
      refine zr_getN X zfn_RX2_210 (b + (11 + j)) (show b + (11 + j) < w.1 by omega) ((zPut_in (o := 11 + j) (by omega)).trans (zHut_group (k := j))) (v := .int ((hFs3 σ j) (55 + 6 * j + 5))) rfl dX2_feed_111 ?_
      refine zr_iconst X (v := 1) dX2_feed_114 (by decide) ?_
      refine zr_iadd X dX2_feed_115 ?_
      refine zr_putN X zfn_RX2_210 zty_0_5 (b + (11 + j)) (show b + (11 + j) < w.1 by omega) ((zPut_in (o := 11 + j) (by omega)).trans (zHut_group (k := j))) rfl rfl (Nat.le_of_ble_eq_true rfl) (eGroup_set _ _ 5 (by decide)) dX2_feed_116 ?_
      refine zcw (f2 := zPut f b (zHut w cy b γ (upd (hFs3 σ j) (55 + 6 * j + 5) (((hFs3 σ j) (55 + 6 * j + 5)) + 1)))) (zu_groupF (k := j) (i := 5) (by omega) (by decide)) ?_
      refine zr_aload_n X 1 dX2_feed_119 rfl rfl ?_
      refine zr_get X zfd_RX2_33 (b) (show b < w.1 by omega) (zPut_in (o := 0) (by omega)) (v := .ref (w.2 (b + 5))) rfl dX2_feed_120 ?_
      refine zr_dup X dX2_feed_123 rfl ?_
      refine zr_getN X zfn_RX2_213 (b + 5) (show b + 5 < w.1 by omega) (zPut_in (o := 5) (by omega)) (v := .int ((upd (hFs3 σ j) (55 + 6 * j + 5) (((hFs3 σ j) (55 + 6 * j + 5)) + 1)) 12)) rfl dX2_feed_124 ?_
      refine zr_iconst X (v := 1) dX2_feed_127 (by decide) ?_
      refine zr_iadd X dX2_feed_128 ?_
      refine zr_putN X zfn_RX2_213 zty_3_7 (b + 5) (show b + 5 < w.1 by omega) (zPut_in (o := 5) (by omega)) rfl rfl (Nat.le_of_ble_eq_true rfl) (eLedger_set _ _ 7 (by decide)) dX2_feed_129 ?_
      refine zcw (f2 := zPut f b (zHut w cy b γ (upd (upd (hFs3 σ j) (55 + 6 * j + 5) (((hFs3 σ j) (55 + 6 * j + 5)) + 1)) 12 (((upd (hFs3 σ j) (55 + 6 * j + 5) (((hFs3 σ j) (55 + 6 * j + 5)) + 1)) 12) + 1)))) (zu_ledger (i := 7) (by decide)) ?_
      refine zr_iload X 0 dX2_feed_132 rfl ?_
      refine zr_aload_n X 2 dX2_feed_134 rfl rfl ?_
      refine zr_getN X zfn_RX2_214 (b + (11 + j)) (show b + (11 + j) < w.1 by omega) ((zPut_in (o := 11 + j) (by omega)).trans (zHut_group (k := j))) (v := .int ((upd (upd (hFs3 σ j) (55 + 6 * j + 5) (((hFs3 σ j) (55 + 6 * j + 5)) + 1)) 12 (((upd (hFs3 σ j) (55 + 6 * j + 5) (((hFs3 σ j) (55 + 6 * j + 5)) + 1)) 12) + 1)) (55 + 6 * j + 1))) rfl dX2_feed_135 ?_
      refine zr_imul X dX2_feed_138 ?_
      refine zr_istore X (ls' := [(8, .int (1 * ((upd (upd (hFs3 σ j) (55 + 6 * j + 5) (((hFs3 σ j) (55 + 6 * j + 5)) + 1)) 12 (((upd (hFs3 σ j) (55 + 6 * j + 5) (((hFs3 σ j) (55 + 6 * j + 5)) + 1)) 12) + 1)) (55 + 6 * j + 1)))), (7, .int (1)), (0, .ref (w.2 (b))), (1, .ref (w.2 (b + (11 + j)))), (2, .int (hFwant σ j)), (3, .int (hFwhole σ j)), (4, .int (hFlack σ j)), (5, .int (hFst σ j)), (6, .int (hFsoup σ j))]) dX2_feed_139 (by decide) rfl ?_
      refine zr_aload_n X 3 dX2_feed_141 rfl rfl ?_
      refine zr_dup X dX2_feed_142 rfl ?_
      refine zr_getN X zfn_RX2_217 (b + (11 + j)) (show b + (11 + j) < w.1 by omega) ((zPut_in (o := 11 + j) (by omega)).trans (zHut_group (k := j))) (v := .int ((upd (upd (hFs3 σ j) (55 + 6 * j + 5) (((hFs3 σ j) (55 + 6 * j + 5)) + 1)) 12 (((upd (hFs3 σ j) (55 + 6 * j + 5) (((hFs3 σ j) (55 + 6 * j + 5)) + 1)) 12) + 1)) (55 + 6 * j + 4))) rfl dX2_feed_143 ?_
      refine zr_iload X 0 dX2_feed_146 rfl ?_
      refine zr_iadd X dX2_feed_148 ?_
      refine zr_putN X zfn_RX2_217 zty_0_4 (b + (11 + j)) (show b + (11 + j) < w.1 by omega) ((zPut_in (o := 11 + j) (by omega)).trans (zHut_group (k := j))) rfl rfl (Nat.le_of_ble_eq_true rfl) (eGroup_set _ _ 4 (by decide)) dX2_feed_149 ?_
      refine zcw (f2 := zPut f b (zHut w cy b γ (upd (upd (upd (hFs3 σ j) (55 + 6 * j + 5) (((hFs3 σ j) (55 + 6 * j + 5)) + 1)) 12 (((upd (hFs3 σ j) (55 + 6 * j + 5) (((hFs3 σ j) (55 + 6 * j + 5)) + 1)) 12) + 1)) (55 + 6 * j + 4) (((upd (upd (hFs3 σ j) (55 + 6 * j + 5) (((hFs3 σ j) (55 + 6 * j + 5)) + 1)) 12 (((upd (hFs3 σ j) (55 + 6 * j + 5) (((hFs3 σ j) (55 + 6 * j + 5)) + 1)) 12) + 1)) (55 + 6 * j + 4)) + (1 * ((upd (upd (hFs3 σ j) (55 + 6 * j + 5) (((hFs3 σ j) (55 + 6 * j + 5)) + 1)) 12 (((upd (hFs3 σ j) (55 + 6 * j + 5) (((hFs3 σ j) (55 + 6 * j + 5)) + 1)) 12) + 1)) (55 + 6 * j + 1))))))) (zu_groupF (k := j) (i := 4) (by omega) (by decide)) ?_
      refine zr_aload_n X 2 dX2_feed_152 rfl rfl ?_
      refine zr_get X zfd_RX2_33 (b) (show b < w.1 by omega) (zPut_in (o := 0) (by omega)) (v := .ref (w.2 (b + 5))) rfl dX2_feed_153 ?_
      refine zr_dup X dX2_feed_156 rfl ?_
      refine zr_getN X zfn_RX2_220 (b + 5) (show b + 5 < w.1 by omega) (zPut_in (o := 5) (by omega)) (v := .int ((upd (upd (upd (hFs3 σ j) (55 + 6 * j + 5) (((hFs3 σ j) (55 + 6 * j + 5)) + 1)) 12 (((upd (hFs3 σ j) (55 + 6 * j + 5) (((hFs3 σ j) (55 + 6 * j + 5)) + 1)) 12) + 1)) (55 + 6 * j + 4) (((upd (upd (hFs3 σ j) (55 + 6 * j + 5) (((hFs3 σ j) (55 + 6 * j + 5)) + 1)) 12 (((upd (hFs3 σ j) (55 + 6 * j + 5) (((hFs3 σ j) (55 + 6 * j + 5)) + 1)) 12) + 1)) (55 + 6 * j + 4)) + (1 * ((upd (upd (hFs3 σ j) (55 + 6 * j + 5) (((hFs3 σ j) (55 + 6 * j + 5)) + 1)) 12 (((upd (hFs3 σ j) (55 + 6 * j + 5) (((hFs3 σ j) (55 + 6 * j + 5)) + 1)) 12) + 1)) (55 + 6 * j + 1))))) 13)) rfl dX2_feed_157 ?_
      refine zr_iload X 0 dX2_feed_160 rfl ?_
      refine zr_iadd X dX2_feed_162 ?_
      refine zr_putN X zfn_RX2_220 zty_3_8 (b + 5) (show b + 5 < w.1 by omega) (zPut_in (o := 5) (by omega)) rfl rfl (Nat.le_of_ble_eq_true rfl) (eLedger_set _ _ 8 (by decide)) dX2_feed_163 ?_
      refine zcw (f2 := zPut f b (zHut w cy b γ (upd (upd (upd (upd (hFs3 σ j) (55 + 6 * j + 5) (((hFs3 σ j) (55 + 6 * j + 5)) + 1)) 12 (((upd (hFs3 σ j) (55 + 6 * j + 5) (((hFs3 σ j) (55 + 6 * j + 5)) + 1)) 12) + 1)) (55 + 6 * j + 4) (((upd (upd (hFs3 σ j) (55 + 6 * j + 5) (((hFs3 σ j) (55 + 6 * j + 5)) + 1)) 12 (((upd (hFs3 σ j) (55 + 6 * j + 5) (((hFs3 σ j) (55 + 6 * j + 5)) + 1)) 12) + 1)) (55 + 6 * j + 4)) + (1 * ((upd (upd (hFs3 σ j) (55 + 6 * j + 5) (((hFs3 σ j) (55 + 6 * j + 5)) + 1)) 12 (((upd (hFs3 σ j) (55 + 6 * j + 5) (((hFs3 σ j) (55 + 6 * j + 5)) + 1)) 12) + 1)) (55 + 6 * j + 1))))) 13 (((upd (upd (upd (hFs3 σ j) (55 + 6 * j + 5) (((hFs3 σ j) (55 + 6 * j + 5)) + 1)) 12 (((upd (hFs3 σ j) (55 + 6 * j + 5) (((hFs3 σ j) (55 + 6 * j + 5)) + 1)) 12) + 1)) (55 + 6 * j + 4) (((upd (upd (hFs3 σ j) (55 + 6 * j + 5) (((hFs3 σ j) (55 + 6 * j + 5)) + 1)) 12 (((upd (hFs3 σ j) (55 + 6 * j + 5) (((hFs3 σ j) (55 + 6 * j + 5)) + 1)) 12) + 1)) (55 + 6 * j + 4)) + (1 * ((upd (upd (hFs3 σ j) (55 + 6 * j + 5) (((hFs3 σ j) (55 + 6 * j + 5)) + 1)) 12 (((upd (hFs3 σ j) (55 + 6 * j + 5) (((hFs3 σ j) (55 + 6 * j + 5)) + 1)) 12) + 1)) (55 + 6 * j + 1))))) 13) + (1 * ((upd (upd (hFs3 σ j) (55 + 6 * j + 5) (((hFs3 σ j) (55 + 6 * j + 5)) + 1)) 12 (((upd (hFs3 σ j) (55 + 6 * j + 5) (((hFs3 σ j) (55 + 6 * j + 5)) + 1)) 12) + 1)) (55 + 6 * j + 1))))))) (zu_ledger (i := 8) (by decide)) ?_
      refine zr_aload_n X 2 dX2_feed_166 rfl rfl ?_
      refine zr_get X zfd_RX2_33 (b) (show b < w.1 by omega) (zPut_in (o := 0) (by omega)) (v := .ref (w.2 (b + 5))) rfl dX2_feed_167 ?_
      refine zr_dup X dX2_feed_170 rfl ?_
      refine zr_getN X zfn_RX2_128 (b + 5) (show b + 5 < w.1 by omega) (zPut_in (o := 5) (by omega)) (v := .int ((upd (upd (upd (upd (hFs3 σ j) (55 + 6 * j + 5) (((hFs3 σ j) (55 + 6 * j + 5)) + 1)) 12 (((upd (hFs3 σ j) (55 + 6 * j + 5) (((hFs3 σ j) (55 + 6 * j + 5)) + 1)) 12) + 1)) (55 + 6 * j + 4) (((upd (upd (hFs3 σ j) (55 + 6 * j + 5) (((hFs3 σ j) (55 + 6 * j + 5)) + 1)) 12 (((upd (hFs3 σ j) (55 + 6 * j + 5) (((hFs3 σ j) (55 + 6 * j + 5)) + 1)) 12) + 1)) (55 + 6 * j + 4)) + (1 * ((upd (upd (hFs3 σ j) (55 + 6 * j + 5) (((hFs3 σ j) (55 + 6 * j + 5)) + 1)) 12 (((upd (hFs3 σ j) (55 + 6 * j + 5) (((hFs3 σ j) (55 + 6 * j + 5)) + 1)) 12) + 1)) (55 + 6 * j + 1))))) 13 (((upd (upd (upd (hFs3 σ j) (55 + 6 * j + 5) (((hFs3 σ j) (55 + 6 * j + 5)) + 1)) 12 (((upd (hFs3 σ j) (55 + 6 * j + 5) (((hFs3 σ j) (55 + 6 * j + 5)) + 1)) 12) + 1)) (55 + 6 * j + 4) (((upd (upd (hFs3 σ j) (55 + 6 * j + 5) (((hFs3 σ j) (55 + 6 * j + 5)) + 1)) 12 (((upd (hFs3 σ j) (55 + 6 * j + 5) (((hFs3 σ j) (55 + 6 * j + 5)) + 1)) 12) + 1)) (55 + 6 * j + 4)) + (1 * ((upd (upd (hFs3 σ j) (55 + 6 * j + 5) (((hFs3 σ j) (55 + 6 * j + 5)) + 1)) 12 (((upd (hFs3 σ j) (55 + 6 * j + 5) (((hFs3 σ j) (55 + 6 * j + 5)) + 1)) 12) + 1)) (55 + 6 * j + 1))))) 13) + (1 * ((upd (upd (hFs3 σ j) (55 + 6 * j + 5) (((hFs3 σ j) (55 + 6 * j + 5)) + 1)) 12 (((upd (hFs3 σ j) (55 + 6 * j + 5) (((hFs3 σ j) (55 + 6 * j + 5)) + 1)) 12) + 1)) (55 + 6 * j + 1))))) 5)) rfl dX2_feed_171 ?_
      refine zr_iload X 0 dX2_feed_174 rfl ?_
      refine zr_iadd X dX2_feed_176 ?_
      refine zr_putN X zfn_RX2_128 zty_3_0 (b + 5) (show b + 5 < w.1 by omega) (zPut_in (o := 5) (by omega)) rfl rfl (Nat.le_of_ble_eq_true rfl) (eLedger_set _ _ 0 (by decide)) dX2_feed_177 ?_
      refine zcw (f2 := zPut f b (zHut w cy b γ (upd (upd (upd (upd (upd (hFs3 σ j) (55 + 6 * j + 5) (((hFs3 σ j) (55 + 6 * j + 5)) + 1)) 12 (((upd (hFs3 σ j) (55 + 6 * j + 5) (((hFs3 σ j) (55 + 6 * j + 5)) + 1)) 12) + 1)) (55 + 6 * j + 4) (((upd (upd (hFs3 σ j) (55 + 6 * j + 5) (((hFs3 σ j) (55 + 6 * j + 5)) + 1)) 12 (((upd (hFs3 σ j) (55 + 6 * j + 5) (((hFs3 σ j) (55 + 6 * j + 5)) + 1)) 12) + 1)) (55 + 6 * j + 4)) + (1 * ((upd (upd (hFs3 σ j) (55 + 6 * j + 5) (((hFs3 σ j) (55 + 6 * j + 5)) + 1)) 12 (((upd (hFs3 σ j) (55 + 6 * j + 5) (((hFs3 σ j) (55 + 6 * j + 5)) + 1)) 12) + 1)) (55 + 6 * j + 1))))) 13 (((upd (upd (upd (hFs3 σ j) (55 + 6 * j + 5) (((hFs3 σ j) (55 + 6 * j + 5)) + 1)) 12 (((upd (hFs3 σ j) (55 + 6 * j + 5) (((hFs3 σ j) (55 + 6 * j + 5)) + 1)) 12) + 1)) (55 + 6 * j + 4) (((upd (upd (hFs3 σ j) (55 + 6 * j + 5) (((hFs3 σ j) (55 + 6 * j + 5)) + 1)) 12 (((upd (hFs3 σ j) (55 + 6 * j + 5) (((hFs3 σ j) (55 + 6 * j + 5)) + 1)) 12) + 1)) (55 + 6 * j + 4)) + (1 * ((upd (upd (hFs3 σ j) (55 + 6 * j + 5) (((hFs3 σ j) (55 + 6 * j + 5)) + 1)) 12 (((upd (hFs3 σ j) (55 + 6 * j + 5) (((hFs3 σ j) (55 + 6 * j + 5)) + 1)) 12) + 1)) (55 + 6 * j + 1))))) 13) + (1 * ((upd (upd (hFs3 σ j) (55 + 6 * j + 5) (((hFs3 σ j) (55 + 6 * j + 5)) + 1)) 12 (((upd (hFs3 σ j) (55 + 6 * j + 5) (((hFs3 σ j) (55 + 6 * j + 5)) + 1)) 12) + 1)) (55 + 6 * j + 1))))) 5 (((upd (upd (upd (upd (hFs3 σ j) (55 + 6 * j + 5) (((hFs3 σ j) (55 + 6 * j + 5)) + 1)) 12 (((upd (hFs3 σ j) (55 + 6 * j + 5) (((hFs3 σ j) (55 + 6 * j + 5)) + 1)) 12) + 1)) (55 + 6 * j + 4) (((upd (upd (hFs3 σ j) (55 + 6 * j + 5) (((hFs3 σ j) (55 + 6 * j + 5)) + 1)) 12 (((upd (hFs3 σ j) (55 + 6 * j + 5) (((hFs3 σ j) (55 + 6 * j + 5)) + 1)) 12) + 1)) (55 + 6 * j + 4)) + (1 * ((upd (upd (hFs3 σ j) (55 + 6 * j + 5) (((hFs3 σ j) (55 + 6 * j + 5)) + 1)) 12 (((upd (hFs3 σ j) (55 + 6 * j + 5) (((hFs3 σ j) (55 + 6 * j + 5)) + 1)) 12) + 1)) (55 + 6 * j + 1))))) 13 (((upd (upd (upd (hFs3 σ j) (55 + 6 * j + 5) (((hFs3 σ j) (55 + 6 * j + 5)) + 1)) 12 (((upd (hFs3 σ j) (55 + 6 * j + 5) (((hFs3 σ j) (55 + 6 * j + 5)) + 1)) 12) + 1)) (55 + 6 * j + 4) (((upd (upd (hFs3 σ j) (55 + 6 * j + 5) (((hFs3 σ j) (55 + 6 * j + 5)) + 1)) 12 (((upd (hFs3 σ j) (55 + 6 * j + 5) (((hFs3 σ j) (55 + 6 * j + 5)) + 1)) 12) + 1)) (55 + 6 * j + 4)) + (1 * ((upd (upd (hFs3 σ j) (55 + 6 * j + 5) (((hFs3 σ j) (55 + 6 * j + 5)) + 1)) 12 (((upd (hFs3 σ j) (55 + 6 * j + 5) (((hFs3 σ j) (55 + 6 * j + 5)) + 1)) 12) + 1)) (55 + 6 * j + 1))))) 13) + (1 * ((upd (upd (hFs3 σ j) (55 + 6 * j + 5) (((hFs3 σ j) (55 + 6 * j + 5)) + 1)) 12 (((upd (hFs3 σ j) (55 + 6 * j + 5) (((hFs3 σ j) (55 + 6 * j + 5)) + 1)) 12) + 1)) (55 + 6 * j + 1))))) 5) + (1 * ((upd (upd (hFs3 σ j) (55 + 6 * j + 5) (((hFs3 σ j) (55 + 6 * j + 5)) + 1)) 12 (((upd (hFs3 σ j) (55 + 6 * j + 5) (((hFs3 σ j) (55 + 6 * j + 5)) + 1)) 12) + 1)) (55 + 6 * j + 1))))))) (zu_ledger (i := 0) (by decide)) ?_
      exact zret_v E rfl dX2_feed_180 (by simp only [hFeed, hFpay, hFs4, if_neg h2])
  refine zr_iload X 2 dX2_feed_87 rfl ?_
  refine zr_if_ne X (tgt := 96) dX2_feed_89 (by decide) (fun h3 => ?_) (fun h4 => ?_)
  · refine zr_iconst X (v := 2) dX2_feed_96 (by decide) ?_
    refine zr_loc X (ls' := [(0, .ref (w.2 (b))), (1, .ref (w.2 (b + (11 + j)))), (2, .int (hFwant σ j)), (3, .int (hFwhole σ j)), (4, .int (hFlack σ j)), (5, .int (hFst σ j)), (6, .int (hFsoup σ j))]) [5, 6, 4, 3, 2, 1, 0] rfl ?_
    exact zjoin rfl rfl (by simp only [hFeed, hFpay, hFs4, if_neg h3, hFfare]) J97
  · refine zr_iconst X (v := 3) dX2_feed_92 (by decide) ?_
    refine zr_goto X (tgt := 97) dX2_feed_93 (by decide) ?_
    refine zr_loc X (ls' := [(0, .ref (w.2 (b))), (1, .ref (w.2 (b + (11 + j)))), (2, .int (hFwant σ j)), (3, .int (hFwhole σ j)), (4, .int (hFlack σ j)), (5, .int (hFst σ j)), (6, .int (hFsoup σ j))]) [5, 6, 4, 3, 2, 1, 0] rfl ?_
    exact zjoin rfl rfl (by simp only [hFeed, hFpay, hFs4, if_pos h4, hFfare]) J97
