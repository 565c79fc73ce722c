theorem zwin_up {x a b : Int32} (q : b < x) : zwin x a b = 0 := by
  unfold zwin
  split
  · rfl
  · first | rw [if_pos q] | rfl
theorem nI_pred9 {k : Nat} : nI (k + 1) - 1 = nI k := nI_pred k
/-- behind undo -/
def zUn (w : zW) (cy : Nat → ClassId) (f : zF) (s0 s1 : zGS) (hs : Nat → zGS) (δ : Nat → Nat) : Nat → Option Value → zF → Prop
  | 0, r, g => r = some (.int (-1000002)) ∧ g = f
  | k + 1, r, g => r = some (.int (nI k)) ∧ zCl w cy g (cp s0 (hs (δ k))) s1 hs δ k ∧ ∀ t, 129 ≤ t → g t = f t
set_option maxHeartbeats 4000000 in
set_option maxRecDepth 100000 in
theorem k_undo0 {l : Launch} {D : va_G} {cy : Nat → ClassId} {w : zW} {f : zF} {s0 s1 : zGS} {hs : Nat → zGS} {δ : Nat → Nat} (hw : w.1 = 139) (hc : zCl w cy f s0 s1 hs δ 0) : zSp l D cy yX8_undo cX8_undo 2 (some .int) 2 46 [.ref (w.2 (0))] w f (zUn w cy f s0 s1 hs δ 0) := by
  refine zSp.intro (by decide) (Nat.le_of_ble_eq_true rfl) (fun G X E => ?_)
  show G (w, 0, 0) f [(0, .ref (w.2 (0)))] 0 []
  refine zr_aload_n X 0 dX8_undo_0 rfl rfl ?_
  refine zr_get X zfd_RX8_22 (0) (show 0 < w.1 by rw [hw]; omega) hc.1 (v := .ref (w.2 (43))) rfl dX8_undo_1 ?_
  refine zr_cV X (As := []) (rest := []) (f' := f) (st' := [.null]) zc_X1_takeLatest (43) (show 43 < w.1 by rw [hw]; omega) hc.2.2.2.1 (q9 := _) rfl rfl (k_takeLatestN hw hc.2.2.2.1 hc.2.2.2.2.1) ⟨Nat.le_of_ble_eq_true rfl, Nat.le_of_ble_eq_true rfl⟩ ⟨Nat.le_refl _, Nat.le_refl _⟩ rfl (Nat.le_of_ble_eq_true rfl) zm_3_108 rfl dX8_undo_4 rfl ?_
  refine zr_astore_nN X (ls' := [(1, .null), (0, .ref (w.2 (0)))]) dX8_undo_7 rfl (by decide) rfl ?_
  refine zr_aload_nN X 0 dX8_undo_8 rfl rfl ?_
  refine zr_ifnonnullN X dX8_undo_9 ?_
  refine zr_ldc X zm_3_112 dX8_undo_12 ?_
  exact zretp_i E rfl dX8_undo_14 ⟨rfl, rfl⟩
set_option maxHeartbeats 4000000 in
set_option maxRecDepth 100000 in
theorem k_undo {l : Launch} {D : va_G} {cy : Nat → ClassId} {w : zW} {f : zF} {s0 s1 : zGS} {hs : Nat → zGS} {δ : Nat → Nat} {k : Nat} (hw : w.1 = 139) (hc : zCl w cy f s0 s1 hs δ (k + 1)) (hi : zInv s0 s1 hs δ (k + 1)) : zSp l D cy yX8_undo cX8_undo 2 (some .int) 2 46 [.ref (w.2 (0))] w f (zUn w cy f s0 s1 hs δ (k + 1)) := by
  refine zSp.intro (by decide) (Nat.le_of_ble_eq_true rfl) (fun G X E => ?_)
  have hk : k < 4 := Nat.lt_of_succ_le hi.2.2.2.2
  have qx := hi.2.2.2.1 k hk
  show G (w, 0, 0) f [(0, .ref (w.2 (0)))] 0 []
  refine zr_aload_n X 0 dX8_undo_0 rfl rfl ?_
  refine zr_get X zfd_RX8_22 (0) (show 0 < w.1 by rw [hw]; omega) hc.1 (v := .ref (w.2 (43))) rfl dX8_undo_1 ?_
  refine zr_cV X (As := []) (rest := []) (f' := va_up f (43) (eHis w (nI (k + 1) - 1))) (st' := [.ref (w.2 (45 + 21 * δ k))]) zc_X1_takeLatest (43) (show 43 < w.1 by rw [hw]; omega) hc.2.2.2.1 (q9 := _) rfl rfl (k_takeLatest hw hc.2.2.2.1 hc.2.2.2.2.1 hk) ⟨Nat.le_of_ble_eq_true rfl, Nat.le_of_ble_eq_true rfl⟩ ⟨Nat.le_refl _, Nat.le_refl _⟩ rfl (Nat.le_of_ble_eq_true rfl) zm_3_108 rfl dX8_undo_4 rfl ?_
  refine zr_astore_n X (ls' := [(1, .ref (w.2 (45 + 21 * δ k))), (0, .ref (w.2 (0)))]) dX8_undo_7 rfl (by decide) rfl ?_
  refine zr_aload_n X 0 dX8_undo_8 rfl rfl ?_
  refine zr_ifnonnull X (tgt := 15) dX8_undo_9 (by decide) ?_
  refine zr_aload_n X 1 dX8_undo_15 rfl rfl ?_
  refine zr_get X zfd_RX8_10 (0) (show 0 < w.1 by rw [hw]; omega) ((va_up_ne _ _ (by omega)).trans hc.1) (v := .ref (w.2 (1))) rfl dX8_undo_16 ?_
  refine zr_aload_n X 0 dX8_undo_19 rfl rfl ?_
  refine zr_cV X (As := [.ref (w.2 (45 + 21 * δ k))]) (rest := []) (f' := zPut (va_up f (43) (eHis w (nI (k + 1) - 1))) (1) (zHut w cy (1) ((cp s0 (hs (δ k))).1) ((cp s0 (hs (δ k))).2))) (st' := []) zc_X2_copyFrom (1) (show 1 < w.1 by rw [hw]; omega) ((va_up_ne _ _ (by omega)).trans (hc.2.1 (0) (by omega))) (q9 := _) rfl rfl (k_copy (show 1 + 21 ≤ w.1 by rw [hw]; decide) (show 45 + 21 * δ k + 21 ≤ w.1 by rw [hw]; omega) (by omega) (fun o ho => ((va_up_ne _ _ (by omega)).trans (hc.2.1 o ho))) (fun o ho => (va_up_ne _ _ (by omega)).trans (hc.2.2.2.2.2 _ qx o ho)) (hi.1).g (hi.2.2.1 _ qx)) ⟨Nat.le_of_ble_eq_true rfl, Nat.le_of_ble_eq_true rfl⟩ ⟨Nat.le_refl _, Nat.le_refl _⟩ rfl (Nat.le_of_ble_eq_true rfl) zm_2_45 rfl dX8_undo_20 rfl ?_
  refine zr_aload_n X 1 dX8_undo_23 rfl rfl ?_
  refine zr_get X zfd_RX8_22 (0) (show 0 < w.1 by rw [hw]; omega) ((zPut_out (by omega)).trans ((va_up_ne _ _ (by omega)).trans hc.1)) (v := .ref (w.2 (43))) rfl dX8_undo_24 ?_
  refine zr_getN X zfn_RX8_164 (43) (show 43 < w.1 by rw [hw]; omega) ((zPut_out (by omega)).trans (va_up_self _ _ _)) (v := .int (nI (k + 1) - 1)) rfl dX8_undo_27 ?_
  refine zretp_i E rfl dX8_undo_30 ⟨congrArg (fun z => some (Value.int z)) nI_pred9, ⟨((zPut_out (by omega)).trans ((va_up_ne _ _ (by omega)).trans hc.1)), fun o ho => (zPut_in ho), fun o ho => ((zPut_out (by omega)).trans ((va_up_ne _ _ (by omega)).trans (hc.2.2.1 o ho))), (((zPut_out (by omega)).trans (va_up_self _ _ _))).trans (by rw [nI_pred9]), ((zPut_out (by omega)).trans ((va_up_ne _ _ (by omega)).trans hc.2.2.2.2.1)), (fun i hi9 o ho => (zPut_out (by omega)).trans ((va_up_ne _ _ (by omega)).trans (hc.2.2.2.2.2 i hi9 o ho)))⟩, fun t ht => (zPut_out (by omega)).trans (va_up_ne _ _ (by omega))⟩
def cTy (l0 : Int32) (tx : Nat → Int32) (x : Int32) : Int32 × Int32 × (Nat → Int32) := if (zwin x 32 126) = 0 then (-1000001, l0, tx) else if l0 < 0 then (-1000003, l0, tx) else if l0 < 60 then (l0 + 1, l0 + 1, upd tx l0.toNatClampNeg x) else (-1000003, l0, tx)
/-- behind a call that changes the text: its length and signs -/
def zTyp (w : zW) (cy : Nat → ClassId) (f : zF) (p a r c : Int32) (q : Int32 × Int32 × (Nat → Int32)) : Option Value → zF → Prop := fun r9 g => r9 = some (.int q.1) ∧ g 129 = eOrd w (ov q.2.1 p a r c) ∧ g 130 = eChars cy 60 q.2.2 ∧ ∀ t, t ≠ 129 → t ≠ 130 → g t = f t
theorem k_append2 {l : Launch} {D : va_G} {cy : Nat → ClassId} {w : zW} {f : zF} {tx : Nat → Int32} {l0 p a r c x : Int32} (hw : w.1 = 139) (htx : f 130 = eChars cy 60 tx) (h9 : f 129 = eOrd w (ov l0 p a r c)) (hx : ¬ (zwin x 32 126) = 0) : zSp l D cy yX5_append cX5_append 2 (some .int) 0 0 [.ref (w.2 129), .int x] w f (zTyp w cy f p a r c (cTy l0 tx x)) := by
  have e : vp_nar .char x = x := (zchar (fun q => hx (by unfold zwin; rw [if_pos q])) (fun q => hx (zwin_up q))).2
  have k := k_append (l := l) (D := D) (cy := cy) (w := w) (f := f) (x := x) hw htx h9
  rw [e] at k
  unfold cTy oApp at *
  rw [if_neg hx]
  by_cases h1 : l0 < 0
  · rw [if_pos h1, if_pos h1] at k
    rw [if_pos h1]
    exact k.sp ⟨rfl, h9, htx, fun _ _ _ => rfl⟩
  · rw [if_neg h1, if_neg h1] at k
    rw [if_neg h1]
    by_cases h2 : l0 < 60
    · rw [if_pos h2, if_pos h2] at k
      rw [if_pos h2]
      exact k.sp ⟨rfl, va_up_self _ _ _, (va_up_ne _ _ (by decide)).trans (va_up_self _ _ _), fun t h1 h2 => (va_up_ne _ _ h1).trans (va_up_ne _ _ h2)⟩
    · rw [if_neg h2, if_neg h2] at k
      rw [if_neg h2]
      exact k.sp ⟨rfl, h9, htx, fun _ _ _ => rfl⟩
set_option maxHeartbeats 4000000 in
set_option maxRecDepth 100000 in
theorem k_type {l : Launch} {D : va_G} {cy : Nat → ClassId} {w : zW} {f : zF} {s0 s1 : zGS} {hs : Nat → zGS} {δ : Nat → Nat} {k : Nat} {tx : Nat → Int32} {l0 p a r c : Int32} {x : Int32} (hw : w.1 = 139) (hc : zCl w cy f s0 s1 hs δ k) (hi : zInv s0 s1 hs δ k) (htx : f 130 = eChars cy 60 tx) (h9 : f 129 = eOrd w (ov l0 p a r c)) : zSp l D cy yX8_type cX8_type 2 (some .int) 1 22 [.ref (w.2 (0)), .int (x)] w f (zTyp w cy f p a r c (cTy l0 tx x)) := by
  refine zSp.intro (by decide) (Nat.le_of_ble_eq_true rfl) (fun G X E => ?_)
  show G (w, 0, 0) f [(0, .ref (w.2 (0))), (1, .int (x))] 0 []
  refine zr_iload_n X 1 dX8_type_0 rfl rfl ?_
  refine zr_bipush X (v := 32) dX8_type_1 (by decide) ?_
  refine zr_bipush X (v := 126) dX8_type_3 (by decide) ?_
  refine zr_cS X (As := [.int (x), .int (32), .int (126)]) (rest := []) (f' := f) (st' := [.int (zwin x 32 126)]) zc_X8_isWithin k_isWithin ⟨Nat.le_of_ble_eq_true rfl, Nat.le_of_ble_eq_true rfl⟩ ⟨Nat.le_refl _, Nat.le_refl _⟩ rfl (Nat.le_of_ble_eq_true rfl) zm_3_34 rfl dX8_type_5 rfl ?_
  refine zr_if_eq X (tgt := 23) dX8_type_8 (by decide) (fun h1 => ?_) (fun h2 => ?_)
  · refine zr_ldc X zm_3_6 dX8_type_23 ?_
    exact zretp_i E rfl dX8_type_25 (by unfold cTy; rw [if_pos h1]; exact ⟨rfl, h9, htx, fun _ _ _ => rfl⟩)
  · refine zr_aload_n X 0 dX8_type_11 rfl rfl ?_
    refine zr_get X zfd_RX8_29 (0) (show 0 < w.1 by rw [hw]; omega) hc.1 (v := .ref (w.2 (129))) rfl dX8_type_12 ?_
    refine zr_iload_n X 1 dX8_type_15 rfl rfl ?_
    refine zr_i2c X (v := x) dX8_type_16 ((zchar (fun q => h2 (by unfold zwin; rw [if_pos q])) (fun q => h2 (zwin_up q))).1) ?_
    refine zr_cVp X (As := [.int (x)]) (rest := []) zc_X5_append (129) (show 129 < w.1 by rw [hw]; omega) h9 (q9 := _) rfl rfl (k_append2 hw htx h9 h2) ⟨Nat.le_of_ble_eq_true rfl, Nat.le_of_ble_eq_true rfl⟩ ⟨Nat.le_refl _, Nat.le_refl _⟩ rfl (Nat.le_of_ble_eq_true rfl) zm_3_117 rfl dX8_type_17 (fun r1 g1 hp => ?_)
    obtain ⟨rfl, p2⟩ := hp
    show G (w, 0, 0) (g1) [(0, .ref (w.2 (0))), (1, .int (x))] 20 [.int ((cTy l0 tx x).1)]
    refine zr_goto X (tgt := 25) dX8_type_20 (by decide) ?_
    exact zretp_i E rfl dX8_type_25 ⟨rfl, p2⟩
set_option maxHeartbeats 4000000 in
set_option maxRecDepth 100000 in
theorem k_clearText {l : Launch} {D : va_G} {cy : Nat → ClassId} {w : zW} {f : zF} {s0 s1 : zGS} {hs : Nat → zGS} {δ : Nat → Nat} {k : Nat} {tx : Nat → Int32} {l0 p a r c : Int32} (hw : w.1 = 139) (hc : zCl w cy f s0 s1 hs δ k) (hi : zInv s0 s1 hs δ k) (htx : f 130 = eChars cy 60 tx) (h9 : f 129 = eOrd w (ov l0 p a r c)) : zSp l D cy yX8_clearText cX8_clearText 1 (some .int) 1 21 [.ref (w.2 (0))] w f (zTyp w cy f p a r c (l0, 0, tx)) := by
  refine zSp.intro (by decide) (Nat.le_of_ble_eq_true rfl) (fun G X E => ?_)
  show G (w, 0, 0) f [(0, .ref (w.2 (0)))] 0 []
  refine zr_aload_n X 0 dX8_clearText_0 rfl rfl ?_
  refine zr_get X zfd_RX8_29 (0) (show 0 < w.1 by rw [hw]; omega) hc.1 (v := .ref (w.2 (129))) rfl dX8_clearText_1 ?_
  refine zr_cV X (As := []) (rest := []) (f' := va_up f 129 (eOrd w (ov 0 p a r c))) (st' := [.int (l0)]) zc_X5_empty (129) (show 129 < w.1 by rw [hw]; omega) h9 (q9 := _) rfl rfl (k_empty hw h9) ⟨Nat.le_of_ble_eq_true rfl, Nat.le_of_ble_eq_true rfl⟩ ⟨Nat.le_refl _, Nat.le_refl _⟩ rfl (Nat.le_of_ble_eq_true rfl) zm_3_126 rfl dX8_clearText_4 rfl ?_
  exact zretp_i E rfl dX8_clearText_7 ⟨rfl, va_up_self _ _ _, (va_up_ne _ _ (by decide)).trans htx, fun t h1 _ => va_up_ne _ _ h1⟩
abbrev zRes := Int32 × Int32 × Int32 × Int32 × Int32 × (Nat → Int32) × zGS
theorem oReh_ok {tx : Nat → Int32} {n : Int32} : ∀ {m k : Nat} {p a : Int32} {nu : Nat → Int32} {s : zGS} , zOkE s → zOkE (oReh tx n m k p a nu s).2.2.2.2.2.2
  | 0, _, _, _, _, _, h => h
  | m + 1, k, p, a, nu, s, h => by
    obtain ⟨mc, hmc, ok⟩ := h
    have o := oPerf_ok (c := oSign tx n p) (nu := (oRead tx n p nu).2.2) hmc ok
    unfold oReh
    split
    · exact ⟨mc, hmc, ok⟩
    · split
      · exact ⟨mc, hmc, ok⟩
      · split
        · exact oReh_ok ⟨mc, hmc, o⟩
        · exact ⟨mc, hmc, o⟩
def cFa (x : Int32) (R : zRes) : Int32 := if R.2.2.2.1 = 0 then (-1000004) else if x = 0 then R.2.1 else if x = 1 then R.2.2.2.1 else R.2.2.2.2.1
def cFault (x : Int32) (R : zRes) : Int32 := if (zwin x 0 2) = 0 then (-1000001) else cFa x R
/-- the orders' cells: length and signs -/
def zOs (w : zW) (cy : Nat → ClassId) (f : zF) (l0 : Int32) (tx : Nat → Int32) : Prop := f 130 = eChars cy 60 tx ∧ ∃ p a r c nu, f 129 = eOrd w (ov l0 p a r c) ∧ f 131 = eInts cy 3 nu
def zFau (w : zW) (cy : Nat → ClassId) (f : zF) (s0 : zGS) (hs : Nat → zGS) (δ : Nat → Nat) (k : Nat) (l0 : Int32) (tx : Nat → Int32) (q : Int32) : Option Value → zF → Prop := fun r g => r = some (.int q) ∧ (∃ t, zOkE t ∧ zCl w cy g s0 t hs δ k) ∧ zOs w cy g l0 tx ∧ ∀ t, 132 ≤ t → g t = f t
def cPl (R : zRes) : Int32 × zGS := (if R.2.2.2.1 = 0 then R.1 else (-1000002), R.2.2.2.2.2.2)
def zPlay (w : zW) (cy : Nat → ClassId) (f : zF) (s0 : zGS) (hs : Nat → zGS) (δ : Nat → Nat) (k : Nat) (l0 : Int32) (tx : Nat → Int32) (q : Int32 × zGS) : Option Value → zF → Prop := fun r g => r = some (.int q.1) ∧ zCl w cy g (tkS q.1 s0 q.2) q.2 (tkH q.1 hs δ k s0) (tkD q.1 δ k) (tkN q.1 k) ∧ zOs w cy g l0 tx ∧ ∀ t, 132 ≤ t → g t = f t
set_option maxHeartbeats 4000000 in
set_option maxRecDepth 100000 in
theorem k_fault {l : Launch} {D : va_G} {cy : Nat → ClassId} {w : zW} {f : zF} {s0 s1 : zGS} {hs : Nat → zGS} {δ : Nat → Nat} {k : Nat} {tx : Nat → Int32} {l0 p a r c : Int32} {nu : Nat → Int32} {x : Int32} {RES : zRes} (hw : w.1 = 139) (hc : zCl w cy f s0 s1 hs δ k) (hi : zInv s0 s1 hs δ k) (htx : f 130 = eChars cy 60 tx) (h9 : f 129 = eOrd w (ov l0 p a r c)) (h31 : f 131 = eInts cy 3 nu) (eR : oReh tx l0 60 0 0 a nu (cp s1 s0) = RES) : zSp l D cy yX8_fault cX8_fault 2 (some .int) 6 145 [.ref (w.2 (0)), .int (x)] w f (zFau w cy f s0 hs δ k l0 tx (cFault x RES)) := by
  refine zSp.intro (by decide) (Nat.le_of_ble_eq_true rfl) (fun G X E => ?_)
  have okt : zOkE (cp s1 s0) := cp_ok hi.2.1.g hi.1
  have okR : zOkE RES.2.2.2.2.2.2 := by rw [← eR]; exact oReh_ok okt
  show G (w, 0, 0) f [(0, .ref (w.2 (0))), (1, .int (x))] 0 []
  refine zr_iload_n X 1 dX8_fault_0 rfl rfl ?_
  refine zr_iconst X (v := 0) dX8_fault_1 (by decide) ?_
  refine zr_iconst X (v := 2) dX8_fault_2 (by decide) ?_
  refine zr_cS X (As := [.int (x), .int (0), .int (2)]) (rest := []) (f' := f) (st' := [.int (zwin x 0 2)]) zc_X8_isWithin k_isWithin ⟨Nat.le_of_ble_eq_true rfl, Nat.le_of_ble_eq_true rfl⟩ ⟨Nat.le_refl _, Nat.le_refl _⟩ rfl (Nat.le_of_ble_eq_true rfl) zm_3_34 rfl dX8_fault_3 rfl ?_
  refine zr_if_ne X (tgt := 12) dX8_fault_6 (by decide) (fun h1 => ?_) (fun h2 => ?_)
  · refine zr_aload_n X 0 dX8_fault_12 rfl rfl ?_
    refine zr_get X zfd_RX8_16 (0) (show 0 < w.1 by rw [hw]; omega) hc.1 (v := .ref (w.2 (22))) rfl dX8_fault_13 ?_
    refine zr_aload_n X 0 dX8_fault_16 rfl rfl ?_
    refine zr_get X zfd_RX8_10 (0) (show 0 < w.1 by rw [hw]; omega) hc.1 (v := .ref (w.2 (1))) rfl dX8_fault_17 ?_
    refine zr_cV X (As := [.ref (w.2 (1))]) (rest := []) (f' := zPut f (22) (zHut w cy (22) ((cp s1 s0).1) ((cp s1 s0).2))) (st' := []) zc_X2_copyFrom (22) (show 22 < w.1 by rw [hw]; omega) (hc.2.2.1 (0) (by omega)) (q9 := _) rfl rfl (k_copy (show 22 + 21 ≤ w.1 by rw [hw]; omega) (show 1 + 21 ≤ w.1 by rw [hw]; omega) (by omega) (fun o ho => (hc.2.2.1 o ho)) (fun o ho => (hc.2.1 o ho)) (hi.2.1).g hi.1) ⟨Nat.le_of_ble_eq_true rfl, Nat.le_of_ble_eq_true rfl⟩ ⟨Nat.le_refl _, Nat.le_refl _⟩ rfl (Nat.le_of_ble_eq_true rfl) zm_2_45 rfl dX8_fault_20 rfl ?_
    refine zcw (f2 := oW w cy (zPut f 22 (zHut w cy 22 (cp s1 s0).1 (cp s1 s0).2)) (ov l0 p a r c) nu) (oW_self ((zPut_out (by decide)).trans h9) ((zPut_out (by decide)).trans h31)).symm ?_
    refine zr_aload_n X 0 dX8_fault_23 rfl rfl ?_
    refine zr_get X zfd_RX8_29 (0) (show 0 < w.1 by rw [hw]; omega) ((oW_out (by omega) (by omega)).trans ((zPut_out (by omega)).trans (hc.1))) (v := .ref (w.2 (129))) rfl dX8_fault_24 ?_
    refine zr_aload_n X 0 dX8_fault_27 rfl rfl ?_
    refine zr_get X zfd_RX8_16 (0) (show 0 < w.1 by rw [hw]; omega) ((oW_out (by omega) (by omega)).trans ((zPut_out (by omega)).trans (hc.1))) (v := .ref (w.2 (22))) rfl dX8_fault_28 ?_
    obtain ⟨mc, hmc, okm⟩ := okt
    have kR := k_rehearse (l := l) (D := D) (cy := cy) (w := w) (f := f) (s0 := (cp s1 s0)) (l0 := l0) (p0 := p) (a := a) (r0 := r) (c0 := c) (tx := tx) (nu := nu) hw htx hmc okm
    rw [eR] at kR
    refine zr_cV X (As := [.ref (w.2 (22))]) (rest := []) (f' := oW w cy (zPut f 22 (zHut w cy 22 RES.2.2.2.2.2.2.1 RES.2.2.2.2.2.2.2)) (ov l0 RES.2.1 RES.2.2.1 RES.2.2.2.1 RES.2.2.2.2.1) RES.2.2.2.2.2.1) (st' := [.int (RES.1)]) zc_X5_rehearse (129) (show 129 < w.1 by rw [hw]; omega) oW_129 (q9 := _) rfl rfl kR ⟨Nat.le_of_ble_eq_true rfl, Nat.le_of_ble_eq_true rfl⟩ ⟨Nat.le_refl _, Nat.le_refl _⟩ rfl (Nat.le_of_ble_eq_true rfl) zm_3_134 rfl dX8_fault_31 rfl ?_
    refine zr_pop X dX8_fault_34 rfl ?_
    refine zr_aload_n X 0 dX8_fault_35 rfl rfl ?_
    refine zr_get X zfd_RX8_29 (0) (show 0 < w.1 by rw [hw]; omega) ((oW_out (by omega) (by omega)).trans ((zPut_out (by omega)).trans (hc.1))) (v := .ref (w.2 (129))) rfl dX8_fault_36 ?_
    refine zr_getN X zfn_RX8_187 (129) (show 129 < w.1 by rw [hw]; omega) oW_129 (v := .int (RES.2.2.2.1)) rfl dX8_fault_39 ?_
    refine zr_if_ne X (tgt := 48) dX8_fault_42 (by decide) (fun h3 => ?_) (fun h4 => ?_)
    · refine zr_iload_n X 1 dX8_fault_48 rfl rfl ?_
      by_cases h5 : x = 0
      · refine zr_lookup X (off := 27) (tgt := 76) dX8_fault_49 (by decide) (by rw [h5]; decide) (by decide) ?_
        refine zr_aload_n X 0 dX8_fault_76 rfl rfl ?_
        refine zr_get X zfd_RX8_29 (0) (show 0 < w.1 by rw [hw]; omega) ((oW_out (by omega) (by omega)).trans ((zPut_out (by omega)).trans (hc.1))) (v := .ref (w.2 (129))) rfl dX8_fault_77 ?_
        refine zr_getN X zfn_RX8_190 (129) (show 129 < w.1 by rw [hw]; omega) oW_129 (v := .int (RES.2.1)) rfl dX8_fault_80 ?_
        exact zretp_i E rfl dX8_fault_83 ⟨congrArg (fun z => some (Value.int z)) (by simp only [if_neg h1, if_neg h3, if_pos h5, cFault, cFa]), ⟨RES.2.2.2.2.2.2, okR, ⟨((oW_out (by omega) (by omega)).trans ((zPut_out (by omega)).trans (hc.1))), fun o ho => ((fun o ho => (oW_out (by omega) (by omega)).trans ((zPut_out (by omega)).trans (hc.2.1 o ho))) o ho), fun o ho => ((fun o ho => (oW_out (by omega) (by omega)).trans (zPut_in ho)) o ho), ((oW_out (by omega) (by omega)).trans ((zPut_out (by omega)).trans (hc.2.2.2.1))), ((oW_out (by omega) (by omega)).trans ((zPut_out (by omega)).trans (hc.2.2.2.2.1))), (fun i hi9 o ho => (oW_out (by omega) (by omega)).trans ((zPut_out (by omega)).trans (hc.2.2.2.2.2 i hi9 o ho)))⟩⟩, ⟨(oW_out (by decide) (by decide)).trans ((zPut_out (by decide)).trans htx), _, _, _, _, _, oW_129, oW_131⟩, fun t ht => (oW_out (by omega) (by omega)).trans (zPut_out (by omega))⟩
      by_cases h6 : x = 1
      · refine zr_lookup X (off := 35) (tgt := 84) dX8_fault_49 (by decide) (by rw [h6]; decide) (by decide) ?_
        refine zr_aload_n X 0 dX8_fault_84 rfl rfl ?_
        refine zr_get X zfd_RX8_29 (0) (show 0 < w.1 by rw [hw]; omega) ((oW_out (by omega) (by omega)).trans ((zPut_out (by omega)).trans (hc.1))) (v := .ref (w.2 (129))) rfl dX8_fault_85 ?_
        refine zr_getN X zfn_RX8_187 (129) (show 129 < w.1 by rw [hw]; omega) oW_129 (v := .int (RES.2.2.2.1)) rfl dX8_fault_88 ?_
        exact zretp_i E rfl dX8_fault_91 ⟨congrArg (fun z => some (Value.int z)) (by simp only [if_neg h1, if_neg h3, if_neg h5, if_pos h6, cFault, cFa]), ⟨RES.2.2.2.2.2.2, okR, ⟨((oW_out (by omega) (by omega)).trans ((zPut_out (by omega)).trans (hc.1))), fun o ho => ((fun o ho => (oW_out (by omega) (by omega)).trans ((zPut_out (by omega)).trans (hc.2.1 o ho))) o ho), fun o ho => ((fun o ho => (oW_out (by omega) (by omega)).trans (zPut_in ho)) o ho), ((oW_out (by omega) (by omega)).trans ((zPut_out (by omega)).trans (hc.2.2.2.1))), ((oW_out (by omega) (by omega)).trans ((zPut_out (by omega)).trans (hc.2.2.2.2.1))), (fun i hi9 o ho => (oW_out (by omega) (by omega)).trans ((zPut_out (by omega)).trans (hc.2.2.2.2.2 i hi9 o ho)))⟩⟩, ⟨(oW_out (by decide) (by decide)).trans ((zPut_out (by decide)).trans htx), _, _, _, _, _, oW_129, oW_131⟩, fun t ht => (oW_out (by omega) (by omega)).trans (zPut_out (by omega))⟩
      refine zr_lookup X (off := 43) (tgt := 92) dX8_fault_49 (by decide) (by rw [lv_osw h5 (show (0 : Int32).toInt = 0 from by decide), lv_osw h6 (show (1 : Int32).toInt = 1 from by decide)]; rfl) (by decide) ?_
      refine zr_aload_n X 0 dX8_fault_92 rfl rfl ?_
      refine zr_get X zfd_RX8_29 (0) (show 0 < w.1 by rw [hw]; omega) ((oW_out (by omega) (by omega)).trans ((zPut_out (by omega)).trans (hc.1))) (v := .ref (w.2 (129))) rfl dX8_fault_93 ?_
      refine zr_getN X zfn_RX8_193 (129) (show 129 < w.1 by rw [hw]; omega) oW_129 (v := .int (RES.2.2.2.2.1)) rfl dX8_fault_96 ?_
      exact zretp_i E rfl dX8_fault_99 ⟨congrArg (fun z => some (Value.int z)) (by simp only [if_neg h1, if_neg h3, if_neg h5, if_neg h6, cFault, cFa]), ⟨RES.2.2.2.2.2.2, okR, ⟨((oW_out (by omega) (by omega)).trans ((zPut_out (by omega)).trans (hc.1))), fun o ho => ((fun o ho => (oW_out (by omega) (by omega)).trans ((zPut_out (by omega)).trans (hc.2.1 o ho))) o ho), fun o ho => ((fun o ho => (oW_out (by omega) (by omega)).trans (zPut_in ho)) o ho), ((oW_out (by omega) (by omega)).trans ((zPut_out (by omega)).trans (hc.2.2.2.1))), ((oW_out (by omega) (by omega)).trans ((zPut_out (by omega)).trans (hc.2.2.2.2.1))), (fun i hi9 o ho => (oW_out (by omega) (by omega)).trans ((zPut_out (by omega)).trans (hc.2.2.2.2.2 i hi9 o ho)))⟩⟩, ⟨(oW_out (by decide) (by decide)).trans ((zPut_out (by decide)).trans htx), _, _, _, _, _, oW_129, oW_131⟩, fun t ht => (oW_out (by omega) (by omega)).trans (zPut_out (by omega))⟩
    · refine zr_ldc X zm_3_29 dX8_fault_45 ?_
      exact zretp_i E rfl dX8_fault_47 ⟨congrArg (fun z => some (Value.int z)) (by simp only [if_neg h1, if_pos h4, cFault, cFa]), ⟨RES.2.2.2.2.2.2, okR, ⟨((oW_out (by omega) (by omega)).trans ((zPut_out (by omega)).trans (hc.1))), fun o ho => ((fun o ho => (oW_out (by omega) (by omega)).trans ((zPut_out (by omega)).trans (hc.2.1 o ho))) o ho), fun o ho => ((fun o ho => (oW_out (by omega) (by omega)).trans (zPut_in ho)) o ho), ((oW_out (by omega) (by omega)).trans ((zPut_out (by omega)).trans (hc.2.2.2.1))), ((oW_out (by omega) (by omega)).trans ((zPut_out (by omega)).trans (hc.2.2.2.2.1))), (fun i hi9 o ho => (oW_out (by omega) (by omega)).trans ((zPut_out (by omega)).trans (hc.2.2.2.2.2 i hi9 o ho)))⟩⟩, ⟨(oW_out (by decide) (by decide)).trans ((zPut_out (by decide)).trans htx), _, _, _, _, _, oW_129, oW_131⟩, fun t ht => (oW_out (by omega) (by omega)).trans (zPut_out (by omega))⟩
  · refine zr_ldc X zm_3_6 dX8_fault_9 ?_
    exact zretp_i E rfl dX8_fault_11 ⟨congrArg (fun z => some (Value.int z)) (by simp only [if_pos h2, cFault]), ⟨s1, hi.2.1, hc⟩, ⟨htx, _, _, _, _, _, h9, h31⟩, fun _ _ => rfl⟩
set_option maxHeartbeats 4000000 in
set_option maxRecDepth 100000 in
theorem k_play {l : Launch} {D : va_G} {cy : Nat → ClassId} {w : zW} {f : zF} {s0 s1 : zGS} {hs : Nat → zGS} {δ : Nat → Nat} {k : Nat} {tx : Nat → Int32} {l0 p a r c : Int32} {nu : Nat → Int32} {RES : zRes} (hw : w.1 = 139) (hc : zCl w cy f s0 s1 hs δ k) (hi : zInv s0 s1 hs δ k) (htx : f 130 = eChars cy 60 tx) (h9 : f 129 = eOrd w (ov l0 p a r c)) (h31 : f 131 = eInts cy 3 nu) (eR : oReh tx l0 60 0 0 a nu (cp s1 s0) = RES) : zSp l D cy yX8_play cX8_play 2 (some .int) 6 145 [.ref (w.2 (0))] w f (zPlay w cy f s0 hs δ k l0 tx (cPl RES)) := by
  refine zSp.intro (by decide) (Nat.le_of_ble_eq_true rfl) (fun G X E => ?_)
  have okt : zOkE (cp s1 s0) := cp_ok hi.2.1.g hi.1
  have okR : zOkE RES.2.2.2.2.2.2 := by rw [← eR]; exact oReh_ok okt
  show G (w, 0, 0) f [(0, .ref (w.2 (0)))] 0 []
  refine zr_aload_n X 0 dX8_play_0 rfl rfl ?_
  refine zr_get X zfd_RX8_16 (0) (show 0 < w.1 by rw [hw]; omega) hc.1 (v := .ref (w.2 (22))) rfl dX8_play_1 ?_
  refine zr_aload_n X 0 dX8_play_4 rfl rfl ?_
  refine zr_get X zfd_RX8_10 (0) (show 0 < w.1 by rw [hw]; omega) hc.1 (v := .ref (w.2 (1))) rfl dX8_play_5 ?_
  refine zr_cV X (As := [.ref (w.2 (1))]) (rest := []) (f' := zPut f (22) (zHut w cy (22) ((cp s1 s0).1) ((cp s1 s0).2))) (st' := []) zc_X2_copyFrom (22) (show 22 < w.1 by rw [hw]; omega) (hc.2.2.1 (0) (by omega)) (q9 := _) rfl rfl (k_copy (show 22 + 21 ≤ w.1 by rw [hw]; omega) (show 1 + 21 ≤ w.1 by rw [hw]; omega) (by omega) (fun o ho => (hc.2.2.1 o ho)) (fun o ho => (hc.2.1 o ho)) (hi.2.1).g hi.1) ⟨Nat.le_of_ble_eq_true rfl, Nat.le_of_ble_eq_true rfl⟩ ⟨Nat.le_refl _, Nat.le_refl _⟩ rfl (Nat.le_of_ble_eq_true rfl) zm_2_45 rfl dX8_play_8 rfl ?_
  refine zcw (f2 := oW w cy (zPut f 22 (zHut w cy 22 (cp s1 s0).1 (cp s1 s0).2)) (ov l0 p a r c) nu) (oW_self ((zPut_out (by decide)).trans h9) ((zPut_out (by decide)).trans h31)).symm ?_
  refine zr_aload_n X 0 dX8_play_11 rfl rfl ?_
  refine zr_get X zfd_RX8_29 (0) (show 0 < w.1 by rw [hw]; omega) ((oW_out (by omega) (by omega)).trans ((zPut_out (by omega)).trans (hc.1))) (v := .ref (w.2 (129))) rfl dX8_play_12 ?_
  refine zr_aload_n X 0 dX8_play_15 rfl rfl ?_
  refine zr_get X zfd_RX8_16 (0) (show 0 < w.1 by rw [hw]; omega) ((oW_out (by omega) (by omega)).trans ((zPut_out (by omega)).trans (hc.1))) (v := .ref (w.2 (22))) rfl dX8_play_16 ?_
  obtain ⟨mc, hmc, okm⟩ := okt
  have kR := k_rehearse (l := l) (D := D) (cy := cy) (w := w) (f := f) (s0 := (cp s1 s0)) (l0 := l0) (p0 := p) (a := a) (r0 := r) (c0 := c) (tx := tx) (nu := nu) hw htx hmc okm
  rw [eR] at kR
  refine zr_cV X (As := [.ref (w.2 (22))]) (rest := []) (f' := oW w cy (zPut f 22 (zHut w cy 22 RES.2.2.2.2.2.2.1 RES.2.2.2.2.2.2.2)) (ov l0 RES.2.1 RES.2.2.1 RES.2.2.2.1 RES.2.2.2.2.1) RES.2.2.2.2.2.1) (st' := [.int (RES.1)]) zc_X5_rehearse (129) (show 129 < w.1 by rw [hw]; omega) oW_129 (q9 := _) rfl rfl kR ⟨Nat.le_of_ble_eq_true rfl, Nat.le_of_ble_eq_true rfl⟩ ⟨Nat.le_refl _, Nat.le_refl _⟩ rfl (Nat.le_of_ble_eq_true rfl) zm_3_134 rfl dX8_play_19 rfl ?_
  refine zr_istore_n X (ls' := [(1, .int (RES.1)), (0, .ref (w.2 (0)))]) dX8_play_22 rfl (by decide) rfl ?_
  refine zr_aload_n X 1 dX8_play_23 rfl rfl ?_
  refine zr_aload_n X 1 dX8_play_24 rfl rfl ?_
  refine zr_get X zfd_RX8_29 (0) (show 0 < w.1 by rw [hw]; omega) ((oW_out (by omega) (by omega)).trans ((zPut_out (by omega)).trans (hc.1))) (v := .ref (w.2 (129))) rfl dX8_play_25 ?_
  refine zr_getN X zfn_RX8_187 (129) (show 129 < w.1 by rw [hw]; omega) oW_129 (v := .int (RES.2.2.2.1)) rfl dX8_play_28 ?_
  refine zr_if_ne X (tgt := 38) dX8_play_31 (by decide) (fun h1 => ?_) (fun h2 => ?_)
  · refine zr_ldc X zm_3_112 dX8_play_38 ?_
    refine zr_cVp X (As := [.int ((-1000002))]) (rest := []) zc_X8_takeOver (0) (show 0 < w.1 by rw [hw]; omega) ((oW_out (by omega) (by omega)).trans ((zPut_out (by omega)).trans (hc.1))) (q9 := _) rfl rfl (k_takeOver (s1 := RES.2.2.2.2.2.2) hw ⟨((oW_out (by omega) (by omega)).trans ((zPut_out (by omega)).trans (hc.1))), fun o ho => ((fun o ho => (oW_out (by omega) (by omega)).trans ((zPut_out (by omega)).trans (hc.2.1 o ho))) o ho), fun o ho => ((fun o ho => (oW_out (by omega) (by omega)).trans (zPut_in ho)) o ho), ((oW_out (by omega) (by omega)).trans ((zPut_out (by omega)).trans (hc.2.2.2.1))), ((oW_out (by omega) (by omega)).trans ((zPut_out (by omega)).trans (hc.2.2.2.2.1))), (fun i hi9 o ho => (oW_out (by omega) (by omega)).trans ((zPut_out (by omega)).trans (hc.2.2.2.2.2 i hi9 o ho)))⟩ ⟨hi.1, okR, hi.2.2⟩) ⟨Nat.le_of_ble_eq_true rfl, Nat.le_of_ble_eq_true rfl⟩ ⟨Nat.le_refl _, Nat.le_refl _⟩ rfl (Nat.le_of_ble_eq_true rfl) zm_2_90 rfl dX8_play_40 (fun r1 g1 hp => ?_)
    obtain ⟨rfl, p2, p3⟩ := hp
    show G (w, 0, 0) (g1) [(1, .int (RES.1)), (0, .ref (w.2 (0)))] 43 [.int ((-1000002))]
    have eq : (cPl RES).1 = (-1000002) := by unfold cPl; simp only [if_neg h1, cPl]
    refine zretp_i E rfl dX8_play_43 ⟨congrArg (fun z => some (Value.int z)) eq.symm, ?_, ⟨(p3 _ (by decide)).trans ((oW_out (by decide) (by decide)).trans ((zPut_out (by decide)).trans htx)), _, _, _, _, _, (p3 _ (by decide)).trans oW_129, (p3 _ (by decide)).trans oW_131⟩, fun t ht => (p3 t (by omega)).trans ((oW_out (by omega) (by omega)).trans (zPut_out (by omega)))⟩
    rw [eq]
    exact p2
  · refine zr_iload_n X 0 dX8_play_34 rfl rfl ?_
    refine zr_goto X (tgt := 40) dX8_play_35 (by decide) ?_
    refine zr_cVp X (As := [.int (RES.1)]) (rest := []) zc_X8_takeOver (0) (show 0 < w.1 by rw [hw]; omega) ((oW_out (by omega) (by omega)).trans ((zPut_out (by omega)).trans (hc.1))) (q9 := _) rfl rfl (k_takeOver (s1 := RES.2.2.2.2.2.2) hw ⟨((oW_out (by omega) (by omega)).trans ((zPut_out (by omega)).trans (hc.1))), fun o ho => ((fun o ho => (oW_out (by omega) (by omega)).trans ((zPut_out (by omega)).trans (hc.2.1 o ho))) o ho), fun o ho => ((fun o ho => (oW_out (by omega) (by omega)).trans (zPut_in ho)) o ho), ((oW_out (by omega) (by omega)).trans ((zPut_out (by omega)).trans (hc.2.2.2.1))), ((oW_out (by omega) (by omega)).trans ((zPut_out (by omega)).trans (hc.2.2.2.2.1))), (fun i hi9 o ho => (oW_out (by omega) (by omega)).trans ((zPut_out (by omega)).trans (hc.2.2.2.2.2 i hi9 o ho)))⟩ ⟨hi.1, okR, hi.2.2⟩) ⟨Nat.le_of_ble_eq_true rfl, Nat.le_of_ble_eq_true rfl⟩ ⟨Nat.le_refl _, Nat.le_refl _⟩ rfl (Nat.le_of_ble_eq_true rfl) zm_2_90 rfl dX8_play_40 (fun r1 g1 hp => ?_)
    obtain ⟨rfl, p2, p3⟩ := hp
    show G (w, 0, 0) (g1) [(1, .int (RES.1)), (0, .ref (w.2 (0)))] 43 [.int (RES.1)]
    have eq : (cPl RES).1 = RES.1 := by unfold cPl; simp only [if_pos h2, cPl]
    refine zretp_i E rfl dX8_play_43 ⟨congrArg (fun z => some (Value.int z)) eq.symm, ?_, ⟨(p3 _ (by decide)).trans ((oW_out (by decide) (by decide)).trans ((zPut_out (by decide)).trans htx)), _, _, _, _, _, (p3 _ (by decide)).trans oW_129, (p3 _ (by decide)).trans oW_131⟩, fun t ht => (p3 t (by omega)).trans ((oW_out (by omega) (by omega)).trans (zPut_out (by omega)))⟩
    rw [eq]
    exact p2
