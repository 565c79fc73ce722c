def cMuleOf (s : zGS) (m x : Int32) : Int32 := if m < 0 then (-1000001) else if (s.2 0) ≤ m then (-1000001) else mTell (fun i9 => s.2 (19 + 9 * m.toNatClampNeg + i9)) x
def cPlace (s : zGS) (g : Int32) : Int32 := hPlace s.1 s.2 g (s.2 1).toNatClampNeg 0
def cGroupOf (s : zGS) (g x : Int32) : Int32 := if (cPlace s g) < 0 then (-1000001) else if (s.2 1) ≤ (cPlace s g) then (-1000001) else gTell (fun i9 => s.2 (55 + 6 * (s.1 (cPlace s g).toNatClampNeg) + i9)) x (s.2 3)
def cNumber (s : zGS) (i : Int32) : Int32 := if 0 ≤ i then (if i < 0 then (-1000004) else if (s.2 1) ≤ i then (-1000004) else s.2 (55 + 6 * (s.1 i.toNatClampNeg) + 0)) else (-1000001)
def cLoaves (s : zGS) (a : Int32) : Int32 := if (zwin a 0 20) = 0 then (-1000001) else shMany (fun k9 => s.2 (115 + k9)) a a 21
def cWanted (s : zGS) (d : Int32) : Int32 := if (zwin d 0 60) = 0 then (-1000001) else hWanted s.1 s.2 (s.2 3 + d) (s.2 1).toNatClampNeg
def cBest (s : zGS) : Int32 := oI (hBest s.2 (s.2 0).toNatClampNeg)
def cNext (s : zGS) (x : Int32) : Int32 := if (zwin x 0 1) = 0 then (-1000001) else if (cBest s) < 0 then (-1000004) else if (s.2 0) ≤ (cBest s) then (-1000004) else if x = 0 then cBest s else if (hCred s.2) < (s.2 (19 + 9 * (cBest s).toNatClampNeg + 0)) then hCred s.2 else s.2 (19 + 9 * (cBest s).toNatClampNeg + 0)
def cCount (s : zGS) (k : Nat) (l x : Int32) : Int32 := if x = 18 then nI k else if x = 19 then l else hTell (s.2 0).toNatClampNeg s.2 x
set_option maxHeartbeats 4000000 in
set_option maxRecDepth 100000 in
theorem k_muleOf {l : Launch} {D : va_G} {cy : Nat → ClassId} {w : zW} {f : zF} {s0 s1 : zGS} {hs : Nat → zGS} {δ : Nat → Nat} {k : Nat} {m : Int32} {x : Int32} (hw : w.1 = 139) (hc : zCl w cy f s0 s1 hs δ k) (hi : zInv s0 s1 hs δ k) : zSd l D cy yX8_muleOf cX8_muleOf 4 (some .int) 1 21 [.ref (w.2 (0)), .int (m), .int (x)] w f (some (.int (cMuleOf s0 m x))) f := by
  refine zSd.intro (by decide) (Nat.le_of_ble_eq_true rfl) (fun G X E => ?_)
  obtain ⟨mc, hmc, o1, o2, bk, o4, o5⟩ := hi.1
  have hmE : (s0.2 0).toNatClampNeg = mc := by rw [o2, nI_clamp (by omega)]
  have hbE : (s0.2 1).toNatClampNeg = bk := by rw [o5, nI_clamp (by omega)]
  show G (w, 0, 0) f [(0, .ref (w.2 (0))), (1, .int (m)), (2, .int (x))] 0 []
  refine zr_aload_n X 0 dX8_muleOf_0 rfl rfl ?_
  refine zr_get X zfd_RX8_10 (0) (show 0 < w.1 by rw [hw]; omega) hc.1 (v := .ref (w.2 (1))) rfl dX8_muleOf_1 ?_
  refine zr_iload_n X 1 dX8_muleOf_4 rfl rfl ?_
  by_cases h1 : m < 0
  · refine zr_cV X (As := [.int (m)]) (rest := []) (f' := f) (st' := [.null]) zc_X2_muleAt (1) (show 1 < w.1 by rw [hw]; omega) (hc.2.1 (0) (by omega)) (q9 := _) rfl rfl (k_muleAtNF (fun o ho => (hc.2.1 o ho)) (show 1 + 21 ≤ w.1 by rw [hw]; decide) o2 hmc o5 o4 o1 (Or.inl h1)) ⟨Nat.le_of_ble_eq_true rfl, Nat.le_of_ble_eq_true rfl⟩ ⟨Nat.le_refl _, Nat.le_refl _⟩ rfl (Nat.le_of_ble_eq_true rfl) zm_3_5 rfl dX8_muleOf_5 rfl ?_
    refine zr_astore_nN X (ls' := [(3, .null), (0, .ref (w.2 (0))), (1, .int (m)), (2, .int (x))]) dX8_muleOf_8 rfl (by decide) rfl ?_
    refine zr_aload_nN X 0 dX8_muleOf_9 rfl rfl ?_
    refine zr_ifnonnullN X dX8_muleOf_10 ?_
    refine zr_ldc X zm_3_6 dX8_muleOf_13 ?_
    refine zr_goto X (tgt := 23) dX8_muleOf_15 (by decide) ?_
    exact zret_i E rfl dX8_muleOf_23 (by simp only [cMuleOf, if_pos h1]) rfl
  · by_cases h2 : (s0.2 0) ≤ m
    · refine zr_cV X (As := [.int (m)]) (rest := []) (f' := f) (st' := [.null]) zc_X2_muleAt (1) (show 1 < w.1 by rw [hw]; omega) (hc.2.1 (0) (by omega)) (q9 := _) rfl rfl (k_muleAtNF (fun o ho => (hc.2.1 o ho)) (show 1 + 21 ≤ w.1 by rw [hw]; decide) o2 hmc o5 o4 o1 (Or.inr h2)) ⟨Nat.le_of_ble_eq_true rfl, Nat.le_of_ble_eq_true rfl⟩ ⟨Nat.le_refl _, Nat.le_refl _⟩ rfl (Nat.le_of_ble_eq_true rfl) zm_3_5 rfl dX8_muleOf_5 rfl ?_
      refine zr_astore_nN X (ls' := [(3, .null), (0, .ref (w.2 (0))), (1, .int (m)), (2, .int (x))]) dX8_muleOf_8 rfl (by decide) rfl ?_
      refine zr_aload_nN X 0 dX8_muleOf_9 rfl rfl ?_
      refine zr_ifnonnullN X dX8_muleOf_10 ?_
      refine zr_ldc X zm_3_6 dX8_muleOf_13 ?_
      refine zr_goto X (tgt := 23) dX8_muleOf_15 (by decide) ?_
      exact zret_i E rfl dX8_muleOf_23 (by simp only [cMuleOf, if_neg h1, if_pos h2]) rfl
    · have q1 := zix3 o2 hmc (by decide) h1 h2
      refine zr_cV X (As := [.int (m)]) (rest := []) (f' := f) (st' := [.ref (w.2 (1 + (7 + m.toNatClampNeg)))]) zc_X2_muleAt (1) (show 1 < w.1 by rw [hw]; omega) (hc.2.1 (0) (by omega)) (q9 := _) rfl rfl (k_muleAtXF (fun o ho => (hc.2.1 o ho)) (show 1 + 21 ≤ w.1 by rw [hw]; decide) o2 hmc o5 o4 o1 h1 h2) ⟨Nat.le_of_ble_eq_true rfl, Nat.le_of_ble_eq_true rfl⟩ ⟨Nat.le_refl _, Nat.le_refl _⟩ rfl (Nat.le_of_ble_eq_true rfl) zm_3_5 rfl dX8_muleOf_5 rfl ?_
      refine zr_astore_n X (ls' := [(3, .ref (w.2 (1 + (7 + m.toNatClampNeg)))), (0, .ref (w.2 (0))), (1, .int (m)), (2, .int (x))]) dX8_muleOf_8 rfl (by decide) rfl ?_
      refine zr_aload_n X 0 dX8_muleOf_9 rfl rfl ?_
      refine zr_ifnonnull X (tgt := 18) dX8_muleOf_10 (by decide) ?_
      refine zr_aload_n X 0 dX8_muleOf_18 rfl rfl ?_
      refine zr_iload_n X 3 dX8_muleOf_19 rfl rfl ?_
      refine zr_cV X (As := [.int (x)]) (rest := []) (f' := f) (st' := [.int (mTell (fun i9 => s0.2 (19 + 9 * m.toNatClampNeg + i9)) x)]) zc_X4_tell (1 + (7 + m.toNatClampNeg)) (show 1 + (7 + m.toNatClampNeg) < w.1 by rw [hw]; omega) ((hc.2.1 (7 + m.toNatClampNeg) (by omega)).trans (zHut_mule (k := m.toNatClampNeg) (by omega))) (q9 := _) rfl rfl (k_Mule_tell (show 1 + (7 + m.toNatClampNeg) < w.1 by rw [hw]; omega) ((hc.2.1 (7 + m.toNatClampNeg) (by omega)).trans (zHut_mule (k := m.toNatClampNeg) (by omega)))) ⟨Nat.le_of_ble_eq_true rfl, Nat.le_of_ble_eq_true rfl⟩ ⟨Nat.le_refl _, Nat.le_refl _⟩ rfl (Nat.le_of_ble_eq_true rfl) zm_3_7 rfl dX8_muleOf_20 rfl ?_
      exact zret_i E rfl dX8_muleOf_23 (by simp only [cMuleOf, if_neg h1, if_neg h2]) rfl
set_option maxHeartbeats 4000000 in
set_option maxRecDepth 100000 in
theorem k_groupOf {l : Launch} {D : va_G} {cy : Nat → ClassId} {w : zW} {f : zF} {s0 s1 : zGS} {hs : Nat → zGS} {δ : Nat → Nat} {k : Nat} {g : Int32} {x : Int32} (hw : w.1 = 139) (hc : zCl w cy f s0 s1 hs δ k) (hi : zInv s0 s1 hs δ k) : zSd l D cy yX8_groupOf cX8_groupOf 4 (some .int) 2 44 [.ref (w.2 (0)), .int (g), .int (x)] w f (some (.int (cGroupOf s0 g x))) f := by
  refine zSd.intro (by decide) (Nat.le_of_ble_eq_true rfl) (fun G X E => ?_)
  obtain ⟨mc, hmc, o1, o2, bk, o4, o5⟩ := hi.1
  have hmE : (s0.2 0).toNatClampNeg = mc := by rw [o2, nI_clamp (by omega)]
  have hbE : (s0.2 1).toNatClampNeg = bk := by rw [o5, nI_clamp (by omega)]
  show G (w, 0, 0) f [(0, .ref (w.2 (0))), (1, .int (g)), (2, .int (x))] 0 []
  refine zr_aload_n X 0 dX8_groupOf_0 rfl rfl ?_
  refine zr_get X zfd_RX8_10 (0) (show 0 < w.1 by rw [hw]; omega) hc.1 (v := .ref (w.2 (1))) rfl dX8_groupOf_1 ?_
  refine zr_aload_n X 0 dX8_groupOf_4 rfl rfl ?_
  refine zr_get X zfd_RX8_10 (0) (show 0 < w.1 by rw [hw]; omega) hc.1 (v := .ref (w.2 (1))) rfl dX8_groupOf_5 ?_
  refine zr_iload_n X 1 dX8_groupOf_8 rfl rfl ?_
  refine zr_cV X (As := [.int (g)]) (rest := [.ref (w.2 (1))]) (f' := f) (st' := [.int (hPlace s0.1 s0.2 g bk 0), .ref (w.2 (1))]) zc_X2_placeOfGroup (1) (show 1 < w.1 by rw [hw]; omega) (hc.2.1 (0) (by omega)) (q9 := _) rfl rfl (k_placeOfGroupF (fun o ho => (hc.2.1 o ho)) (show 1 + 21 ≤ w.1 by rw [hw]; decide) o2 hmc o5 o4 o1) ⟨Nat.le_of_ble_eq_true rfl, Nat.le_of_ble_eq_true rfl⟩ ⟨Nat.le_refl _, Nat.le_refl _⟩ rfl (Nat.le_of_ble_eq_true rfl) zm_3_16 rfl dX8_groupOf_9 rfl ?_
  by_cases h1 : (hPlace s0.1 s0.2 g bk 0) < 0
  · refine zr_cV X (As := [.int (hPlace s0.1 s0.2 g bk 0)]) (rest := []) (f' := f) (st' := [.null]) zc_X2_groupAt (1) (show 1 < w.1 by rw [hw]; omega) (hc.2.1 (0) (by omega)) (q9 := _) rfl rfl (k_groupAtNF (fun o ho => (hc.2.1 o ho)) (show 1 + 21 ≤ w.1 by rw [hw]; decide) o2 hmc o5 o4 o1 (Or.inl h1)) ⟨Nat.le_of_ble_eq_true rfl, Nat.le_of_ble_eq_true rfl⟩ ⟨Nat.le_refl _, Nat.le_refl _⟩ rfl (Nat.le_of_ble_eq_true rfl) zm_3_17 rfl dX8_groupOf_12 rfl ?_
    refine zr_astore_nN X (ls' := [(3, .null), (0, .ref (w.2 (0))), (1, .int (g)), (2, .int (x))]) dX8_groupOf_15 rfl (by decide) rfl ?_
    refine zr_aload_nN X 0 dX8_groupOf_16 rfl rfl ?_
    refine zr_ifnonnullN X dX8_groupOf_17 ?_
    refine zr_ldc X zm_3_6 dX8_groupOf_20 ?_
    refine zr_goto X (tgt := 37) dX8_groupOf_22 (by decide) ?_
    exact zret_i E rfl dX8_groupOf_37 (by unfold cGroupOf cPlace; rw [hbE]; simp only [if_pos h1]) rfl
  · by_cases h2 : (s0.2 1) ≤ (hPlace s0.1 s0.2 g bk 0)
    · refine zr_cV X (As := [.int (hPlace s0.1 s0.2 g bk 0)]) (rest := []) (f' := f) (st' := [.null]) zc_X2_groupAt (1) (show 1 < w.1 by rw [hw]; omega) (hc.2.1 (0) (by omega)) (q9 := _) rfl rfl (k_groupAtNF (fun o ho => (hc.2.1 o ho)) (show 1 + 21 ≤ w.1 by rw [hw]; decide) o2 hmc o5 o4 o1 (Or.inr h2)) ⟨Nat.le_of_ble_eq_true rfl, Nat.le_of_ble_eq_true rfl⟩ ⟨Nat.le_refl _, Nat.le_refl _⟩ rfl (Nat.le_of_ble_eq_true rfl) zm_3_17 rfl dX8_groupOf_12 rfl ?_
      refine zr_astore_nN X (ls' := [(3, .null), (0, .ref (w.2 (0))), (1, .int (g)), (2, .int (x))]) dX8_groupOf_15 rfl (by decide) rfl ?_
      refine zr_aload_nN X 0 dX8_groupOf_16 rfl rfl ?_
      refine zr_ifnonnullN X dX8_groupOf_17 ?_
      refine zr_ldc X zm_3_6 dX8_groupOf_20 ?_
      refine zr_goto X (tgt := 37) dX8_groupOf_22 (by decide) ?_
      exact zret_i E rfl dX8_groupOf_37 (by unfold cGroupOf cPlace; rw [hbE]; simp only [if_neg h1, if_pos h2]) rfl
    · have q1 := zix3 o5 o4 (by decide) h1 h2
      have q2 := o1 (hPlace s0.1 s0.2 g bk 0).toNatClampNeg (by omega)
      refine zr_cV X (As := [.int (hPlace s0.1 s0.2 g bk 0)]) (rest := []) (f' := f) (st' := [.ref (w.2 (1 + (11 + s0.1 (hPlace s0.1 s0.2 g bk 0).toNatClampNeg)))]) zc_X2_groupAt (1) (show 1 < w.1 by rw [hw]; omega) (hc.2.1 (0) (by omega)) (q9 := _) rfl rfl (k_groupAtXF (fun o ho => (hc.2.1 o ho)) (show 1 + 21 ≤ w.1 by rw [hw]; decide) o2 hmc o5 o4 o1 h1 h2) ⟨Nat.le_of_ble_eq_true rfl, Nat.le_of_ble_eq_true rfl⟩ ⟨Nat.le_refl _, Nat.le_refl _⟩ rfl (Nat.le_of_ble_eq_true rfl) zm_3_17 rfl dX8_groupOf_12 rfl ?_
      refine zr_astore_n X (ls' := [(3, .ref (w.2 (1 + (11 + s0.1 (hPlace s0.1 s0.2 g bk 0).toNatClampNeg)))), (0, .ref (w.2 (0))), (1, .int (g)), (2, .int (x))]) dX8_groupOf_15 rfl (by decide) rfl ?_
      refine zr_aload_n X 0 dX8_groupOf_16 rfl rfl ?_
      refine zr_ifnonnull X (tgt := 25) dX8_groupOf_17 (by decide) ?_
      refine zr_aload_n X 0 dX8_groupOf_25 rfl rfl ?_
      refine zr_iload_n X 3 dX8_groupOf_26 rfl rfl ?_
      refine zr_aload_n X 1 dX8_groupOf_27 rfl rfl ?_
      refine zr_get X zfd_RX8_10 (0) (show 0 < w.1 by rw [hw]; omega) hc.1 (v := .ref (w.2 (1))) rfl dX8_groupOf_28 ?_
      refine zr_getN X zfn_RX8_90 (1) (show 1 < w.1 by rw [hw]; omega) (hc.2.1 (0) (by omega)) (v := .int (s0.2 3)) rfl dX8_groupOf_31 ?_
      refine zr_cV X (As := [.int (x), .int (s0.2 3)]) (rest := []) (f' := f) (st' := [.int (gTell (fun i9 => s0.2 (55 + 6 * (s0.1 (hPlace s0.1 s0.2 g bk 0).toNatClampNeg) + i9)) x (s0.2 3))]) zc_X0_tell (1 + (11 + s0.1 (hPlace s0.1 s0.2 g bk 0).toNatClampNeg)) (show 1 + (11 + s0.1 (hPlace s0.1 s0.2 g bk 0).toNatClampNeg) < w.1 by rw [hw]; omega) ((hc.2.1 (11 + s0.1 (hPlace s0.1 s0.2 g bk 0).toNatClampNeg) (by omega)).trans (zHut_group (k := s0.1 (hPlace s0.1 s0.2 g bk 0).toNatClampNeg))) (q9 := _) rfl rfl (k_Group_tell (show 1 + (11 + s0.1 (hPlace s0.1 s0.2 g bk 0).toNatClampNeg) < w.1 by rw [hw]; omega) ((hc.2.1 (11 + s0.1 (hPlace s0.1 s0.2 g bk 0).toNatClampNeg) (by omega)).trans (zHut_group (k := s0.1 (hPlace s0.1 s0.2 g bk 0).toNatClampNeg)))) ⟨Nat.le_of_ble_eq_true rfl, Nat.le_of_ble_eq_true rfl⟩ ⟨Nat.le_refl _, Nat.le_refl _⟩ rfl (Nat.le_of_ble_eq_true rfl) zm_3_18 rfl dX8_groupOf_34 rfl ?_
      exact zret_i E rfl dX8_groupOf_37 (by unfold cGroupOf cPlace; rw [hbE]; simp only [if_neg h1, if_neg h2]) rfl
set_option maxHeartbeats 4000000 in
set_option maxRecDepth 100000 in
theorem k_number {l : Launch} {D : va_G} {cy : Nat → ClassId} {w : zW} {f : zF} {s0 s1 : zGS} {hs : Nat → zGS} {δ : Nat → Nat} {k : Nat} {i : Int32} (hw : w.1 = 139) (hc : zCl w cy f s0 s1 hs δ k) (hi : zInv s0 s1 hs δ k) : zSd l D cy yX8_number cX8_number 3 (some .int) 1 21 [.ref (w.2 (0)), .int (i)] w f (some (.int (cNumber s0 i))) f := by
  refine zSd.intro (by decide) (Nat.le_of_ble_eq_true rfl) (fun G X E => ?_)
  obtain ⟨mc, hmc, o1, o2, bk, o4, o5⟩ := hi.1
  have hmE : (s0.2 0).toNatClampNeg = mc := by rw [o2, nI_clamp (by omega)]
  have hbE : (s0.2 1).toNatClampNeg = bk := by rw [o5, nI_clamp (by omega)]
  show G (w, 0, 0) f [(0, .ref (w.2 (0))), (1, .int (i))] 0 []
  refine zr_iload_n X 1 dX8_number_0 rfl rfl ?_
  refine zr_if_ge X (tgt := 7) dX8_number_1 (by decide) (fun h1 => ?_) (fun h2 => ?_)
  · refine zr_aload_n X 0 dX8_number_7 rfl rfl ?_
    refine zr_get X zfd_RX8_10 (0) (show 0 < w.1 by rw [hw]; omega) hc.1 (v := .ref (w.2 (1))) rfl dX8_number_8 ?_
    refine zr_iload_n X 1 dX8_number_11 rfl rfl ?_
    by_cases h3 : i < 0
    · refine zr_cV X (As := [.int (i)]) (rest := []) (f' := f) (st' := [.null]) zc_X2_groupAt (1) (show 1 < w.1 by rw [hw]; omega) (hc.2.1 (0) (by omega)) (q9 := _) rfl rfl (k_groupAtNF (fun o ho => (hc.2.1 o ho)) (show 1 + 21 ≤ w.1 by rw [hw]; decide) o2 hmc o5 o4 o1 (Or.inl h3)) ⟨Nat.le_of_ble_eq_true rfl, Nat.le_of_ble_eq_true rfl⟩ ⟨Nat.le_refl _, Nat.le_refl _⟩ rfl (Nat.le_of_ble_eq_true rfl) zm_3_17 rfl dX8_number_12 rfl ?_
      refine zr_astore_nN X (ls' := [(2, .null), (0, .ref (w.2 (0))), (1, .int (i))]) dX8_number_15 rfl (by decide) rfl ?_
      refine zr_aload_nN X 0 dX8_number_16 rfl rfl ?_
      refine zr_ifnonnullN X dX8_number_17 ?_
      refine zr_ldc X zm_3_29 dX8_number_20 ?_
      refine zr_goto X (tgt := 29) dX8_number_22 (by decide) ?_
      exact zret_i E rfl dX8_number_29 (by simp only [cNumber, if_pos h1, if_pos h3]) rfl
    · by_cases h4 : (s0.2 1) ≤ i
      · refine zr_cV X (As := [.int (i)]) (rest := []) (f' := f) (st' := [.null]) zc_X2_groupAt (1) (show 1 < w.1 by rw [hw]; omega) (hc.2.1 (0) (by omega)) (q9 := _) rfl rfl (k_groupAtNF (fun o ho => (hc.2.1 o ho)) (show 1 + 21 ≤ w.1 by rw [hw]; decide) o2 hmc o5 o4 o1 (Or.inr h4)) ⟨Nat.le_of_ble_eq_true rfl, Nat.le_of_ble_eq_true rfl⟩ ⟨Nat.le_refl _, Nat.le_refl _⟩ rfl (Nat.le_of_ble_eq_true rfl) zm_3_17 rfl dX8_number_12 rfl ?_
        refine zr_astore_nN X (ls' := [(2, .null), (0, .ref (w.2 (0))), (1, .int (i))]) dX8_number_15 rfl (by decide) rfl ?_
        refine zr_aload_nN X 0 dX8_number_16 rfl rfl ?_
        refine zr_ifnonnullN X dX8_number_17 ?_
        refine zr_ldc X zm_3_29 dX8_number_20 ?_
        refine zr_goto X (tgt := 29) dX8_number_22 (by decide) ?_
        exact zret_i E rfl dX8_number_29 (by simp only [cNumber, if_pos h1, if_neg h3, if_pos h4]) rfl
      · have q1 := zix3 o5 o4 (by decide) h3 h4
        have q2 := o1 (i).toNatClampNeg (by omega)
        refine zr_cV X (As := [.int (i)]) (rest := []) (f' := f) (st' := [.ref (w.2 (1 + (11 + s0.1 i.toNatClampNeg)))]) zc_X2_groupAt (1) (show 1 < w.1 by rw [hw]; omega) (hc.2.1 (0) (by omega)) (q9 := _) rfl rfl (k_groupAtXF (fun o ho => (hc.2.1 o ho)) (show 1 + 21 ≤ w.1 by rw [hw]; decide) o2 hmc o5 o4 o1 h3 h4) ⟨Nat.le_of_ble_eq_true rfl, Nat.le_of_ble_eq_true rfl⟩ ⟨Nat.le_refl _, Nat.le_refl _⟩ rfl (Nat.le_of_ble_eq_true rfl) zm_3_17 rfl dX8_number_12 rfl ?_
        refine zr_astore_n X (ls' := [(2, .ref (w.2 (1 + (11 + s0.1 i.toNatClampNeg)))), (0, .ref (w.2 (0))), (1, .int (i))]) dX8_number_15 rfl (by decide) rfl ?_
        refine zr_aload_n X 0 dX8_number_16 rfl rfl ?_
        refine zr_ifnonnull X (tgt := 25) dX8_number_17 (by decide) ?_
        refine zr_aload_n X 0 dX8_number_25 rfl rfl ?_
        refine zr_getN X zfn_RX8_99 (1 + (11 + s0.1 i.toNatClampNeg)) (show 1 + (11 + s0.1 i.toNatClampNeg) < w.1 by rw [hw]; omega) ((hc.2.1 (11 + s0.1 i.toNatClampNeg) (by omega)).trans (zHut_group (k := s0.1 i.toNatClampNeg))) (v := .int (s0.2 (55 + 6 * (s0.1 i.toNatClampNeg) + 0))) rfl dX8_number_26 ?_
        exact zret_i E rfl dX8_number_29 (by simp only [cNumber, if_pos h1, if_neg h3, if_neg h4]) rfl
  · refine zr_ldc X zm_3_6 dX8_number_4 ?_
    exact zret_i E rfl dX8_number_6 (by simp only [cNumber, if_neg h2]) rfl
set_option maxHeartbeats 4000000 in
set_option maxRecDepth 100000 in
theorem k_loaves {l : Launch} {D : va_G} {cy : Nat → ClassId} {w : zW} {f : zF} {s0 s1 : zGS} {hs : Nat → zGS} {δ : Nat → Nat} {k : Nat} {a : Int32} (hw : w.1 = 139) (hc : zCl w cy f s0 s1 hs δ k) (hi : zInv s0 s1 hs δ k) : zSd l D cy yX8_loaves cX8_loaves 2 (some .int) 1 24 [.ref (w.2 (0)), .int (a)] w f (some (.int (cLoaves s0 a))) f := by
  refine zSd.intro (by decide) (Nat.le_of_ble_eq_true rfl) (fun G X E => ?_)
  obtain ⟨mc, hmc, o1, o2, bk, o4, o5⟩ := hi.1
  have hmE : (s0.2 0).toNatClampNeg = mc := by rw [o2, nI_clamp (by omega)]
  have hbE : (s0.2 1).toNatClampNeg = bk := by rw [o5, nI_clamp (by omega)]
  show G (w, 0, 0) f [(0, .ref (w.2 (0))), (1, .int (a))] 0 []
  refine zr_iload_n X 1 dX8_loaves_0 rfl rfl ?_
  refine zr_iconst X (v := 0) dX8_loaves_1 (by decide) ?_
  refine zr_bipush X (v := 20) dX8_loaves_2 (by decide) ?_
  refine zr_cS X (As := [.int (a), .int (0), .int (20)]) (rest := []) (f' := f) (st' := [.int (zwin a 0 20)]) zc_X8_isWithin k_isWithin ⟨Nat.le_of_ble_eq_true rfl, Nat.le_of_ble_eq_true rfl⟩ ⟨Nat.le_refl _, Nat.le_refl _⟩ rfl (Nat.le_of_ble_eq_true rfl) zm_3_34 rfl dX8_loaves_4 rfl ?_
  refine zr_if_eq X (tgt := 25) dX8_loaves_7 (by decide) (fun h1 => ?_) (fun h2 => ?_)
  · refine zr_ldc X zm_3_6 dX8_loaves_25 ?_
    exact zret_i E rfl dX8_loaves_27 (by simp only [cLoaves, if_pos h1]) rfl
  · refine zr_aload_n X 0 dX8_loaves_10 rfl rfl ?_
    refine zr_get X zfd_RX8_10 (0) (show 0 < w.1 by rw [hw]; omega) hc.1 (v := .ref (w.2 (1))) rfl dX8_loaves_11 ?_
    refine zr_getN X zfn_RX8_106 (1) (show 1 < w.1 by rw [hw]; omega) (hc.2.1 (0) (by omega)) (v := .ref (w.2 (1 + 3))) rfl dX8_loaves_14 ?_
    refine zr_iload_n X 1 dX8_loaves_17 rfl rfl ?_
    refine zr_iload_n X 1 dX8_loaves_18 rfl rfl ?_
    refine zr_cV X (As := [.int (a), .int (a)]) (rest := []) (f' := f) (st' := [.int (shMany (fun k9 => s0.2 (115 + k9)) a a 21)]) zc_X7_howMany (1 + 3) (show 1 + 3 < w.1 by rw [hw]; omega) (hc.2.1 (3) (by omega)) (q9 := _) rfl rfl (k_Shelf_howMany (show 1 + 3 < w.1 by rw [hw]; omega) (show 1 + 4 < w.1 by rw [hw]; omega) (hc.2.1 (3) (by omega)) (hc.2.1 (4) (by omega)) (by omega)) ⟨Nat.le_of_ble_eq_true rfl, Nat.le_of_ble_eq_true rfl⟩ ⟨Nat.le_refl _, Nat.le_refl _⟩ rfl (Nat.le_of_ble_eq_true rfl) zm_3_35 rfl dX8_loaves_19 rfl ?_
    refine zr_goto X (tgt := 27) dX8_loaves_22 (by decide) ?_
    exact zret_i E rfl dX8_loaves_27 (by simp only [cLoaves, if_neg h2]) rfl
set_option maxHeartbeats 4000000 in
set_option maxRecDepth 100000 in
theorem k_why {l : Launch} {D : va_G} {cy : Nat → ClassId} {w : zW} {f : zF} {s0 s1 : zGS} {hs : Nat → zGS} {δ : Nat → Nat} {k : Nat} {x : Int32} {n : Int32} (hw : w.1 = 139) (hc : zCl w cy f s0 s1 hs δ k) (hi : zInv s0 s1 hs δ k) : zSd l D cy yX8_why cX8_why 3 (some .int) 2 45 [.ref (w.2 (0)), .int (x), .int (n)] w f (some (.int (hWhy s0.2 x n))) f := by
  refine zSd.intro (by decide) (Nat.le_of_ble_eq_true rfl) (fun G X E => ?_)
  obtain ⟨mc, hmc, o1, o2, bk, o4, o5⟩ := hi.1
  have hmE : (s0.2 0).toNatClampNeg = mc := by rw [o2, nI_clamp (by omega)]
  have hbE : (s0.2 1).toNatClampNeg = bk := by rw [o5, nI_clamp (by omega)]
  show G (w, 0, 0) f [(0, .ref (w.2 (0))), (1, .int (x)), (2, .int (n))] 0 []
  refine zr_aload_n X 0 dX8_why_0 rfl rfl ?_
  refine zr_get X zfd_RX8_10 (0) (show 0 < w.1 by rw [hw]; omega) hc.1 (v := .ref (w.2 (1))) rfl dX8_why_1 ?_
  refine zr_iload_n X 1 dX8_why_4 rfl rfl ?_
  refine zr_iload_n X 2 dX8_why_5 rfl rfl ?_
  refine zr_cV X (As := [.int (x), .int (n)]) (rest := []) (f' := f) (st' := [.int (hWhy s0.2 x n)]) zc_X2_whyNot (1) (show 1 < w.1 by rw [hw]; omega) (hc.2.1 (0) (by omega)) (q9 := _) rfl rfl (k_whyNotF (fun o ho => (hc.2.1 o ho)) (show 1 + 21 ≤ w.1 by rw [hw]; decide) o2 hmc o5 o4 o1) ⟨Nat.le_of_ble_eq_true rfl, Nat.le_of_ble_eq_true rfl⟩ ⟨Nat.le_refl _, Nat.le_refl _⟩ rfl (Nat.le_of_ble_eq_true rfl) zm_3_40 rfl dX8_why_6 rfl ?_
  exact zret_i E rfl dX8_why_9 rfl rfl
set_option maxHeartbeats 4000000 in
set_option maxRecDepth 100000 in
theorem k_wanted {l : Launch} {D : va_G} {cy : Nat → ClassId} {w : zW} {f : zF} {s0 s1 : zGS} {hs : Nat → zGS} {δ : Nat → Nat} {k : Nat} {d : Int32} (hw : w.1 = 139) (hc : zCl w cy f s0 s1 hs δ k) (hi : zInv s0 s1 hs δ k) : zSd l D cy yX8_wanted cX8_wanted 2 (some .int) 2 45 [.ref (w.2 (0)), .int (d)] w f (some (.int (cWanted s0 d))) f := by
  refine zSd.intro (by decide) (Nat.le_of_ble_eq_true rfl) (fun G X E => ?_)
  obtain ⟨mc, hmc, o1, o2, bk, o4, o5⟩ := hi.1
  have hmE : (s0.2 0).toNatClampNeg = mc := by rw [o2, nI_clamp (by omega)]
  have hbE : (s0.2 1).toNatClampNeg = bk := by rw [o5, nI_clamp (by omega)]
  show G (w, 0, 0) f [(0, .ref (w.2 (0))), (1, .int (d))] 0 []
  refine zr_iload_n X 1 dX8_wanted_0 rfl rfl ?_
  refine zr_iconst X (v := 0) dX8_wanted_1 (by decide) ?_
  refine zr_bipush X (v := 60) dX8_wanted_2 (by decide) ?_
  refine zr_cS X (As := [.int (d), .int (0), .int (60)]) (rest := []) (f' := f) (st' := [.int (zwin d 0 60)]) zc_X8_isWithin k_isWithin ⟨Nat.le_of_ble_eq_true rfl, Nat.le_of_ble_eq_true rfl⟩ ⟨Nat.le_refl _, Nat.le_refl _⟩ rfl (Nat.le_of_ble_eq_true rfl) zm_3_34 rfl dX8_wanted_4 rfl ?_
  refine zr_if_eq X (tgt := 29) dX8_wanted_7 (by decide) (fun h1 => ?_) (fun h2 => ?_)
  · refine zr_ldc X zm_3_6 dX8_wanted_29 ?_
    exact zret_i E rfl dX8_wanted_31 (by simp only [cWanted, hbE, if_pos h1]) rfl
  · refine zr_aload_n X 0 dX8_wanted_10 rfl rfl ?_
    refine zr_get X zfd_RX8_10 (0) (show 0 < w.1 by rw [hw]; omega) hc.1 (v := .ref (w.2 (1))) rfl dX8_wanted_11 ?_
    refine zr_aload_n X 0 dX8_wanted_14 rfl rfl ?_
    refine zr_get X zfd_RX8_10 (0) (show 0 < w.1 by rw [hw]; omega) hc.1 (v := .ref (w.2 (1))) rfl dX8_wanted_15 ?_
    refine zr_getN X zfn_RX8_90 (1) (show 1 < w.1 by rw [hw]; omega) (hc.2.1 (0) (by omega)) (v := .int (s0.2 3)) rfl dX8_wanted_18 ?_
    refine zr_iload_n X 1 dX8_wanted_21 rfl rfl ?_
    refine zr_iadd X dX8_wanted_22 ?_
    refine zr_cV X (As := [.int ((s0.2 3) + d)]) (rest := []) (f' := f) (st' := [.int (hWanted s0.1 s0.2 ((s0.2 3) + d) bk)]) zc_X2_wantedOn (1) (show 1 < w.1 by rw [hw]; omega) (hc.2.1 (0) (by omega)) (q9 := _) rfl rfl (k_wantedOnF (fun o ho => (hc.2.1 o ho)) (show 1 + 21 ≤ w.1 by rw [hw]; decide) o2 hmc o5 o4 o1) ⟨Nat.le_of_ble_eq_true rfl, Nat.le_of_ble_eq_true rfl⟩ ⟨Nat.le_refl _, Nat.le_refl _⟩ rfl (Nat.le_of_ble_eq_true rfl) zm_3_45 rfl dX8_wanted_23 rfl ?_
    refine zr_goto X (tgt := 31) dX8_wanted_26 (by decide) ?_
    exact zret_i E rfl dX8_wanted_31 (by simp only [cWanted, hbE, if_neg h2]) rfl
set_option maxHeartbeats 4000000 in
set_option maxRecDepth 100000 in
theorem k_next {l : Launch} {D : va_G} {cy : Nat → ClassId} {w : zW} {f : zF} {s0 s1 : zGS} {hs : Nat → zGS} {δ : Nat → Nat} {k : Nat} {x : Int32} (hw : w.1 = 139) (hc : zCl w cy f s0 s1 hs δ k) (hi : zInv s0 s1 hs δ k) : zSd l D cy yX8_next cX8_next 4 (some .int) 2 45 [.ref (w.2 (0)), .int (x)] w f (some (.int (cNext s0 x))) f := by
  refine zSd.intro (by decide) (Nat.le_of_ble_eq_true rfl) (fun G X E => ?_)
  obtain ⟨mc, hmc, o1, o2, bk, o4, o5⟩ := hi.1
  have hmE : (s0.2 0).toNatClampNeg = mc := by rw [o2, nI_clamp (by omega)]
  have hbE : (s0.2 1).toNatClampNeg = bk := by rw [o5, nI_clamp (by omega)]
  show G (w, 0, 0) f [(0, .ref (w.2 (0))), (1, .int (x))] 0 []
  refine zr_iload_n X 1 dX8_next_0 rfl rfl ?_
  refine zr_iconst X (v := 0) dX8_next_1 (by decide) ?_
  refine zr_iconst X (v := 1) dX8_next_2 (by decide) ?_
  refine zr_cS X (As := [.int (x), .int (0), .int (1)]) (rest := []) (f' := f) (st' := [.int (zwin x 0 1)]) zc_X8_isWithin k_isWithin ⟨Nat.le_of_ble_eq_true rfl, Nat.le_of_ble_eq_true rfl⟩ ⟨Nat.le_refl _, Nat.le_refl _⟩ rfl (Nat.le_of_ble_eq_true rfl) zm_3_34 rfl dX8_next_3 rfl ?_
  refine zr_if_ne X (tgt := 12) dX8_next_6 (by decide) (fun h1 => ?_) (fun h2 => ?_)
  · refine zr_aload_n X 0 dX8_next_12 rfl rfl ?_
    refine zr_get X zfd_RX8_10 (0) (show 0 < w.1 by rw [hw]; omega) hc.1 (v := .ref (w.2 (1))) rfl dX8_next_13 ?_
    refine zr_cV X (As := []) (rest := []) (f' := f) (st' := [.int (oI (hBest s0.2 mc))]) zc_X2_bestMule (1) (show 1 < w.1 by rw [hw]; omega) (hc.2.1 (0) (by omega)) (q9 := _) rfl rfl (k_bestMuleF (fun o ho => (hc.2.1 o ho)) (show 1 + 21 ≤ w.1 by rw [hw]; decide) o2 hmc o5 o4 o1) ⟨Nat.le_of_ble_eq_true rfl, Nat.le_of_ble_eq_true rfl⟩ ⟨Nat.le_refl _, Nat.le_refl _⟩ rfl (Nat.le_of_ble_eq_true rfl) zm_3_58 rfl dX8_next_16 rfl ?_
    refine zr_istore_n X (ls' := [(2, .int (oI (hBest s0.2 mc))), (0, .ref (w.2 (0))), (1, .int (x))]) dX8_next_19 rfl (by decide) rfl ?_
    refine zr_aload_n X 1 dX8_next_20 rfl rfl ?_
    refine zr_get X zfd_RX8_10 (0) (show 0 < w.1 by rw [hw]; omega) hc.1 (v := .ref (w.2 (1))) rfl dX8_next_21 ?_
    refine zr_iload_n X 0 dX8_next_24 rfl rfl ?_
    by_cases h3 : (oI (hBest s0.2 mc)) < 0
    · refine zr_cV X (As := [.int (oI (hBest s0.2 mc))]) (rest := []) (f' := f) (st' := [.null]) zc_X2_muleAt (1) (show 1 < w.1 by rw [hw]; omega) (hc.2.1 (0) (by omega)) (q9 := _) rfl rfl (k_muleAtNF (fun o ho => (hc.2.1 o ho)) (show 1 + 21 ≤ w.1 by rw [hw]; decide) o2 hmc o5 o4 o1 (Or.inl h3)) ⟨Nat.le_of_ble_eq_true rfl, Nat.le_of_ble_eq_true rfl⟩ ⟨Nat.le_refl _, Nat.le_refl _⟩ rfl (Nat.le_of_ble_eq_true rfl) zm_3_5 rfl dX8_next_25 rfl ?_
      refine zr_astore_nN X (ls' := [(3, .null), (2, .int (oI (hBest s0.2 mc))), (0, .ref (w.2 (0))), (1, .int (x))]) dX8_next_28 rfl (by decide) rfl ?_
      refine zr_aload_nN X 0 dX8_next_29 rfl rfl ?_
      refine zr_ifnonnullN X dX8_next_30 ?_
      refine zr_ldc X zm_3_29 dX8_next_33 ?_
      exact zret_i E rfl dX8_next_35 (by unfold cNext cBest; rw [hmE]; simp only [if_neg h1, if_pos h3]) rfl
    · by_cases h4 : (s0.2 0) ≤ (oI (hBest s0.2 mc))
      · refine zr_cV X (As := [.int (oI (hBest s0.2 mc))]) (rest := []) (f' := f) (st' := [.null]) zc_X2_muleAt (1) (show 1 < w.1 by rw [hw]; omega) (hc.2.1 (0) (by omega)) (q9 := _) rfl rfl (k_muleAtNF (fun o ho => (hc.2.1 o ho)) (show 1 + 21 ≤ w.1 by rw [hw]; decide) o2 hmc o5 o4 o1 (Or.inr h4)) ⟨Nat.le_of_ble_eq_true rfl, Nat.le_of_ble_eq_true rfl⟩ ⟨Nat.le_refl _, Nat.le_refl _⟩ rfl (Nat.le_of_ble_eq_true rfl) zm_3_5 rfl dX8_next_25 rfl ?_
        refine zr_astore_nN X (ls' := [(3, .null), (2, .int (oI (hBest s0.2 mc))), (0, .ref (w.2 (0))), (1, .int (x))]) dX8_next_28 rfl (by decide) rfl ?_
        refine zr_aload_nN X 0 dX8_next_29 rfl rfl ?_
        refine zr_ifnonnullN X dX8_next_30 ?_
        refine zr_ldc X zm_3_29 dX8_next_33 ?_
        exact zret_i E rfl dX8_next_35 (by unfold cNext cBest; rw [hmE]; simp only [if_neg h1, if_neg h3, if_pos h4]) rfl
      · have q1 := zix3 o2 hmc (by decide) h3 h4
        refine zr_cV X (As := [.int (oI (hBest s0.2 mc))]) (rest := []) (f' := f) (st' := [.ref (w.2 (1 + (7 + (oI (hBest s0.2 mc)).toNatClampNeg)))]) zc_X2_muleAt (1) (show 1 < w.1 by rw [hw]; omega) (hc.2.1 (0) (by omega)) (q9 := _) rfl rfl (k_muleAtXF (fun o ho => (hc.2.1 o ho)) (show 1 + 21 ≤ w.1 by rw [hw]; decide) o2 hmc o5 o4 o1 h3 h4) ⟨Nat.le_of_ble_eq_true rfl, Nat.le_of_ble_eq_true rfl⟩ ⟨Nat.le_refl _, Nat.le_refl _⟩ rfl (Nat.le_of_ble_eq_true rfl) zm_3_5 rfl dX8_next_25 rfl ?_
        refine zr_astore_n X (ls' := [(3, .ref (w.2 (1 + (7 + (oI (hBest s0.2 mc)).toNatClampNeg)))), (2, .int (oI (hBest s0.2 mc))), (0, .ref (w.2 (0))), (1, .int (x))]) dX8_next_28 rfl (by decide) rfl ?_
        refine zr_aload_n X 0 dX8_next_29 rfl rfl ?_
        refine zr_ifnonnull X (tgt := 36) dX8_next_30 (by decide) ?_
        refine zr_iload_n X 3 dX8_next_36 rfl rfl ?_
        refine zr_if_ne X (tgt := 44) dX8_next_37 (by decide) (fun h5 => ?_) (fun h6 => ?_)
        · refine zr_aload_n X 0 dX8_next_44 rfl rfl ?_
          refine zr_getN X zfn_RX8_137 (1 + (7 + (oI (hBest s0.2 mc)).toNatClampNeg)) (show 1 + (7 + (oI (hBest s0.2 mc)).toNatClampNeg) < w.1 by rw [hw]; omega) ((hc.2.1 (7 + (oI (hBest s0.2 mc)).toNatClampNeg) (by omega)).trans (zHut_mule (k := (oI (hBest s0.2 mc)).toNatClampNeg) (by omega))) (v := .int (s0.2 (19 + 9 * ((oI (hBest s0.2 mc)).toNatClampNeg) + 0))) rfl dX8_next_45 ?_
          refine zr_aload_n X 2 dX8_next_48 rfl rfl ?_
          refine zr_get X zfd_RX8_10 (0) (show 0 < w.1 by rw [hw]; omega) hc.1 (v := .ref (w.2 (1))) rfl dX8_next_49 ?_
          refine zr_cV X (As := []) (rest := [.int (s0.2 (19 + 9 * ((oI (hBest s0.2 mc)).toNatClampNeg) + 0))]) (f' := f) (st' := [.int (hCred s0.2), .int (s0.2 (19 + 9 * ((oI (hBest s0.2 mc)).toNatClampNeg) + 0))]) zc_X2_loavesOnCredit (1) (show 1 < w.1 by rw [hw]; omega) (hc.2.1 (0) (by omega)) (q9 := _) rfl rfl (k_loavesOnCreditF (fun o ho => (hc.2.1 o ho)) (show 1 + 21 ≤ w.1 by rw [hw]; decide) o2 hmc o5 o4 o1) ⟨Nat.le_of_ble_eq_true rfl, Nat.le_of_ble_eq_true rfl⟩ ⟨Nat.le_refl _, Nat.le_refl _⟩ rfl (Nat.le_of_ble_eq_true rfl) zm_3_66 rfl dX8_next_52 rfl ?_
          refine zr_min X zm_3_70 (by decide) (by show 0 + 13 ≤ _; decide) (Nat.le_refl _) (Nat.le_refl _) dX8_next_55 ?_
          exact zret_i E rfl dX8_next_58 (by unfold cNext cBest; rw [hmE]; simp only [if_neg h1, if_neg h3, if_neg h4, if_neg h5]) rfl
        · refine zr_iload_n X 1 dX8_next_40 rfl rfl ?_
          refine zr_goto X (tgt := 58) dX8_next_41 (by decide) ?_
          exact zret_i E rfl dX8_next_58 (by unfold cNext cBest; rw [hmE]; simp only [if_neg h1, if_neg h3, if_neg h4, if_pos h6]) rfl
  · refine zr_ldc X zm_3_6 dX8_next_9 ?_
    exact zret_i E rfl dX8_next_11 (by unfold cNext cBest; rw [hmE]; simp only [if_pos h2]) rfl
set_option maxHeartbeats 4000000 in
set_option maxRecDepth 100000 in
theorem k_count {l : Launch} {D : va_G} {cy : Nat → ClassId} {w : zW} {f : zF} {s0 s1 : zGS} {hs : Nat → zGS} {δ : Nat → Nat} {k : Nat} {l0 p a r c : Int32} {x : Int32} (hw : w.1 = 139) (hc : zCl w cy f s0 s1 hs δ k) (hi : zInv s0 s1 hs δ k) (h9 : f 129 = eOrd w (ov l0 p a r c)) : zSd l D cy yX8_count cX8_count 2 (some .int) 3 65 [.ref (w.2 (0)), .int (x)] w f (some (.int (cCount s0 k l0 x))) f := by
  refine zSd.intro (by decide) (Nat.le_of_ble_eq_true rfl) (fun G X E => ?_)
  obtain ⟨mc, hmc, o1, o2, bk, o4, o5⟩ := hi.1
  have hmE : (s0.2 0).toNatClampNeg = mc := by rw [o2, nI_clamp (by omega)]
  have hbE : (s0.2 1).toNatClampNeg = bk := by rw [o5, nI_clamp (by omega)]
  show G (w, 0, 0) f [(0, .ref (w.2 (0))), (1, .int (x))] 0 []
  refine zr_iload_n X 1 dX8_count_0 rfl rfl ?_
  by_cases h1 : x = 18
  · refine zr_lookup X (off := 27) (tgt := 28) dX8_count_1 (by decide) (by rw [h1]; decide) (by decide) ?_
    refine zr_aload_n X 0 dX8_count_28 rfl rfl ?_
    refine zr_get X zfd_RX8_22 (0) (show 0 < w.1 by rw [hw]; omega) hc.1 (v := .ref (w.2 (43))) rfl dX8_count_29 ?_
    refine zr_getN X zfn_RX8_164 (43) (show 43 < w.1 by rw [hw]; omega) hc.2.2.2.1 (v := .int (nI (k))) rfl dX8_count_32 ?_
    exact zret_i E rfl dX8_count_35 (by simp only [cCount, hmE, if_pos h1]) rfl
  by_cases h2 : x = 19
  · refine zr_lookup X (off := 35) (tgt := 36) dX8_count_1 (by decide) (by rw [h2]; decide) (by decide) ?_
    refine zr_aload_n X 0 dX8_count_36 rfl rfl ?_
    refine zr_get X zfd_RX8_29 (0) (show 0 < w.1 by rw [hw]; omega) hc.1 (v := .ref (w.2 (129))) rfl dX8_count_37 ?_
    refine zr_getN X zfn_RX8_167 (129) (show 129 < w.1 by rw [hw]; omega) h9 (v := .int (l0)) rfl dX8_count_40 ?_
    exact zret_i E rfl dX8_count_43 (by simp only [cCount, hmE, if_neg h1, if_pos h2]) rfl
  refine zr_lookup X (off := 43) (tgt := 44) dX8_count_1 (by decide) (by rw [lv_osw h1 (show (18 : Int32).toInt = 18 from by decide), lv_osw h2 (show (19 : Int32).toInt = 19 from by decide)]; rfl) (by decide) ?_
  refine zr_aload_n X 0 dX8_count_44 rfl rfl ?_
  refine zr_get X zfd_RX8_10 (0) (show 0 < w.1 by rw [hw]; omega) hc.1 (v := .ref (w.2 (1))) rfl dX8_count_45 ?_
  refine zr_iload_n X 1 dX8_count_48 rfl rfl ?_
  refine zr_cV X (As := [.int (x)]) (rest := []) (f' := f) (st' := [.int (hTell mc s0.2 x)]) zc_X2_tell (1) (show 1 < w.1 by rw [hw]; omega) (hc.2.1 (0) (by omega)) (q9 := _) rfl rfl (k_Hut_tellF (fun o ho => (hc.2.1 o ho)) (show 1 + 21 ≤ w.1 by rw [hw]; decide) o2 hmc o5 o4 o1) ⟨Nat.le_of_ble_eq_true rfl, Nat.le_of_ble_eq_true rfl⟩ ⟨Nat.le_refl _, Nat.le_refl _⟩ rfl (Nat.le_of_ble_eq_true rfl) zm_3_95 rfl dX8_count_49 rfl ?_
  exact zret_i E rfl dX8_count_52 (by simp only [cCount, hmE, if_neg h1, if_neg h2]) rfl
def zTr (w : zW) (cy : Nat → ClassId) (f : zF) (s0 : zGS) (hs : Nat → zGS) (δ : Nat → Nat) (k : Nat) (q : Int32) : Option Value → zF → Prop := fun r g => r = some (.int q) ∧ (∃ t, zOkE t ∧ zCl w cy g s0 t hs δ k) ∧ ∀ t, 129 ≤ t → g t = f t
def cHung (t : zGS) (h : Int32) : Nat → Nat → Int32
  | 0, _ => -1000004
  | m + 1, n => if ((hDays t (n + 1)).2 12) ≤ h then cHung t h m (n + 1) else nI (n + 1)
theorem hDays_okE {t : zGS} (h : zOkE t) (n : Nat) : zOkE (hDays t n) := by
  obtain ⟨m, hm, h⟩ := h
  exact ⟨m, hm, hDays_ok hm h n⟩
set_option maxHeartbeats 4000000 in
set_option maxRecDepth 100000 in
theorem k_hungry {l : Launch} {D : va_G} {cy : Nat → ClassId} {w : zW} {f : zF} {s0 s1 : zGS} {hs : Nat → zGS} {δ : Nat → Nat} {k : Nat} (hw : w.1 = 139) (hc : zCl w cy f s0 s1 hs δ k) (hi : zInv s0 s1 hs δ k) : zSp l D cy yX8_hungry cX8_hungry 2 (some .int) 3 77 [.ref (w.2 (0))] w f (zTr w cy f s0 hs δ k (cHung (cp s1 s0) (s0.2 12) 60 0)) := by
  refine zSp.intro (by decide) (Nat.le_of_ble_eq_true rfl) (fun G X E => ?_)
  have okt : zOkE (cp s1 s0) := cp_ok hi.2.1.g hi.1
  show G (w, 0, 0) f [(0, .ref (w.2 (0)))] 0 []
  refine zr_aload_n X 0 dX8_hungry_0 rfl rfl ?_
  refine zr_get X zfd_RX8_16 (0) (show 0 < w.1 by rw [hw]; omega) hc.1 (v := .ref (w.2 (22))) rfl dX8_hungry_1 ?_
  refine zr_aload_n X 0 dX8_hungry_4 rfl rfl ?_
  refine zr_get X zfd_RX8_10 (0) (show 0 < w.1 by rw [hw]; omega) hc.1 (v := .ref (w.2 (1))) rfl dX8_hungry_5 ?_
  refine zr_cV X (As := [.ref (w.2 (1))]) (rest := []) (f' := zPut f (22) (zHut w cy (22) ((cp s1 s0).1) ((cp s1 s0).2))) (st' := []) zc_X2_copyFrom (22) (show 22 < w.1 by rw [hw]; omega) (hc.2.2.1 (0) (by omega)) (q9 := _) rfl rfl (k_copy (show 22 + 21 ≤ w.1 by rw [hw]; omega) (show 1 + 21 ≤ w.1 by rw [hw]; omega) (by omega) (fun o ho => (hc.2.2.1 o ho)) (fun o ho => (hc.2.1 o ho)) (hi.2.1).g hi.1) ⟨Nat.le_of_ble_eq_true rfl, Nat.le_of_ble_eq_true rfl⟩ ⟨Nat.le_refl _, Nat.le_refl _⟩ rfl (Nat.le_of_ble_eq_true rfl) zm_2_45 rfl dX8_hungry_8 rfl ?_
  refine zr_iconst X (v := 1) dX8_hungry_11 (by decide) ?_
  refine zr_istore_n X (ls' := [(1, .int (1)), (0, .ref (w.2 (0)))]) dX8_hungry_12 rfl (by decide) rfl ?_
  refine zr_loc X (ls' := [(0, .ref (w.2 (0))), (1, .int (1))]) [1, 0] rfl ?_
  refine zcast (f2 := zPut f (22) (zHut w cy (22) ((hDays (cp s1 s0) (0)).1) ((hDays (cp s1 s0) (0)).2))) (ls2 := [(0, .ref (w.2 (0))), (1, .int (nI (0 + 1)))]) rfl rfl ?_
  refine zdown (P := fun n => cHung (cp s1 s0) (s0.2 12) (60 - (n)) (n) = cHung (cp s1 s0) (s0.2 12) 60 0 → G (w, 0, 0) (zPut f (22) (zHut w cy (22) ((hDays (cp s1 s0) (n)).1) ((hDays (cp s1 s0) (n)).2))) [(0, .ref (w.2 (0))), (1, .int (nI (n + 1)))] 13 []) (B := 60) ?_ (fun n hn13 ih13 => ?_) 0 (Nat.zero_le _) rfl
  · show cHung (cp s1 s0) (s0.2 12) (60 - (60)) (60) = cHung (cp s1 s0) (s0.2 12) 60 0 → G (w, 0, 0) (zPut f (22) (zHut w cy (22) ((hDays (cp s1 s0) (60)).1) ((hDays (cp s1 s0) (60)).2))) [(0, .ref (w.2 (0))), (1, .int (nI (60 + 1)))] 13 []
    intro q
    rw [Nat.sub_self] at q
    refine zr_iload_n X 1 dX8_hungry_13 rfl rfl ?_
    refine zr_bipush X (v := 60) dX8_hungry_14 (by decide) ?_
    refine zr_icmp_gt X (tgt := 57) dX8_hungry_16 (by decide) (fun _ => ?_) (fun h => False.elim (h (by decide)))
    refine zr_ldc X zm_3_29 dX8_hungry_57 ?_
    refine zretp_i E rfl dX8_hungry_59 ⟨?_, ⟨(hDays (cp s1 s0) (60)), hDays_okE okt _, ⟨((zPut_out (by omega)).trans hc.1), fun o ho => ((zPut_out (by omega)).trans (hc.2.1 o ho)), fun o ho => (zPut_in ho), ((zPut_out (by omega)).trans hc.2.2.2.1), ((zPut_out (by omega)).trans hc.2.2.2.2.1), (fun i hi9 o ho => ((zPut_out (by omega)).trans (hc.2.2.2.2.2 i hi9 o ho)))⟩⟩, fun t ht => zPut_out (by omega)⟩
    exact congrArg (fun z => some (Value.int z)) (by rw [← q]; simp only [cHung])
  · show cHung (cp s1 s0) (s0.2 12) (60 - (n)) (n) = cHung (cp s1 s0) (s0.2 12) 60 0 → G (w, 0, 0) (zPut f (22) (zHut w cy (22) ((hDays (cp s1 s0) (n)).1) ((hDays (cp s1 s0) (n)).2))) [(0, .ref (w.2 (0))), (1, .int (nI (n + 1)))] 13 []
    intro q
    rw [show 60 - n = (60 - (n + 1)) + 1 by omega] at q
    refine zr_iload_n X 1 dX8_hungry_13 rfl rfl ?_
    refine zr_bipush X (v := 60) dX8_hungry_14 (by decide) ?_
    refine zr_icmp_gt X (tgt := 57) dX8_hungry_16 (by decide) (fun h => False.elim ((nI_nlt (show n + 1 ≤ 60 by omega) (by decide)) h)) (fun _ => ?_)
    refine zr_aload_n X 0 dX8_hungry_19 rfl rfl ?_
    refine zr_get X zfd_RX8_16 (0) (show 0 < w.1 by rw [hw]; omega) ((zPut_out (by omega)).trans hc.1) (v := .ref (w.2 (22))) rfl dX8_hungry_20 ?_
    refine zr_cV X (As := []) (rest := []) (f' := zPut (zPut f (22) (zHut w cy (22) ((hDays (cp s1 s0) (n)).1) ((hDays (cp s1 s0) (n)).2))) (22) (zHut w cy (22) ((hDays (cp s1 s0) (n + 1)).1) ((hDays (cp s1 s0) (n + 1)).2))) (st' := []) zc_X2_endDay (22) (show 22 < w.1 by rw [hw]; omega) (zPut_in (o := 0) (by omega)) (q9 := _) rfl rfl (k_qDay (s := (hDays (cp s1 s0) (n))) (show 22 + 21 ≤ w.1 by rw [hw]; decide) (fun o ho => (zPut_in ho)) (hDays_okE okt n)) ⟨Nat.le_of_ble_eq_true rfl, Nat.le_of_ble_eq_true rfl⟩ ⟨Nat.le_refl _, Nat.le_refl _⟩ rfl (Nat.le_of_ble_eq_true rfl) zm_3_53 rfl dX8_hungry_23 rfl ?_
    rw [zPut_put]
    refine zr_aload_n X 0 dX8_hungry_26 rfl rfl ?_
    refine zr_get X zfd_RX8_16 (0) (show 0 < w.1 by rw [hw]; omega) ((zPut_out (by omega)).trans hc.1) (v := .ref (w.2 (22))) rfl dX8_hungry_27 ?_
    refine zr_getN X zfn_RX8_124 (22) (show 22 < w.1 by rw [hw]; omega) (zPut_in (o := 0) (by omega)) (v := .ref (w.2 (22 + 5))) rfl dX8_hungry_30 ?_
    refine zr_getN X zfn_RX8_128 (22 + 5) (show 22 + 5 < w.1 by rw [hw]; omega) (zPut_in (o := 5) (by omega)) (v := .int (((hDays (cp s1 s0) (n + 1)).2) 12)) rfl dX8_hungry_33 ?_
    refine zr_aload_n X 0 dX8_hungry_36 rfl rfl ?_
    refine zr_get X zfd_RX8_10 (0) (show 0 < w.1 by rw [hw]; omega) ((zPut_out (by omega)).trans hc.1) (v := .ref (w.2 (1))) rfl dX8_hungry_37 ?_
    refine zr_getN X zfn_RX8_124 (1) (show 1 < w.1 by rw [hw]; omega) ((zPut_out (by omega)).trans (hc.2.1 (0) (by omega))) (v := .ref (w.2 (1 + 5))) rfl dX8_hungry_40 ?_
    refine zr_getN X zfn_RX8_128 (1 + 5) (show 1 + 5 < w.1 by rw [hw]; omega) ((zPut_out (by omega)).trans (hc.2.1 (5) (by omega))) (v := .int (s0.2 12)) rfl dX8_hungry_43 ?_
    refine zr_icmp_le X (tgt := 51) dX8_hungry_46 (by decide) (fun h1 => ?_) (fun h2 => ?_)
    · refine zr_iinc X (v := nI (n + 1 + 1)) (ls' := [(1, .int (nI (n + 1 + 1))), (0, .ref (w.2 (0)))]) 1 dX8_hungry_51 rfl (zinc1 _) (by decide) rfl ?_
      refine zr_goto X (tgt := 13) dX8_hungry_54 (by decide) ?_
      refine zr_loc X (ls' := [(0, .ref (w.2 (0))), (1, .int (nI (n + 1 + 1)))]) [1, 0] rfl ?_
      exact zcast (f2 := zPut f (22) (zHut w cy (22) ((hDays (cp s1 s0) (n + 1)).1) ((hDays (cp s1 s0) (n + 1)).2))) (ls2 := [(0, .ref (w.2 (0))), (1, .int (nI (n + 1 + 1)))]) rfl rfl (ih13 (by rw [← q]; simp only [if_pos h1, cHung]))
    · refine zr_iload_n X 1 dX8_hungry_49 rfl rfl ?_
      refine zretp_i E rfl dX8_hungry_50 ⟨?_, ⟨(hDays (cp s1 s0) (n + 1)), hDays_okE okt _, ⟨((zPut_out (by omega)).trans hc.1), fun o ho => ((zPut_out (by omega)).trans (hc.2.1 o ho)), fun o ho => (zPut_in ho), ((zPut_out (by omega)).trans hc.2.2.2.1), ((zPut_out (by omega)).trans hc.2.2.2.2.1), (fun i hi9 o ho => ((zPut_out (by omega)).trans (hc.2.2.2.2.2 i hi9 o ho)))⟩⟩, fun t ht => zPut_out (by omega)⟩
      exact congrArg (fun z => some (Value.int z)) (by rw [← q]; simp only [if_neg h2, cHung])
def cWould (s t : zGS) (d x : Int32) : Int32 := if (zwin d 1 60) = 0 then (-1000001) else if (zwin x 0 3) = 0 then (-1000001) else if x = 0 then (hDays t d.toNatClampNeg).2 8 - s.2 8 else if x = 1 then (hDays t d.toNatClampNeg).2 5 else if x = 2 then shMany (fun k9 => (hDays t d.toNatClampNeg).2 (115 + k9)) 0 20 21 else ((hDays t d.toNatClampNeg).2 9 + (hDays t d.toNatClampNeg).2 10) - (s.2 9 + s.2 10)
set_option maxHeartbeats 4000000 in
set_option maxRecDepth 100000 in
theorem k_would {l : Launch} {D : va_G} {cy : Nat → ClassId} {w : zW} {f : zF} {s0 s1 : zGS} {hs : Nat → zGS} {δ : Nat → Nat} {k : Nat} {d x : Int32} (hw : w.1 = 139) (hc : zCl w cy f s0 s1 hs δ k) (hi : zInv s0 s1 hs δ k) : zSp l D cy yX8_would cX8_would 4 (some .int) 3 77 [.ref (w.2 (0)), .int (d), .int (x)] w f (zTr w cy f s0 hs δ k (cWould s0 (cp s1 s0) d x)) := by
  refine zSp.intro (by decide) (Nat.le_of_ble_eq_true rfl) (fun G X E => ?_)
  have okt : zOkE (cp s1 s0) := cp_ok hi.2.1.g hi.1
  show G (w, 0, 0) f [(0, .ref (w.2 (0))), (1, .int (d)), (2, .int (x))] 0 []
  refine zr_iload_n X 1 dX8_would_0 rfl rfl ?_
  refine zr_iconst X (v := 1) dX8_would_1 (by decide) ?_
  refine zr_bipush X (v := 60) dX8_would_2 (by decide) ?_
  refine zr_cS X (As := [.int (d), .int (1), .int (60)]) (rest := []) (f' := f) (st' := [.int (zwin d 1 60)]) zc_X8_isWithin k_isWithin ⟨Nat.le_of_ble_eq_true rfl, Nat.le_of_ble_eq_true rfl⟩ ⟨Nat.le_refl _, Nat.le_refl _⟩ rfl (Nat.le_of_ble_eq_true rfl) zm_3_34 rfl dX8_would_4 rfl ?_
  refine zr_if_eq X (tgt := 19) dX8_would_7 (by decide) (fun h1 => ?_) (fun h2 => ?_)
  · refine zr_ldc X zm_3_6 dX8_would_19 ?_
    refine zretp_i E rfl dX8_would_21 ⟨congrArg (fun z => some (Value.int z)) (by simp only [if_pos h1, cWould]), ⟨s1, hi.2.1, hc⟩, fun _ _ => rfl⟩
  · refine zr_iload_n X 2 dX8_would_10 rfl rfl ?_
    refine zr_iconst X (v := 0) dX8_would_11 (by decide) ?_
    refine zr_iconst X (v := 3) dX8_would_12 (by decide) ?_
    refine zr_cS X (As := [.int (x), .int (0), .int (3)]) (rest := []) (f' := f) (st' := [.int (zwin x 0 3)]) zc_X8_isWithin k_isWithin ⟨Nat.le_of_ble_eq_true rfl, Nat.le_of_ble_eq_true rfl⟩ ⟨Nat.le_refl _, Nat.le_refl _⟩ rfl (Nat.le_of_ble_eq_true rfl) zm_3_34 rfl dX8_would_13 rfl ?_
    refine zr_if_ne X (tgt := 22) dX8_would_16 (by decide) (fun h3 => ?_) (fun h4 => ?_)
    · have hd1 := zwin_nn h2 (by decide)
      have hd2 := zwin_hi h2 (by decide) (show (60 : Int32) = nI 60 from rfl) (by decide)
      have hdn := zix1 hd1
      refine zr_aload_n X 0 dX8_would_22 rfl rfl ?_
      refine zr_get X zfd_RX8_16 (0) (show 0 < w.1 by rw [hw]; omega) hc.1 (v := .ref (w.2 (22))) rfl dX8_would_23 ?_
      refine zr_aload_n X 0 dX8_would_26 rfl rfl ?_
      refine zr_get X zfd_RX8_10 (0) (show 0 < w.1 by rw [hw]; omega) hc.1 (v := .ref (w.2 (1))) rfl dX8_would_27 ?_
      refine zr_cV X (As := [.ref (w.2 (1))]) (rest := []) (f' := zPut f (22) (zHut w cy (22) ((cp s1 s0).1) ((cp s1 s0).2))) (st' := []) zc_X2_copyFrom (22) (show 22 < w.1 by rw [hw]; omega) (hc.2.2.1 (0) (by omega)) (q9 := _) rfl rfl (k_copy (show 22 + 21 ≤ w.1 by rw [hw]; omega) (show 1 + 21 ≤ w.1 by rw [hw]; omega) (by omega) (fun o ho => (hc.2.2.1 o ho)) (fun o ho => (hc.2.1 o ho)) (hi.2.1).g hi.1) ⟨Nat.le_of_ble_eq_true rfl, Nat.le_of_ble_eq_true rfl⟩ ⟨Nat.le_refl _, Nat.le_refl _⟩ rfl (Nat.le_of_ble_eq_true rfl) zm_2_45 rfl dX8_would_30 rfl ?_
      refine zr_iconst X (v := 0) dX8_would_33 (by decide) ?_
      refine zr_istore_n X (ls' := [(3, .int (0)), (0, .ref (w.2 (0))), (1, .int (d)), (2, .int (x))]) dX8_would_34 rfl (by decide) rfl ?_
      refine zr_loc X (ls' := [(0, .ref (w.2 (0))), (1, .int (d)), (2, .int (x)), (3, .int (0))]) [1, 2, 3, 0] rfl ?_
      refine zcast (f2 := zPut f (22) (zHut w cy (22) ((hDays (cp s1 s0) (0)).1) ((hDays (cp s1 s0) (0)).2))) (ls2 := [(0, .ref (w.2 (0))), (1, .int (d)), (2, .int (x)), (3, .int (nI (0)))]) rfl rfl ?_
      refine zdown (P := fun n => G (w, 0, 0) (zPut f (22) (zHut w cy (22) ((hDays (cp s1 s0) (n)).1) ((hDays (cp s1 s0) (n)).2))) [(0, .ref (w.2 (0))), (1, .int (d)), (2, .int (x)), (3, .int (nI (n)))] 35 []) (B := d.toNatClampNeg) ?_ (fun n hn35 ih35 => ?_) 0 (Nat.zero_le _) 
      · show G (w, 0, 0) (zPut f (22) (zHut w cy (22) ((hDays (cp s1 s0) (d.toNatClampNeg)).1) ((hDays (cp s1 s0) (d.toNatClampNeg)).2))) [(0, .ref (w.2 (0))), (1, .int (d)), (2, .int (x)), (3, .int (nI (d.toNatClampNeg)))] 35 []
        refine zr_iload_n X 3 dX8_would_35 rfl rfl ?_
        refine zr_iload_n X 1 dX8_would_36 rfl rfl ?_
        refine zr_icmp_ge X (tgt := 53) dX8_would_37 (by decide) (fun _ => ?_) (fun h => False.elim (h (zle_eq hdn)))
        refine zr_iload_n X 2 dX8_would_53 rfl rfl ?_
        by_cases h5 : x = 0
        · refine zr_tableIn X (off := 26) (tgt := 80) dX8_would_54 (by rw [h5]; decide) (by rw [h5]; decide) (by rw [h5]; decide) (by decide) ?_
          refine zr_aload_n X 0 dX8_would_80 rfl rfl ?_
          refine zr_get X zfd_RX8_16 (0) (show 0 < w.1 by rw [hw]; omega) ((zPut_out (by omega)).trans hc.1) (v := .ref (w.2 (22))) rfl dX8_would_81 ?_
          refine zr_getN X zfn_RX8_124 (22) (show 22 < w.1 by rw [hw]; omega) (zPut_in (o := 0) (by omega)) (v := .ref (w.2 (22 + 5))) rfl dX8_would_84 ?_
          refine zr_getN X zfn_RX8_148 (22 + 5) (show 22 + 5 < w.1 by rw [hw]; omega) (zPut_in (o := 5) (by omega)) (v := .int (((hDays (cp s1 s0) (d.toNatClampNeg)).2) 8)) rfl dX8_would_87 ?_
          refine zr_aload_n X 0 dX8_would_90 rfl rfl ?_
          refine zr_get X zfd_RX8_10 (0) (show 0 < w.1 by rw [hw]; omega) ((zPut_out (by omega)).trans hc.1) (v := .ref (w.2 (1))) rfl dX8_would_91 ?_
          refine zr_getN X zfn_RX8_124 (1) (show 1 < w.1 by rw [hw]; omega) ((zPut_out (by omega)).trans (hc.2.1 (0) (by omega))) (v := .ref (w.2 (1 + 5))) rfl dX8_would_94 ?_
          refine zr_getN X zfn_RX8_148 (1 + 5) (show 1 + 5 < w.1 by rw [hw]; omega) ((zPut_out (by omega)).trans (hc.2.1 (5) (by omega))) (v := .int (s0.2 8)) rfl dX8_would_97 ?_
          refine zr_isub X dX8_would_100 ?_
          refine zretp_i E rfl dX8_would_101 ⟨?_, ⟨(hDays (cp s1 s0) (d.toNatClampNeg)), hDays_okE okt _, ⟨((zPut_out (by omega)).trans hc.1), fun o ho => ((zPut_out (by omega)).trans (hc.2.1 o ho)), fun o ho => (zPut_in ho), ((zPut_out (by omega)).trans hc.2.2.2.1), ((zPut_out (by omega)).trans hc.2.2.2.2.1), (fun i hi9 o ho => ((zPut_out (by omega)).trans (hc.2.2.2.2.2 i hi9 o ho)))⟩⟩, fun t ht => zPut_out (by omega)⟩
          exact congrArg (fun z => some (Value.int z)) (by simp only [if_neg h2, if_neg h3, if_pos h5, cWould])
        by_cases h6 : x = 1
        · refine zr_tableIn X (off := 48) (tgt := 102) dX8_would_54 (by rw [h6]; decide) (by rw [h6]; decide) (by rw [h6]; decide) (by decide) ?_
          refine zr_aload_n X 0 dX8_would_102 rfl rfl ?_
          refine zr_get X zfd_RX8_16 (0) (show 0 < w.1 by rw [hw]; omega) ((zPut_out (by omega)).trans hc.1) (v := .ref (w.2 (22))) rfl dX8_would_103 ?_
          refine zr_getN X zfn_RX8_124 (22) (show 22 < w.1 by rw [hw]; omega) (zPut_in (o := 0) (by omega)) (v := .ref (w.2 (22 + 5))) rfl dX8_would_106 ?_
          refine zr_getN X zfn_RX8_151 (22 + 5) (show 22 + 5 < w.1 by rw [hw]; omega) (zPut_in (o := 5) (by omega)) (v := .int (((hDays (cp s1 s0) (d.toNatClampNeg)).2) 5)) rfl dX8_would_109 ?_
          refine zretp_i E rfl dX8_would_112 ⟨?_, ⟨(hDays (cp s1 s0) (d.toNatClampNeg)), hDays_okE okt _, ⟨((zPut_out (by omega)).trans hc.1), fun o ho => ((zPut_out (by omega)).trans (hc.2.1 o ho)), fun o ho => (zPut_in ho), ((zPut_out (by omega)).trans hc.2.2.2.1), ((zPut_out (by omega)).trans hc.2.2.2.2.1), (fun i hi9 o ho => ((zPut_out (by omega)).trans (hc.2.2.2.2.2 i hi9 o ho)))⟩⟩, fun t ht => zPut_out (by omega)⟩
          exact congrArg (fun z => some (Value.int z)) (by simp only [if_neg h2, if_neg h3, if_neg h5, if_pos h6, cWould])
        by_cases h7 : x = 2
        · refine zr_tableIn X (off := 59) (tgt := 113) dX8_would_54 (by rw [h7]; decide) (by rw [h7]; decide) (by rw [h7]; decide) (by decide) ?_
          refine zr_aload_n X 0 dX8_would_113 rfl rfl ?_
          refine zr_get X zfd_RX8_16 (0) (show 0 < w.1 by rw [hw]; omega) ((zPut_out (by omega)).trans hc.1) (v := .ref (w.2 (22))) rfl dX8_would_114 ?_
          refine zr_getN X zfn_RX8_106 (22) (show 22 < w.1 by rw [hw]; omega) (zPut_in (o := 0) (by omega)) (v := .ref (w.2 (22 + 3))) rfl dX8_would_117 ?_
          refine zr_iconst X (v := 0) dX8_would_120 (by decide) ?_
          refine zr_bipush X (v := 20) dX8_would_121 (by decide) ?_
          refine zr_cV X (As := [.int (0), .int (20)]) (rest := []) (f' := zPut f (22) (zHut w cy (22) ((hDays (cp s1 s0) (d.toNatClampNeg)).1) ((hDays (cp s1 s0) (d.toNatClampNeg)).2))) (st' := [.int (shMany (fun k9 => ((hDays (cp s1 s0) (d.toNatClampNeg)).2) (115 + k9)) 0 20 21)]) zc_X7_howMany (22 + 3) (show 22 + 3 < w.1 by rw [hw]; omega) (zPut_in (o := 3) (by omega)) (q9 := _) rfl rfl (k_Shelf_howMany (show 22 + 3 < w.1 by rw [hw]; omega) (show 22 + 4 < w.1 by rw [hw]; omega) (zPut_in (o := 3) (by omega)) (zPut_in (o := 4) (by omega)) (by omega)) ⟨Nat.le_of_ble_eq_true rfl, Nat.le_of_ble_eq_true rfl⟩ ⟨Nat.le_refl _, Nat.le_refl _⟩ rfl (Nat.le_of_ble_eq_true rfl) zm_3_35 rfl dX8_would_123 rfl ?_
          refine zretp_i E rfl dX8_would_126 ⟨?_, ⟨(hDays (cp s1 s0) (d.toNatClampNeg)), hDays_okE okt _, ⟨((zPut_out (by omega)).trans hc.1), fun o ho => ((zPut_out (by omega)).trans (hc.2.1 o ho)), fun o ho => (zPut_in ho), ((zPut_out (by omega)).trans hc.2.2.2.1), ((zPut_out (by omega)).trans hc.2.2.2.2.1), (fun i hi9 o ho => ((zPut_out (by omega)).trans (hc.2.2.2.2.2 i hi9 o ho)))⟩⟩, fun t ht => zPut_out (by omega)⟩
          exact congrArg (fun z => some (Value.int z)) (by simp only [if_neg h2, if_neg h3, if_neg h5, if_neg h6, if_pos h7, cWould])
        refine zr_tableOut X (tgt := 127) dX8_would_54 (by have e0 := lv_neT h5 (show (0 : Int32).toInt = 0 from by decide); have e1 := lv_neT h6 (show (1 : Int32).toInt = 1 from by decide); have e2 := lv_neT h7 (show (2 : Int32).toInt = 2 from by decide); omega) (by decide) ?_
        refine zr_aload_n X 0 dX8_would_127 rfl rfl ?_
        refine zr_get X zfd_RX8_16 (0) (show 0 < w.1 by rw [hw]; omega) ((zPut_out (by omega)).trans hc.1) (v := .ref (w.2 (22))) rfl dX8_would_128 ?_
        refine zr_getN X zfn_RX8_124 (22) (show 22 < w.1 by rw [hw]; omega) (zPut_in (o := 0) (by omega)) (v := .ref (w.2 (22 + 5))) rfl dX8_would_131 ?_
        refine zr_cV X (As := []) (rest := []) (f' := zPut f (22) (zHut w cy (22) ((hDays (cp s1 s0) (d.toNatClampNeg)).1) ((hDays (cp s1 s0) (d.toNatClampNeg)).2))) (st' := [.int (((hDays (cp s1 s0) (d.toNatClampNeg)).2) 9 + ((hDays (cp s1 s0) (d.toNatClampNeg)).2) 10)]) zc_X3_wasted (22 + 5) (show 22 + 5 < w.1 by rw [hw]; omega) (zPut_in (o := 5) (by omega)) (q9 := _) rfl rfl (k_Ledger_wasted (show 22 + 5 < w.1 by rw [hw]; omega) (zPut_in (o := 5) (by omega))) ⟨Nat.le_of_ble_eq_true rfl, Nat.le_of_ble_eq_true rfl⟩ ⟨Nat.le_refl _, Nat.le_refl _⟩ rfl (Nat.le_of_ble_eq_true rfl) zm_3_75 rfl dX8_would_134 rfl ?_
        refine zr_aload_n X 0 dX8_would_137 rfl rfl ?_
        refine zr_get X zfd_RX8_10 (0) (show 0 < w.1 by rw [hw]; omega) ((zPut_out (by omega)).trans hc.1) (v := .ref (w.2 (1))) rfl dX8_would_138 ?_
        refine zr_getN X zfn_RX8_124 (1) (show 1 < w.1 by rw [hw]; omega) ((zPut_out (by omega)).trans (hc.2.1 (0) (by omega))) (v := .ref (w.2 (1 + 5))) rfl dX8_would_141 ?_
        refine zr_cV X (As := []) (rest := [.int (((hDays (cp s1 s0) (d.toNatClampNeg)).2) 9 + ((hDays (cp s1 s0) (d.toNatClampNeg)).2) 10)]) (f' := zPut f (22) (zHut w cy (22) ((hDays (cp s1 s0) (d.toNatClampNeg)).1) ((hDays (cp s1 s0) (d.toNatClampNeg)).2))) (st' := [.int (s0.2 9 + s0.2 10), .int (((hDays (cp s1 s0) (d.toNatClampNeg)).2) 9 + ((hDays (cp s1 s0) (d.toNatClampNeg)).2) 10)]) zc_X3_wasted (1 + 5) (show 1 + 5 < w.1 by rw [hw]; omega) ((zPut_out (by omega)).trans (hc.2.1 (5) (by omega))) (q9 := _) rfl rfl (k_Ledger_wasted (show 1 + 5 < w.1 by rw [hw]; omega) ((zPut_out (by omega)).trans (hc.2.1 (5) (by omega)))) ⟨Nat.le_of_ble_eq_true rfl, Nat.le_of_ble_eq_true rfl⟩ ⟨Nat.le_refl _, Nat.le_refl _⟩ rfl (Nat.le_of_ble_eq_true rfl) zm_3_75 rfl dX8_would_144 rfl ?_
        refine zr_isub X dX8_would_147 ?_
        refine zretp_i E rfl dX8_would_148 ⟨?_, ⟨(hDays (cp s1 s0) (d.toNatClampNeg)), hDays_okE okt _, ⟨((zPut_out (by omega)).trans hc.1), fun o ho => ((zPut_out (by omega)).trans (hc.2.1 o ho)), fun o ho => (zPut_in ho), ((zPut_out (by omega)).trans hc.2.2.2.1), ((zPut_out (by omega)).trans hc.2.2.2.2.1), (fun i hi9 o ho => ((zPut_out (by omega)).trans (hc.2.2.2.2.2 i hi9 o ho)))⟩⟩, fun t ht => zPut_out (by omega)⟩
        exact congrArg (fun z => some (Value.int z)) (by simp only [if_neg h2, if_neg h3, if_neg h5, if_neg h6, if_neg h7, cWould])
      · show G (w, 0, 0) (zPut f (22) (zHut w cy (22) ((hDays (cp s1 s0) (n)).1) ((hDays (cp s1 s0) (n)).2))) [(0, .ref (w.2 (0))), (1, .int (d)), (2, .int (x)), (3, .int (nI (n)))] 35 []
        refine zr_iload_n X 3 dX8_would_35 rfl rfl ?_
        refine zr_iload_n X 1 dX8_would_36 rfl rfl ?_
        refine zr_icmp_ge X (tgt := 53) dX8_would_37 (by decide) (fun h => False.elim (nI_ge hn35 (by omega) (by rw [← hdn]; exact h))) (fun _ => ?_)
        refine zr_aload_n X 0 dX8_would_40 rfl rfl ?_
        refine zr_get X zfd_RX8_16 (0) (show 0 < w.1 by rw [hw]; omega) ((zPut_out (by omega)).trans hc.1) (v := .ref (w.2 (22))) rfl dX8_would_41 ?_
        refine zr_cV X (As := []) (rest := []) (f' := zPut (zPut f (22) (zHut w cy (22) ((hDays (cp s1 s0) (n)).1) ((hDays (cp s1 s0) (n)).2))) (22) (zHut w cy (22) ((hDays (cp s1 s0) (n + 1)).1) ((hDays (cp s1 s0) (n + 1)).2))) (st' := []) zc_X2_endDay (22) (show 22 < w.1 by rw [hw]; omega) (zPut_in (o := 0) (by omega)) (q9 := _) rfl rfl (k_qDay (s := (hDays (cp s1 s0) (n))) (show 22 + 21 ≤ w.1 by rw [hw]; decide) (fun o ho => (zPut_in ho)) (hDays_okE okt n)) ⟨Nat.le_of_ble_eq_true rfl, Nat.le_of_ble_eq_true rfl⟩ ⟨Nat.le_refl _, Nat.le_refl _⟩ rfl (Nat.le_of_ble_eq_true rfl) zm_3_53 rfl dX8_would_44 rfl ?_
        rw [zPut_put]
        refine zr_iinc X (v := nI (n + 1)) (ls' := [(3, .int (nI (n + 1))), (0, .ref (w.2 (0))), (1, .int (d)), (2, .int (x))]) 3 dX8_would_47 rfl (zinc1 _) (by decide) rfl ?_
        refine zr_goto X (tgt := 35) dX8_would_50 (by decide) ?_
        refine zr_loc X (ls' := [(0, .ref (w.2 (0))), (1, .int (d)), (2, .int (x)), (3, .int (nI (n + 1)))]) [1, 2, 3, 0] rfl ?_
        exact zcast (f2 := zPut f (22) (zHut w cy (22) ((hDays (cp s1 s0) (n + 1)).1) ((hDays (cp s1 s0) (n + 1)).2))) (ls2 := [(0, .ref (w.2 (0))), (1, .int (d)), (2, .int (x)), (3, .int (nI (n + 1)))]) rfl rfl ih35
    · refine zr_ldc X zm_3_6 dX8_would_19 ?_
      refine zretp_i E rfl dX8_would_21 ⟨congrArg (fun z => some (Value.int z)) (by simp only [if_neg h2, if_pos h4, cWould]), ⟨s1, hi.2.1, hc⟩, fun _ _ => rfl⟩
