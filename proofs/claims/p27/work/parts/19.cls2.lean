def cMuleOf (s : zGS) (m x : Int32) : Int32 := if m < 0 then (-1000001) else if (s.2 0) ≤ m then (-1000001) else mTell (fun i9 => s.2 (19 + 9 * m.toNatClampNeg + i9)) x
def cPlace (s : zGS) (g : Int32) : Int32 := hPlace s.1 s.2 g (s.2 1).toNatClampNeg 0
def cGroupOf (s : zGS) (g x : Int32) : Int32 := if (cPlace s g) < 0 then (-1000001) else if (s.2 1) ≤ (cPlace s g) then (-1000001) else gTell (fun i9 => s.2 (55 + 6 * (s.1 (cPlace s g).toNatClampNeg) + i9)) x (s.2 3)
def cNumber (s : zGS) (i : Int32) : Int32 := if 0 ≤ i then (if i < 0 then (-1000004) else if (s.2 1) ≤ i then (-1000004) else s.2 (55 + 6 * (s.1 i.toNatClampNeg) + 0)) else (-1000001)
def cLoaves (s : zGS) (a : Int32) : Int32 := if (zwin a 0 20) = 0 then (-1000001) else shMany (fun k9 => s.2 (115 + k9)) a a 21
def cCount (s : zGS) (k : Nat) (l x : Int32) : Int32 := if x = 18 then nI k else if x = 19 then l else hTell (s.2 0).toNatClampNeg s.2 x
set_option maxHeartbeats 4000000 in
set_option maxRecDepth 100000 in
theorem k_muleOf {l : Launch} {D : va_G} {cy : Nat → ClassId} {w : zW} {f : zF} {s0 s1 : zGS} {hs : Nat → zGS} {δ : Nat → Nat} {k : Nat} {m : Int32} {x : Int32} (hw : w.1 = 136) (hc : zCl w cy f s0 s1 hs δ k) (hi : zInv s0 s1 hs δ k) : zSd l D cy yX8_muleOf cX8_muleOf 4 (some .int) 1 21 [.ref (w.2 (0)), .int (m), .int (x)] w f (some (.int (cMuleOf s0 m x))) f := by
  refine zSd.intro (by decide) (Nat.le_of_ble_eq_true rfl) (fun G X E => ?_)
  obtain ⟨mc, hmc, o1, o2, bk, o4, o5⟩ := hi.1
  have hmE : (s0.2 0).toNatClampNeg = mc := by rw [o2, nI_clamp (by omega)]
  have hbE : (s0.2 1).toNatClampNeg = bk := by rw [o5, nI_clamp (by omega)]
  show G (w, 0, 0) f [(0, .ref (w.2 (0))), (1, .int (m)), (2, .int (x))] 0 []
  refine zr_aload_n X 0 dX8_muleOf_0 rfl rfl ?_
  refine zr_get X zfd_RX8_10 (0) (show 0 < w.1 by rw [hw]; omega) hc.1 (v := .ref (w.2 (1))) rfl dX8_muleOf_1 ?_
  refine zr_iload_n X 1 dX8_muleOf_4 rfl rfl ?_
  by_cases h1 : m < 0
  · refine zr_cV X (As := [.int (m)]) (rest := []) (f' := f) (st' := [.null]) zc_X2_muleAt (1) (show 1 < w.1 by rw [hw]; omega) (hc.2.1 (0) (by omega)) (q9 := _) rfl rfl (k_muleAtNF (fun o ho => (hc.2.1 o ho)) (show 1 + 21 ≤ w.1 by rw [hw]; decide) o2 hmc o5 o4 o1 (Or.inl h1)) ⟨Nat.le_of_ble_eq_true rfl, Nat.le_of_ble_eq_true rfl⟩ ⟨Nat.le_refl _, Nat.le_refl _⟩ rfl (Nat.le_of_ble_eq_true rfl) zm_3_48 rfl dX8_muleOf_5 rfl ?_
    refine zr_astore_nN X (ls' := [(3, .null), (0, .ref (w.2 (0))), (1, .int (m)), (2, .int (x))]) dX8_muleOf_8 rfl (by decide) rfl ?_
    refine zr_aload_nN X 0 dX8_muleOf_9 rfl rfl ?_
    refine zr_ifnonnullN X dX8_muleOf_10 ?_
    refine zr_ldc X zm_3_49 dX8_muleOf_13 ?_
    refine zr_goto X (tgt := 23) dX8_muleOf_15 (by decide) ?_
    exact zret_i E rfl dX8_muleOf_23 (by simp only [cMuleOf, if_pos h1]) rfl
  · by_cases h2 : (s0.2 0) ≤ m
    · refine zr_cV X (As := [.int (m)]) (rest := []) (f' := f) (st' := [.null]) zc_X2_muleAt (1) (show 1 < w.1 by rw [hw]; omega) (hc.2.1 (0) (by omega)) (q9 := _) rfl rfl (k_muleAtNF (fun o ho => (hc.2.1 o ho)) (show 1 + 21 ≤ w.1 by rw [hw]; decide) o2 hmc o5 o4 o1 (Or.inr h2)) ⟨Nat.le_of_ble_eq_true rfl, Nat.le_of_ble_eq_true rfl⟩ ⟨Nat.le_refl _, Nat.le_refl _⟩ rfl (Nat.le_of_ble_eq_true rfl) zm_3_48 rfl dX8_muleOf_5 rfl ?_
      refine zr_astore_nN X (ls' := [(3, .null), (0, .ref (w.2 (0))), (1, .int (m)), (2, .int (x))]) dX8_muleOf_8 rfl (by decide) rfl ?_
      refine zr_aload_nN X 0 dX8_muleOf_9 rfl rfl ?_
      refine zr_ifnonnullN X dX8_muleOf_10 ?_
      refine zr_ldc X zm_3_49 dX8_muleOf_13 ?_
      refine zr_goto X (tgt := 23) dX8_muleOf_15 (by decide) ?_
      exact zret_i E rfl dX8_muleOf_23 (by simp only [cMuleOf, if_neg h1, if_pos h2]) rfl
    · have q1 := zix3 o2 hmc (by decide) h1 h2
      refine zr_cV X (As := [.int (m)]) (rest := []) (f' := f) (st' := [.ref (w.2 (1 + (7 + m.toNatClampNeg)))]) zc_X2_muleAt (1) (show 1 < w.1 by rw [hw]; omega) (hc.2.1 (0) (by omega)) (q9 := _) rfl rfl (k_muleAtXF (fun o ho => (hc.2.1 o ho)) (show 1 + 21 ≤ w.1 by rw [hw]; decide) o2 hmc o5 o4 o1 h1 h2) ⟨Nat.le_of_ble_eq_true rfl, Nat.le_of_ble_eq_true rfl⟩ ⟨Nat.le_refl _, Nat.le_refl _⟩ rfl (Nat.le_of_ble_eq_true rfl) zm_3_48 rfl dX8_muleOf_5 rfl ?_
      refine zr_astore_n X (ls' := [(3, .ref (w.2 (1 + (7 + m.toNatClampNeg)))), (0, .ref (w.2 (0))), (1, .int (m)), (2, .int (x))]) dX8_muleOf_8 rfl (by decide) rfl ?_
      refine zr_aload_n X 0 dX8_muleOf_9 rfl rfl ?_
      refine zr_ifnonnull X (tgt := 18) dX8_muleOf_10 (by decide) ?_
      refine zr_aload_n X 0 dX8_muleOf_18 rfl rfl ?_
      refine zr_iload_n X 3 dX8_muleOf_19 rfl rfl ?_
      refine zr_cV X (As := [.int (x)]) (rest := []) (f' := f) (st' := [.int (mTell (fun i9 => s0.2 (19 + 9 * m.toNatClampNeg + i9)) x)]) zc_X4_tell (1 + (7 + m.toNatClampNeg)) (show 1 + (7 + m.toNatClampNeg) < w.1 by rw [hw]; omega) ((hc.2.1 (7 + m.toNatClampNeg) (by omega)).trans (zHut_mule (k := m.toNatClampNeg) (by omega))) (q9 := _) rfl rfl (k_Mule_tell (show 1 + (7 + m.toNatClampNeg) < w.1 by rw [hw]; omega) ((hc.2.1 (7 + m.toNatClampNeg) (by omega)).trans (zHut_mule (k := m.toNatClampNeg) (by omega)))) ⟨Nat.le_of_ble_eq_true rfl, Nat.le_of_ble_eq_true rfl⟩ ⟨Nat.le_refl _, Nat.le_refl _⟩ rfl (Nat.le_of_ble_eq_true rfl) zm_3_50 rfl dX8_muleOf_20 rfl ?_
      exact zret_i E rfl dX8_muleOf_23 (by simp only [cMuleOf, if_neg h1, if_neg h2]) rfl
set_option maxHeartbeats 4000000 in
set_option maxRecDepth 100000 in
theorem k_groupOf {l : Launch} {D : va_G} {cy : Nat → ClassId} {w : zW} {f : zF} {s0 s1 : zGS} {hs : Nat → zGS} {δ : Nat → Nat} {k : Nat} {g : Int32} {x : Int32} (hw : w.1 = 136) (hc : zCl w cy f s0 s1 hs δ k) (hi : zInv s0 s1 hs δ k) : zSd l D cy yX8_groupOf cX8_groupOf 4 (some .int) 2 44 [.ref (w.2 (0)), .int (g), .int (x)] w f (some (.int (cGroupOf s0 g x))) f := by
  refine zSd.intro (by decide) (Nat.le_of_ble_eq_true rfl) (fun G X E => ?_)
  obtain ⟨mc, hmc, o1, o2, bk, o4, o5⟩ := hi.1
  have hmE : (s0.2 0).toNatClampNeg = mc := by rw [o2, nI_clamp (by omega)]
  have hbE : (s0.2 1).toNatClampNeg = bk := by rw [o5, nI_clamp (by omega)]
  show G (w, 0, 0) f [(0, .ref (w.2 (0))), (1, .int (g)), (2, .int (x))] 0 []
  refine zr_aload_n X 0 dX8_groupOf_0 rfl rfl ?_
  refine zr_get X zfd_RX8_10 (0) (show 0 < w.1 by rw [hw]; omega) hc.1 (v := .ref (w.2 (1))) rfl dX8_groupOf_1 ?_
  refine zr_aload_n X 0 dX8_groupOf_4 rfl rfl ?_
  refine zr_get X zfd_RX8_10 (0) (show 0 < w.1 by rw [hw]; omega) hc.1 (v := .ref (w.2 (1))) rfl dX8_groupOf_5 ?_
  refine zr_iload_n X 1 dX8_groupOf_8 rfl rfl ?_
  refine zr_cV X (As := [.int (g)]) (rest := [.ref (w.2 (1))]) (f' := f) (st' := [.int (hPlace s0.1 s0.2 g bk 0), .ref (w.2 (1))]) zc_X2_placeOfGroup (1) (show 1 < w.1 by rw [hw]; omega) (hc.2.1 (0) (by omega)) (q9 := _) rfl rfl (k_placeOfGroupF (fun o ho => (hc.2.1 o ho)) (show 1 + 21 ≤ w.1 by rw [hw]; decide) o2 hmc o5 o4 o1) ⟨Nat.le_of_ble_eq_true rfl, Nat.le_of_ble_eq_true rfl⟩ ⟨Nat.le_refl _, Nat.le_refl _⟩ rfl (Nat.le_of_ble_eq_true rfl) zm_3_69 rfl dX8_groupOf_9 rfl ?_
  by_cases h1 : (hPlace s0.1 s0.2 g bk 0) < 0
  · refine zr_cV X (As := [.int (hPlace s0.1 s0.2 g bk 0)]) (rest := []) (f' := f) (st' := [.null]) zc_X2_groupAt (1) (show 1 < w.1 by rw [hw]; omega) (hc.2.1 (0) (by omega)) (q9 := _) rfl rfl (k_groupAtNF (fun o ho => (hc.2.1 o ho)) (show 1 + 21 ≤ w.1 by rw [hw]; decide) o2 hmc o5 o4 o1 (Or.inl h1)) ⟨Nat.le_of_ble_eq_true rfl, Nat.le_of_ble_eq_true rfl⟩ ⟨Nat.le_refl _, Nat.le_refl _⟩ rfl (Nat.le_of_ble_eq_true rfl) zm_3_62 rfl dX8_groupOf_12 rfl ?_
    refine zr_astore_nN X (ls' := [(3, .null), (0, .ref (w.2 (0))), (1, .int (g)), (2, .int (x))]) dX8_groupOf_15 rfl (by decide) rfl ?_
    refine zr_aload_nN X 0 dX8_groupOf_16 rfl rfl ?_
    refine zr_ifnonnullN X dX8_groupOf_17 ?_
    refine zr_ldc X zm_3_49 dX8_groupOf_20 ?_
    refine zr_goto X (tgt := 37) dX8_groupOf_22 (by decide) ?_
    exact zret_i E rfl dX8_groupOf_37 (by unfold cGroupOf cPlace; rw [hbE]; simp only [if_pos h1]) rfl
  · by_cases h2 : (s0.2 1) ≤ (hPlace s0.1 s0.2 g bk 0)
    · refine zr_cV X (As := [.int (hPlace s0.1 s0.2 g bk 0)]) (rest := []) (f' := f) (st' := [.null]) zc_X2_groupAt (1) (show 1 < w.1 by rw [hw]; omega) (hc.2.1 (0) (by omega)) (q9 := _) rfl rfl (k_groupAtNF (fun o ho => (hc.2.1 o ho)) (show 1 + 21 ≤ w.1 by rw [hw]; decide) o2 hmc o5 o4 o1 (Or.inr h2)) ⟨Nat.le_of_ble_eq_true rfl, Nat.le_of_ble_eq_true rfl⟩ ⟨Nat.le_refl _, Nat.le_refl _⟩ rfl (Nat.le_of_ble_eq_true rfl) zm_3_62 rfl dX8_groupOf_12 rfl ?_
      refine zr_astore_nN X (ls' := [(3, .null), (0, .ref (w.2 (0))), (1, .int (g)), (2, .int (x))]) dX8_groupOf_15 rfl (by decide) rfl ?_
      refine zr_aload_nN X 0 dX8_groupOf_16 rfl rfl ?_
      refine zr_ifnonnullN X dX8_groupOf_17 ?_
      refine zr_ldc X zm_3_49 dX8_groupOf_20 ?_
      refine zr_goto X (tgt := 37) dX8_groupOf_22 (by decide) ?_
      exact zret_i E rfl dX8_groupOf_37 (by unfold cGroupOf cPlace; rw [hbE]; simp only [if_neg h1, if_pos h2]) rfl
    · have q1 := zix3 o5 o4 (by decide) h1 h2
      have q2 := o1 (hPlace s0.1 s0.2 g bk 0).toNatClampNeg (by omega)
      refine zr_cV X (As := [.int (hPlace s0.1 s0.2 g bk 0)]) (rest := []) (f' := f) (st' := [.ref (w.2 (1 + (11 + s0.1 (hPlace s0.1 s0.2 g bk 0).toNatClampNeg)))]) zc_X2_groupAt (1) (show 1 < w.1 by rw [hw]; omega) (hc.2.1 (0) (by omega)) (q9 := _) rfl rfl (k_groupAtXF (fun o ho => (hc.2.1 o ho)) (show 1 + 21 ≤ w.1 by rw [hw]; decide) o2 hmc o5 o4 o1 h1 h2) ⟨Nat.le_of_ble_eq_true rfl, Nat.le_of_ble_eq_true rfl⟩ ⟨Nat.le_refl _, Nat.le_refl _⟩ rfl (Nat.le_of_ble_eq_true rfl) zm_3_62 rfl dX8_groupOf_12 rfl ?_
      refine zr_astore_n X (ls' := [(3, .ref (w.2 (1 + (11 + s0.1 (hPlace s0.1 s0.2 g bk 0).toNatClampNeg)))), (0, .ref (w.2 (0))), (1, .int (g)), (2, .int (x))]) dX8_groupOf_15 rfl (by decide) rfl ?_
      refine zr_aload_n X 0 dX8_groupOf_16 rfl rfl ?_
      refine zr_ifnonnull X (tgt := 25) dX8_groupOf_17 (by decide) ?_
      refine zr_aload_n X 0 dX8_groupOf_25 rfl rfl ?_
      refine zr_iload_n X 3 dX8_groupOf_26 rfl rfl ?_
      refine zr_aload_n X 1 dX8_groupOf_27 rfl rfl ?_
      refine zr_get X zfd_RX8_10 (0) (show 0 < w.1 by rw [hw]; omega) hc.1 (v := .ref (w.2 (1))) rfl dX8_groupOf_28 ?_
      refine zr_getN X zfn_RX8_90 (1) (show 1 < w.1 by rw [hw]; omega) (hc.2.1 (0) (by omega)) (v := .int (s0.2 3)) rfl dX8_groupOf_31 ?_
      refine zr_cV X (As := [.int (x), .int (s0.2 3)]) (rest := []) (f' := f) (st' := [.int (gTell (fun i9 => s0.2 (55 + 6 * (s0.1 (hPlace s0.1 s0.2 g bk 0).toNatClampNeg) + i9)) x (s0.2 3))]) zc_X0_tell (1 + (11 + s0.1 (hPlace s0.1 s0.2 g bk 0).toNatClampNeg)) (show 1 + (11 + s0.1 (hPlace s0.1 s0.2 g bk 0).toNatClampNeg) < w.1 by rw [hw]; omega) ((hc.2.1 (11 + s0.1 (hPlace s0.1 s0.2 g bk 0).toNatClampNeg) (by omega)).trans (zHut_group (k := s0.1 (hPlace s0.1 s0.2 g bk 0).toNatClampNeg))) (q9 := _) rfl rfl (k_Group_tell (show 1 + (11 + s0.1 (hPlace s0.1 s0.2 g bk 0).toNatClampNeg) < w.1 by rw [hw]; omega) ((hc.2.1 (11 + s0.1 (hPlace s0.1 s0.2 g bk 0).toNatClampNeg) (by omega)).trans (zHut_group (k := s0.1 (hPlace s0.1 s0.2 g bk 0).toNatClampNeg)))) ⟨Nat.le_of_ble_eq_true rfl, Nat.le_of_ble_eq_true rfl⟩ ⟨Nat.le_refl _, Nat.le_refl _⟩ rfl (Nat.le_of_ble_eq_true rfl) zm_3_70 rfl dX8_groupOf_34 rfl ?_
      exact zret_i E rfl dX8_groupOf_37 (by unfold cGroupOf cPlace; rw [hbE]; simp only [if_neg h1, if_neg h2]) rfl
set_option maxHeartbeats 4000000 in
set_option maxRecDepth 100000 in
theorem k_number {l : Launch} {D : va_G} {cy : Nat → ClassId} {w : zW} {f : zF} {s0 s1 : zGS} {hs : Nat → zGS} {δ : Nat → Nat} {k : Nat} {i : Int32} (hw : w.1 = 136) (hc : zCl w cy f s0 s1 hs δ k) (hi : zInv s0 s1 hs δ k) : zSd l D cy yX8_number cX8_number 3 (some .int) 1 21 [.ref (w.2 (0)), .int (i)] w f (some (.int (cNumber s0 i))) f := by
  refine zSd.intro (by decide) (Nat.le_of_ble_eq_true rfl) (fun G X E => ?_)
  obtain ⟨mc, hmc, o1, o2, bk, o4, o5⟩ := hi.1
  have hmE : (s0.2 0).toNatClampNeg = mc := by rw [o2, nI_clamp (by omega)]
  have hbE : (s0.2 1).toNatClampNeg = bk := by rw [o5, nI_clamp (by omega)]
  show G (w, 0, 0) f [(0, .ref (w.2 (0))), (1, .int (i))] 0 []
  refine zr_iload_n X 1 dX8_number_0 rfl rfl ?_
  refine zr_if_ge X (tgt := 7) dX8_number_1 (by decide) (fun h1 => ?_) (fun h2 => ?_)
  · refine zr_aload_n X 0 dX8_number_7 rfl rfl ?_
    refine zr_get X zfd_RX8_10 (0) (show 0 < w.1 by rw [hw]; omega) hc.1 (v := .ref (w.2 (1))) rfl dX8_number_8 ?_
    refine zr_iload_n X 1 dX8_number_11 rfl rfl ?_
    by_cases h3 : i < 0
    · refine zr_cV X (As := [.int (i)]) (rest := []) (f' := f) (st' := [.null]) zc_X2_groupAt (1) (show 1 < w.1 by rw [hw]; omega) (hc.2.1 (0) (by omega)) (q9 := _) rfl rfl (k_groupAtNF (fun o ho => (hc.2.1 o ho)) (show 1 + 21 ≤ w.1 by rw [hw]; decide) o2 hmc o5 o4 o1 (Or.inl h3)) ⟨Nat.le_of_ble_eq_true rfl, Nat.le_of_ble_eq_true rfl⟩ ⟨Nat.le_refl _, Nat.le_refl _⟩ rfl (Nat.le_of_ble_eq_true rfl) zm_3_62 rfl dX8_number_12 rfl ?_
      refine zr_astore_nN X (ls' := [(2, .null), (0, .ref (w.2 (0))), (1, .int (i))]) dX8_number_15 rfl (by decide) rfl ?_
      refine zr_aload_nN X 0 dX8_number_16 rfl rfl ?_
      refine zr_ifnonnullN X dX8_number_17 ?_
      refine zr_ldc X zm_3_63 dX8_number_20 ?_
      refine zr_goto X (tgt := 29) dX8_number_22 (by decide) ?_
      exact zret_i E rfl dX8_number_29 (by simp only [cNumber, if_pos h1, if_pos h3]) rfl
    · by_cases h4 : (s0.2 1) ≤ i
      · refine zr_cV X (As := [.int (i)]) (rest := []) (f' := f) (st' := [.null]) zc_X2_groupAt (1) (show 1 < w.1 by rw [hw]; omega) (hc.2.1 (0) (by omega)) (q9 := _) rfl rfl (k_groupAtNF (fun o ho => (hc.2.1 o ho)) (show 1 + 21 ≤ w.1 by rw [hw]; decide) o2 hmc o5 o4 o1 (Or.inr h4)) ⟨Nat.le_of_ble_eq_true rfl, Nat.le_of_ble_eq_true rfl⟩ ⟨Nat.le_refl _, Nat.le_refl _⟩ rfl (Nat.le_of_ble_eq_true rfl) zm_3_62 rfl dX8_number_12 rfl ?_
        refine zr_astore_nN X (ls' := [(2, .null), (0, .ref (w.2 (0))), (1, .int (i))]) dX8_number_15 rfl (by decide) rfl ?_
        refine zr_aload_nN X 0 dX8_number_16 rfl rfl ?_
        refine zr_ifnonnullN X dX8_number_17 ?_
        refine zr_ldc X zm_3_63 dX8_number_20 ?_
        refine zr_goto X (tgt := 29) dX8_number_22 (by decide) ?_
        exact zret_i E rfl dX8_number_29 (by simp only [cNumber, if_pos h1, if_neg h3, if_pos h4]) rfl
      · have q1 := zix3 o5 o4 (by decide) h3 h4
        have q2 := o1 (i).toNatClampNeg (by omega)
        refine zr_cV X (As := [.int (i)]) (rest := []) (f' := f) (st' := [.ref (w.2 (1 + (11 + s0.1 i.toNatClampNeg)))]) zc_X2_groupAt (1) (show 1 < w.1 by rw [hw]; omega) (hc.2.1 (0) (by omega)) (q9 := _) rfl rfl (k_groupAtXF (fun o ho => (hc.2.1 o ho)) (show 1 + 21 ≤ w.1 by rw [hw]; decide) o2 hmc o5 o4 o1 h3 h4) ⟨Nat.le_of_ble_eq_true rfl, Nat.le_of_ble_eq_true rfl⟩ ⟨Nat.le_refl _, Nat.le_refl _⟩ rfl (Nat.le_of_ble_eq_true rfl) zm_3_62 rfl dX8_number_12 rfl ?_
        refine zr_astore_n X (ls' := [(2, .ref (w.2 (1 + (11 + s0.1 i.toNatClampNeg)))), (0, .ref (w.2 (0))), (1, .int (i))]) dX8_number_15 rfl (by decide) rfl ?_
        refine zr_aload_n X 0 dX8_number_16 rfl rfl ?_
        refine zr_ifnonnull X (tgt := 25) dX8_number_17 (by decide) ?_
        refine zr_aload_n X 0 dX8_number_25 rfl rfl ?_
        refine zr_getN X zfn_RX8_99 (1 + (11 + s0.1 i.toNatClampNeg)) (show 1 + (11 + s0.1 i.toNatClampNeg) < w.1 by rw [hw]; omega) ((hc.2.1 (11 + s0.1 i.toNatClampNeg) (by omega)).trans (zHut_group (k := s0.1 i.toNatClampNeg))) (v := .int (s0.2 (55 + 6 * (s0.1 i.toNatClampNeg) + 0))) rfl dX8_number_26 ?_
        exact zret_i E rfl dX8_number_29 (by simp only [cNumber, if_pos h1, if_neg h3, if_neg h4]) rfl
  · refine zr_ldc X zm_3_49 dX8_number_4 ?_
    exact zret_i E rfl dX8_number_6 (by simp only [cNumber, if_neg h2]) rfl
set_option maxHeartbeats 4000000 in
set_option maxRecDepth 100000 in
theorem k_loaves {l : Launch} {D : va_G} {cy : Nat → ClassId} {w : zW} {f : zF} {s0 s1 : zGS} {hs : Nat → zGS} {δ : Nat → Nat} {k : Nat} {a : Int32} (hw : w.1 = 136) (hc : zCl w cy f s0 s1 hs δ k) (hi : zInv s0 s1 hs δ k) : zSd l D cy yX8_loaves cX8_loaves 2 (some .int) 1 24 [.ref (w.2 (0)), .int (a)] w f (some (.int (cLoaves s0 a))) f := by
  refine zSd.intro (by decide) (Nat.le_of_ble_eq_true rfl) (fun G X E => ?_)
  obtain ⟨mc, hmc, o1, o2, bk, o4, o5⟩ := hi.1
  have hmE : (s0.2 0).toNatClampNeg = mc := by rw [o2, nI_clamp (by omega)]
  have hbE : (s0.2 1).toNatClampNeg = bk := by rw [o5, nI_clamp (by omega)]
  show G (w, 0, 0) f [(0, .ref (w.2 (0))), (1, .int (a))] 0 []
  refine zr_iload_n X 1 dX8_loaves_0 rfl rfl ?_
  refine zr_iconst X (v := 0) dX8_loaves_1 (by decide) ?_
  refine zr_bipush X (v := 20) dX8_loaves_2 (by decide) ?_
  refine zr_cS X (As := [.int (a), .int (0), .int (20)]) (rest := []) (f' := f) (st' := [.int (zwin a 0 20)]) zc_X8_isWithin k_isWithin ⟨Nat.le_of_ble_eq_true rfl, Nat.le_of_ble_eq_true rfl⟩ ⟨Nat.le_refl _, Nat.le_refl _⟩ rfl (Nat.le_of_ble_eq_true rfl) zm_3_81 rfl dX8_loaves_4 rfl ?_
  refine zr_if_eq X (tgt := 25) dX8_loaves_7 (by decide) (fun h1 => ?_) (fun h2 => ?_)
  · refine zr_ldc X zm_3_49 dX8_loaves_25 ?_
    exact zret_i E rfl dX8_loaves_27 (by simp only [cLoaves, if_pos h1]) rfl
  · refine zr_aload_n X 0 dX8_loaves_10 rfl rfl ?_
    refine zr_get X zfd_RX8_10 (0) (show 0 < w.1 by rw [hw]; omega) hc.1 (v := .ref (w.2 (1))) rfl dX8_loaves_11 ?_
    refine zr_getN X zfn_RX8_106 (1) (show 1 < w.1 by rw [hw]; omega) (hc.2.1 (0) (by omega)) (v := .ref (w.2 (1 + 3))) rfl dX8_loaves_14 ?_
    refine zr_iload_n X 1 dX8_loaves_17 rfl rfl ?_
    refine zr_iload_n X 1 dX8_loaves_18 rfl rfl ?_
    refine zr_cV X (As := [.int (a), .int (a)]) (rest := []) (f' := f) (st' := [.int (shMany (fun k9 => s0.2 (115 + k9)) a a 21)]) zc_X7_howMany (1 + 3) (show 1 + 3 < w.1 by rw [hw]; omega) (hc.2.1 (3) (by omega)) (q9 := _) rfl rfl (k_Shelf_howMany (show 1 + 3 < w.1 by rw [hw]; omega) (show 1 + 4 < w.1 by rw [hw]; omega) (hc.2.1 (3) (by omega)) (hc.2.1 (4) (by omega)) (by omega)) ⟨Nat.le_of_ble_eq_true rfl, Nat.le_of_ble_eq_true rfl⟩ ⟨Nat.le_refl _, Nat.le_refl _⟩ rfl (Nat.le_of_ble_eq_true rfl) zm_3_82 rfl dX8_loaves_19 rfl ?_
    refine zr_goto X (tgt := 27) dX8_loaves_22 (by decide) ?_
    exact zret_i E rfl dX8_loaves_27 (by simp only [cLoaves, if_neg h2]) rfl
set_option maxHeartbeats 4000000 in
set_option maxRecDepth 100000 in
theorem k_count {l : Launch} {D : va_G} {cy : Nat → ClassId} {w : zW} {f : zF} {s0 s1 : zGS} {hs : Nat → zGS} {δ : Nat → Nat} {k : Nat} {l0 p a r c : Int32} {x : Int32} (hw : w.1 = 136) (hc : zCl w cy f s0 s1 hs δ k) (hi : zInv s0 s1 hs δ k) (h9 : f 129 = eOrd w (ov l0 p a r c)) : zSd l D cy yX8_count cX8_count 2 (some .int) 3 65 [.ref (w.2 (0)), .int (x)] w f (some (.int (cCount s0 k l0 x))) f := by
  refine zSd.intro (by decide) (Nat.le_of_ble_eq_true rfl) (fun G X E => ?_)
  obtain ⟨mc, hmc, o1, o2, bk, o4, o5⟩ := hi.1
  have hmE : (s0.2 0).toNatClampNeg = mc := by rw [o2, nI_clamp (by omega)]
  have hbE : (s0.2 1).toNatClampNeg = bk := by rw [o5, nI_clamp (by omega)]
  show G (w, 0, 0) f [(0, .ref (w.2 (0))), (1, .int (x))] 0 []
  refine zr_iload_n X 1 dX8_count_0 rfl rfl ?_
  by_cases h1 : x = 18
  · refine zr_lookup X (off := 27) (tgt := 28) dX8_count_1 (by decide) (by rw [h1]; decide) (by decide) ?_
    refine zr_aload_n X 0 dX8_count_28 rfl rfl ?_
    refine zr_get X zfd_RX8_22 (0) (show 0 < w.1 by rw [hw]; omega) hc.1 (v := .ref (w.2 (43))) rfl dX8_count_29 ?_
    refine zr_getN X zfn_RX8_164 (43) (show 43 < w.1 by rw [hw]; omega) hc.2.2.2.1 (v := .int (nI (k))) rfl dX8_count_32 ?_
    exact zret_i E rfl dX8_count_35 (by simp only [cCount, hmE, if_pos h1]) rfl
  by_cases h2 : x = 19
  · refine zr_lookup X (off := 35) (tgt := 36) dX8_count_1 (by decide) (by rw [h2]; decide) (by decide) ?_
    refine zr_aload_n X 0 dX8_count_36 rfl rfl ?_
    refine zr_get X zfd_RX8_29 (0) (show 0 < w.1 by rw [hw]; omega) hc.1 (v := .ref (w.2 (129))) rfl dX8_count_37 ?_
    refine zr_getN X zfn_RX8_167 (129) (show 129 < w.1 by rw [hw]; omega) h9 (v := .int (l0)) rfl dX8_count_40 ?_
    exact zret_i E rfl dX8_count_43 (by simp only [cCount, hmE, if_neg h1, if_pos h2]) rfl
  refine zr_lookup X (off := 43) (tgt := 44) dX8_count_1 (by decide) (by rw [lv_osw h1 (show (18 : Int32).toInt = 18 from by decide), lv_osw h2 (show (19 : Int32).toInt = 19 from by decide)]; rfl) (by decide) ?_
  refine zr_aload_n X 0 dX8_count_44 rfl rfl ?_
  refine zr_get X zfd_RX8_10 (0) (show 0 < w.1 by rw [hw]; omega) hc.1 (v := .ref (w.2 (1))) rfl dX8_count_45 ?_
  refine zr_iload_n X 1 dX8_count_48 rfl rfl ?_
  refine zr_cV X (As := [.int (x)]) (rest := []) (f' := f) (st' := [.int (hTell mc s0.2 x)]) zc_X2_tell (1) (show 1 < w.1 by rw [hw]; omega) (hc.2.1 (0) (by omega)) (q9 := _) rfl rfl (k_Hut_tellF (fun o ho => (hc.2.1 o ho)) (show 1 + 21 ≤ w.1 by rw [hw]; decide) o2 hmc o5 o4 o1) ⟨Nat.le_of_ble_eq_true rfl, Nat.le_of_ble_eq_true rfl⟩ ⟨Nat.le_refl _, Nat.le_refl _⟩ rfl (Nat.le_of_ble_eq_true rfl) zm_2_30 rfl dX8_count_49 rfl ?_
  exact zret_i E rfl dX8_count_52 (by simp only [cCount, hmE, if_neg h1, if_neg h2]) rfl
