/-! as k_hungry, k_would and k_fault, and which hut the trial is then -/
def zTt (s1 c t : zGS) : Prop := zOkE t ∧ (t = s1 ∨ ∃ n, t = hDays c n)
def zTr9 (w : zW) (cy : Nat → ClassId) (f : zF) (s0 s1 : zGS) (hs : Nat → zGS) (δ : Nat → Nat) (k : Nat) (q : Int32) : Option Value → zF → Prop := fun r g => r = some (.int q) ∧ (∃ t, zTt s1 (cp s1 s0) t ∧ zCl w cy g s0 t hs δ k) ∧ ∀ t, 129 ≤ t → g t = f t
def zFau9 (w : zW) (cy : Nat → ClassId) (f : zF) (s0 s1 t9 : zGS) (hs : Nat → zGS) (δ : Nat → Nat) (k : Nat) (l0 : Int32) (tx : Nat → Int32) (q : Int32) : Option Value → zF → Prop := fun r g => r = some (.int q) ∧ (∃ t, (zOkE t ∧ (t = s1 ∨ t = t9)) ∧ zCl w cy g s0 t hs δ k) ∧ zOs w cy g l0 tx ∧ ∀ t, 132 ≤ t → g t = f t
set_option maxHeartbeats 4000000 in
set_option maxRecDepth 100000 in
theorem k_hungry9 {l : Launch} {D : va_G} {cy : Nat → ClassId} {w : zW} {f : zF} {s0 s1 : zGS} {hs : Nat → zGS} {δ : Nat → Nat} {k : Nat} (hw : w.1 = 139) (hc : zCl w cy f s0 s1 hs δ k) (hi : zInv s0 s1 hs δ k) : zSp l D cy yX8_hungry cX8_hungry 2 (some .int) 3 77 [.ref (w.2 (0))] w f (zTr9 w cy f s0 s1 hs δ k (cHung (cp s1 s0) (s0.2 12) 60 0)) := by
  refine zSp.intro (by decide) (Nat.le_of_ble_eq_true rfl) (fun G X E => ?_)
  have okt : zOkE (cp s1 s0) := cp_ok hi.2.1.g hi.1
  show G (w, 0, 0) f [(0, .ref (w.2 (0)))] 0 []
  refine zr_aload_n X 0 dX8_hungry_0 rfl rfl ?_
  refine zr_get X zfd_RX8_16 (0) (show 0 < w.1 by rw [hw]; omega) hc.1 (v := .ref (w.2 (22))) rfl dX8_hungry_1 ?_
  refine zr_aload_n X 0 dX8_hungry_4 rfl rfl ?_
  refine zr_get X zfd_RX8_10 (0) (show 0 < w.1 by rw [hw]; omega) hc.1 (v := .ref (w.2 (1))) rfl dX8_hungry_5 ?_
  refine zr_cV X (As := [.ref (w.2 (1))]) (rest := []) (f' := zPut f (22) (zHut w cy (22) ((cp s1 s0).1) ((cp s1 s0).2))) (st' := []) zc_X2_copyFrom (22) (show 22 < w.1 by rw [hw]; omega) (hc.2.2.1 (0) (by omega)) (q9 := _) rfl rfl (k_copy (show 22 + 21 ≤ w.1 by rw [hw]; omega) (show 1 + 21 ≤ w.1 by rw [hw]; omega) (by omega) (fun o ho => (hc.2.2.1 o ho)) (fun o ho => (hc.2.1 o ho)) (hi.2.1).g hi.1) ⟨Nat.le_of_ble_eq_true rfl, Nat.le_of_ble_eq_true rfl⟩ ⟨Nat.le_refl _, Nat.le_refl _⟩ rfl (Nat.le_of_ble_eq_true rfl) zm_2_45 rfl dX8_hungry_8 rfl ?_
  refine zr_iconst X (v := 1) dX8_hungry_11 (by decide) ?_
  refine zr_istore_n X (ls' := [(1, .int (1)), (0, .ref (w.2 (0)))]) dX8_hungry_12 rfl (by decide) rfl ?_
  refine zr_loc X (ls' := [(0, .ref (w.2 (0))), (1, .int (1))]) [1, 0] rfl ?_
  refine zcast (f2 := zPut f (22) (zHut w cy (22) ((hDays (cp s1 s0) (0)).1) ((hDays (cp s1 s0) (0)).2))) (ls2 := [(0, .ref (w.2 (0))), (1, .int (nI (0 + 1)))]) rfl rfl ?_
  refine zdown (P := fun n => cHung (cp s1 s0) (s0.2 12) (60 - (n)) (n) = cHung (cp s1 s0) (s0.2 12) 60 0 → G (w, 0, 0) (zPut f (22) (zHut w cy (22) ((hDays (cp s1 s0) (n)).1) ((hDays (cp s1 s0) (n)).2))) [(0, .ref (w.2 (0))), (1, .int (nI (n + 1)))] 13 []) (B := 60) ?_ (fun n hn13 ih13 => ?_) 0 (Nat.zero_le _) rfl
  · show cHung (cp s1 s0) (s0.2 12) (60 - (60)) (60) = cHung (cp s1 s0) (s0.2 12) 60 0 → G (w, 0, 0) (zPut f (22) (zHut w cy (22) ((hDays (cp s1 s0) (60)).1) ((hDays (cp s1 s0) (60)).2))) [(0, .ref (w.2 (0))), (1, .int (nI (60 + 1)))] 13 []
    intro q
    rw [Nat.sub_self] at q
    refine zr_iload_n X 1 dX8_hungry_13 rfl rfl ?_
    refine zr_bipush X (v := 60) dX8_hungry_14 (by decide) ?_
    refine zr_icmp_gt X (tgt := 57) dX8_hungry_16 (by decide) (fun _ => ?_) (fun h => False.elim (h (by decide)))
    refine zr_ldc X zm_3_29 dX8_hungry_57 ?_
    refine zretp_i E rfl dX8_hungry_59 ⟨?_, ⟨(hDays (cp s1 s0) (60)), ⟨hDays_okE okt _, .inr ⟨_, rfl⟩⟩, ⟨((zPut_out (by omega)).trans hc.1), fun o ho => ((zPut_out (by omega)).trans (hc.2.1 o ho)), fun o ho => (zPut_in ho), ((zPut_out (by omega)).trans hc.2.2.2.1), ((zPut_out (by omega)).trans hc.2.2.2.2.1), (fun i hi9 o ho => ((zPut_out (by omega)).trans (hc.2.2.2.2.2 i hi9 o ho)))⟩⟩, fun t ht => zPut_out (by omega)⟩
    exact congrArg (fun z => some (Value.int z)) (by rw [← q]; simp only [cHung])
  · show cHung (cp s1 s0) (s0.2 12) (60 - (n)) (n) = cHung (cp s1 s0) (s0.2 12) 60 0 → G (w, 0, 0) (zPut f (22) (zHut w cy (22) ((hDays (cp s1 s0) (n)).1) ((hDays (cp s1 s0) (n)).2))) [(0, .ref (w.2 (0))), (1, .int (nI (n + 1)))] 13 []
    intro q
    rw [show 60 - n = (60 - (n + 1)) + 1 by omega] at q
    refine zr_iload_n X 1 dX8_hungry_13 rfl rfl ?_
    refine zr_bipush X (v := 60) dX8_hungry_14 (by decide) ?_
    refine zr_icmp_gt X (tgt := 57) dX8_hungry_16 (by decide) (fun h => False.elim ((nI_nlt (show n + 1 ≤ 60 by omega) (by decide)) h)) (fun _ => ?_)
    refine zr_aload_n X 0 dX8_hungry_19 rfl rfl ?_
    refine zr_get X zfd_RX8_16 (0) (show 0 < w.1 by rw [hw]; omega) ((zPut_out (by omega)).trans hc.1) (v := .ref (w.2 (22))) rfl dX8_hungry_20 ?_
    refine zr_cV X (As := []) (rest := []) (f' := zPut (zPut f (22) (zHut w cy (22) ((hDays (cp s1 s0) (n)).1) ((hDays (cp s1 s0) (n)).2))) (22) (zHut w cy (22) ((hDays (cp s1 s0) (n + 1)).1) ((hDays (cp s1 s0) (n + 1)).2))) (st' := []) zc_X2_endDay (22) (show 22 < w.1 by rw [hw]; omega) (zPut_in (o := 0) (by omega)) (q9 := _) rfl rfl (k_qDay (s := (hDays (cp s1 s0) (n))) (show 22 + 21 ≤ w.1 by rw [hw]; decide) (fun o ho => (zPut_in ho)) (hDays_okE okt n)) ⟨Nat.le_of_ble_eq_true rfl, Nat.le_of_ble_eq_true rfl⟩ ⟨Nat.le_refl _, Nat.le_refl _⟩ rfl (Nat.le_of_ble_eq_true rfl) zm_3_53 rfl dX8_hungry_23 rfl ?_
    rw [zPut_put]
    refine zr_aload_n X 0 dX8_hungry_26 rfl rfl ?_
    refine zr_get X zfd_RX8_16 (0) (show 0 < w.1 by rw [hw]; omega) ((zPut_out (by omega)).trans hc.1) (v := .ref (w.2 (22))) rfl dX8_hungry_27 ?_
    refine zr_getN X zfn_RX8_124 (22) (show 22 < w.1 by rw [hw]; omega) (zPut_in (o := 0) (by omega)) (v := .ref (w.2 (22 + 5))) rfl dX8_hungry_30 ?_
    refine zr_getN X zfn_RX8_128 (22 + 5) (show 22 + 5 < w.1 by rw [hw]; omega) (zPut_in (o := 5) (by omega)) (v := .int (((hDays (cp s1 s0) (n + 1)).2) 12)) rfl dX8_hungry_33 ?_
    refine zr_aload_n X 0 dX8_hungry_36 rfl rfl ?_
    refine zr_get X zfd_RX8_10 (0) (show 0 < w.1 by rw [hw]; omega) ((zPut_out (by omega)).trans hc.1) (v := .ref (w.2 (1))) rfl dX8_hungry_37 ?_
    refine zr_getN X zfn_RX8_124 (1) (show 1 < w.1 by rw [hw]; omega) ((zPut_out (by omega)).trans (hc.2.1 (0) (by omega))) (v := .ref (w.2 (1 + 5))) rfl dX8_hungry_40 ?_
    refine zr_getN X zfn_RX8_128 (1 + 5) (show 1 + 5 < w.1 by rw [hw]; omega) ((zPut_out (by omega)).trans (hc.2.1 (5) (by omega))) (v := .int (s0.2 12)) rfl dX8_hungry_43 ?_
    refine zr_icmp_le X (tgt := 51) dX8_hungry_46 (by decide) (fun h1 => ?_) (fun h2 => ?_)
    · refine zr_iinc X (v := nI (n + 1 + 1)) (ls' := [(1, .int (nI (n + 1 + 1))), (0, .ref (w.2 (0)))]) 1 dX8_hungry_51 rfl (zinc1 _) (by decide) rfl ?_
      refine zr_goto X (tgt := 13) dX8_hungry_54 (by decide) ?_
      refine zr_loc X (ls' := [(0, .ref (w.2 (0))), (1, .int (nI (n + 1 + 1)))]) [1, 0] rfl ?_
      exact zcast (f2 := zPut f (22) (zHut w cy (22) ((hDays (cp s1 s0) (n + 1)).1) ((hDays (cp s1 s0) (n + 1)).2))) (ls2 := [(0, .ref (w.2 (0))), (1, .int (nI (n + 1 + 1)))]) rfl rfl (ih13 (by rw [← q]; simp only [if_pos h1, cHung]))
    · refine zr_iload_n X 1 dX8_hungry_49 rfl rfl ?_
      refine zretp_i E rfl dX8_hungry_50 ⟨?_, ⟨(hDays (cp s1 s0) (n + 1)), ⟨hDays_okE okt _, .inr ⟨_, rfl⟩⟩, ⟨((zPut_out (by omega)).trans hc.1), fun o ho => ((zPut_out (by omega)).trans (hc.2.1 o ho)), fun o ho => (zPut_in ho), ((zPut_out (by omega)).trans hc.2.2.2.1), ((zPut_out (by omega)).trans hc.2.2.2.2.1), (fun i hi9 o ho => ((zPut_out (by omega)).trans (hc.2.2.2.2.2 i hi9 o ho)))⟩⟩, fun t ht => zPut_out (by omega)⟩
      exact congrArg (fun z => some (Value.int z)) (by rw [← q]; simp only [if_neg h2, cHung])
set_option maxHeartbeats 4000000 in
set_option maxRecDepth 100000 in
theorem k_would9 {l : Launch} {D : va_G} {cy : Nat → ClassId} {w : zW} {f : zF} {s0 s1 : zGS} {hs : Nat → zGS} {δ : Nat → Nat} {k : Nat} {d x : Int32} (hw : w.1 = 139) (hc : zCl w cy f s0 s1 hs δ k) (hi : zInv s0 s1 hs δ k) : zSp l D cy yX8_would cX8_would 4 (some .int) 3 77 [.ref (w.2 (0)), .int (d), .int (x)] w f (zTr9 w cy f s0 s1 hs δ k (cWould s0 (cp s1 s0) d x)) := by
  refine zSp.intro (by decide) (Nat.le_of_ble_eq_true rfl) (fun G X E => ?_)
  have okt : zOkE (cp s1 s0) := cp_ok hi.2.1.g hi.1
  show G (w, 0, 0) f [(0, .ref (w.2 (0))), (1, .int (d)), (2, .int (x))] 0 []
  refine zr_iload_n X 1 dX8_would_0 rfl rfl ?_
  refine zr_iconst X (v := 1) dX8_would_1 (by decide) ?_
  refine zr_bipush X (v := 60) dX8_would_2 (by decide) ?_
  refine zr_cS X (As := [.int (d), .int (1), .int (60)]) (rest := []) (f' := f) (st' := [.int (zwin d 1 60)]) zc_X8_isWithin k_isWithin ⟨Nat.le_of_ble_eq_true rfl, Nat.le_of_ble_eq_true rfl⟩ ⟨Nat.le_refl _, Nat.le_refl _⟩ rfl (Nat.le_of_ble_eq_true rfl) zm_3_34 rfl dX8_would_4 rfl ?_
  refine zr_if_eq X (tgt := 19) dX8_would_7 (by decide) (fun h1 => ?_) (fun h2 => ?_)
  · refine zr_ldc X zm_3_6 dX8_would_19 ?_
    refine zretp_i E rfl dX8_would_21 ⟨congrArg (fun z => some (Value.int z)) (by simp only [if_pos h1, cWould]), ⟨s1, ⟨hi.2.1, .inl rfl⟩, hc⟩, fun _ _ => rfl⟩
  · refine zr_iload_n X 2 dX8_would_10 rfl rfl ?_
    refine zr_iconst X (v := 0) dX8_would_11 (by decide) ?_
    refine zr_iconst X (v := 3) dX8_would_12 (by decide) ?_
    refine zr_cS X (As := [.int (x), .int (0), .int (3)]) (rest := []) (f' := f) (st' := [.int (zwin x 0 3)]) zc_X8_isWithin k_isWithin ⟨Nat.le_of_ble_eq_true rfl, Nat.le_of_ble_eq_true rfl⟩ ⟨Nat.le_refl _, Nat.le_refl _⟩ rfl (Nat.le_of_ble_eq_true rfl) zm_3_34 rfl dX8_would_13 rfl ?_
    refine zr_if_ne X (tgt := 22) dX8_would_16 (by decide) (fun h3 => ?_) (fun h4 => ?_)
    · have hd1 := zwin_nn h2 (by decide)
      have hd2 := zwin_hi h2 (by decide) (show (60 : Int32) = nI 60 from rfl) (by decide)
      have hdn := zix1 hd1
      refine zr_aload_n X 0 dX8_would_22 rfl rfl ?_
      refine zr_get X zfd_RX8_16 (0) (show 0 < w.1 by rw [hw]; omega) hc.1 (v := .ref (w.2 (22))) rfl dX8_would_23 ?_
      refine zr_aload_n X 0 dX8_would_26 rfl rfl ?_
      refine zr_get X zfd_RX8_10 (0) (show 0 < w.1 by rw [hw]; omega) hc.1 (v := .ref (w.2 (1))) rfl dX8_would_27 ?_
      refine zr_cV X (As := [.ref (w.2 (1))]) (rest := []) (f' := zPut f (22) (zHut w cy (22) ((cp s1 s0).1) ((cp s1 s0).2))) (st' := []) zc_X2_copyFrom (22) (show 22 < w.1 by rw [hw]; omega) (hc.2.2.1 (0) (by omega)) (q9 := _) rfl rfl (k_copy (show 22 + 21 ≤ w.1 by rw [hw]; omega) (show 1 + 21 ≤ w.1 by rw [hw]; omega) (by omega) (fun o ho => (hc.2.2.1 o ho)) (fun o ho => (hc.2.1 o ho)) (hi.2.1).g hi.1) ⟨Nat.le_of_ble_eq_true rfl, Nat.le_of_ble_eq_true rfl⟩ ⟨Nat.le_refl _, Nat.le_refl _⟩ rfl (Nat.le_of_ble_eq_true rfl) zm_2_45 rfl dX8_would_30 rfl ?_
      refine zr_iconst X (v := 0) dX8_would_33 (by decide) ?_
      refine zr_istore_n X (ls' := [(3, .int (0)), (0, .ref (w.2 (0))), (1, .int (d)), (2, .int (x))]) dX8_would_34 rfl (by decide) rfl ?_
      refine zr_loc X (ls' := [(0, .ref (w.2 (0))), (1, .int (d)), (2, .int (x)), (3, .int (0))]) [1, 2, 3, 0] rfl ?_
      refine zcast (f2 := zPut f (22) (zHut w cy (22) ((hDays (cp s1 s0) (0)).1) ((hDays (cp s1 s0) (0)).2))) (ls2 := [(0, .ref (w.2 (0))), (1, .int (d)), (2, .int (x)), (3, .int (nI (0)))]) rfl rfl ?_
      refine zdown (P := fun n => G (w, 0, 0) (zPut f (22) (zHut w cy (22) ((hDays (cp s1 s0) (n)).1) ((hDays (cp s1 s0) (n)).2))) [(0, .ref (w.2 (0))), (1, .int (d)), (2, .int (x)), (3, .int (nI (n)))] 35 []) (B := d.toNatClampNeg) ?_ (fun n hn35 ih35 => ?_) 0 (Nat.zero_le _) 
      · show G (w, 0, 0) (zPut f (22) (zHut w cy (22) ((hDays (cp s1 s0) (d.toNatClampNeg)).1) ((hDays (cp s1 s0) (d.toNatClampNeg)).2))) [(0, .ref (w.2 (0))), (1, .int (d)), (2, .int (x)), (3, .int (nI (d.toNatClampNeg)))] 35 []
        refine zr_iload_n X 3 dX8_would_35 rfl rfl ?_
        refine zr_iload_n X 1 dX8_would_36 rfl rfl ?_
        refine zr_icmp_ge X (tgt := 53) dX8_would_37 (by decide) (fun _ => ?_) (fun h => False.elim (h (zle_eq hdn)))
        refine zr_iload_n X 2 dX8_would_53 rfl rfl ?_
        by_cases h5 : x = 0
        · refine zr_tableIn X (off := 26) (tgt := 80) dX8_would_54 (by rw [h5]; decide) (by rw [h5]; decide) (by rw [h5]; decide) (by decide) ?_
          refine zr_aload_n X 0 dX8_would_80 rfl rfl ?_
          refine zr_get X zfd_RX8_16 (0) (show 0 < w.1 by rw [hw]; omega) ((zPut_out (by omega)).trans hc.1) (v := .ref (w.2 (22))) rfl dX8_would_81 ?_
          refine zr_getN X zfn_RX8_124 (22) (show 22 < w.1 by rw [hw]; omega) (zPut_in (o := 0) (by omega)) (v := .ref (w.2 (22 + 5))) rfl dX8_would_84 ?_
          refine zr_getN X zfn_RX8_148 (22 + 5) (show 22 + 5 < w.1 by rw [hw]; omega) (zPut_in (o := 5) (by omega)) (v := .int (((hDays (cp s1 s0) (d.toNatClampNeg)).2) 8)) rfl dX8_would_87 ?_
          refine zr_aload_n X 0 dX8_would_90 rfl rfl ?_
          refine zr_get X zfd_RX8_10 (0) (show 0 < w.1 by rw [hw]; omega) ((zPut_out (by omega)).trans hc.1) (v := .ref (w.2 (1))) rfl dX8_would_91 ?_
          refine zr_getN X zfn_RX8_124 (1) (show 1 < w.1 by rw [hw]; omega) ((zPut_out (by omega)).trans (hc.2.1 (0) (by omega))) (v := .ref (w.2 (1 + 5))) rfl dX8_would_94 ?_
          refine zr_getN X zfn_RX8_148 (1 + 5) (show 1 + 5 < w.1 by rw [hw]; omega) ((zPut_out (by omega)).trans (hc.2.1 (5) (by omega))) (v := .int (s0.2 8)) rfl dX8_would_97 ?_
          refine zr_isub X dX8_would_100 ?_
          refine zretp_i E rfl dX8_would_101 ⟨?_, ⟨(hDays (cp s1 s0) (d.toNatClampNeg)), ⟨hDays_okE okt _, .inr ⟨_, rfl⟩⟩, ⟨((zPut_out (by omega)).trans hc.1), fun o ho => ((zPut_out (by omega)).trans (hc.2.1 o ho)), fun o ho => (zPut_in ho), ((zPut_out (by omega)).trans hc.2.2.2.1), ((zPut_out (by omega)).trans hc.2.2.2.2.1), (fun i hi9 o ho => ((zPut_out (by omega)).trans (hc.2.2.2.2.2 i hi9 o ho)))⟩⟩, fun t ht => zPut_out (by omega)⟩
          exact congrArg (fun z => some (Value.int z)) (by simp only [if_neg h2, if_neg h3, if_pos h5, cWould])
        by_cases h6 : x = 1
        · refine zr_tableIn X (off := 48) (tgt := 102) dX8_would_54 (by rw [h6]; decide) (by rw [h6]; decide) (by rw [h6]; decide) (by decide) ?_
          refine zr_aload_n X 0 dX8_would_102 rfl rfl ?_
          refine zr_get X zfd_RX8_16 (0) (show 0 < w.1 by rw [hw]; omega) ((zPut_out (by omega)).trans hc.1) (v := .ref (w.2 (22))) rfl dX8_would_103 ?_
          refine zr_getN X zfn_RX8_124 (22) (show 22 < w.1 by rw [hw]; omega) (zPut_in (o := 0) (by omega)) (v := .ref (w.2 (22 + 5))) rfl dX8_would_106 ?_
          refine zr_getN X zfn_RX8_151 (22 + 5) (show 22 + 5 < w.1 by rw [hw]; omega) (zPut_in (o := 5) (by omega)) (v := .int (((hDays (cp s1 s0) (d.toNatClampNeg)).2) 5)) rfl dX8_would_109 ?_
          refine zretp_i E rfl dX8_would_112 ⟨?_, ⟨(hDays (cp s1 s0) (d.toNatClampNeg)), ⟨hDays_okE okt _, .inr ⟨_, rfl⟩⟩, ⟨((zPut_out (by omega)).trans hc.1), fun o ho => ((zPut_out (by omega)).trans (hc.2.1 o ho)), fun o ho => (zPut_in ho), ((zPut_out (by omega)).trans hc.2.2.2.1), ((zPut_out (by omega)).trans hc.2.2.2.2.1), (fun i hi9 o ho => ((zPut_out (by omega)).trans (hc.2.2.2.2.2 i hi9 o ho)))⟩⟩, fun t ht => zPut_out (by omega)⟩
          exact congrArg (fun z => some (Value.int z)) (by simp only [if_neg h2, if_neg h3, if_neg h5, if_pos h6, cWould])
        by_cases h7 : x = 2
        · refine zr_tableIn X (off := 59) (tgt := 113) dX8_would_54 (by rw [h7]; decide) (by rw [h7]; decide) (by rw [h7]; decide) (by decide) ?_
          refine zr_aload_n X 0 dX8_would_113 rfl rfl ?_
          refine zr_get X zfd_RX8_16 (0) (show 0 < w.1 by rw [hw]; omega) ((zPut_out (by omega)).trans hc.1) (v := .ref (w.2 (22))) rfl dX8_would_114 ?_
          refine zr_getN X zfn_RX8_106 (22) (show 22 < w.1 by rw [hw]; omega) (zPut_in (o := 0) (by omega)) (v := .ref (w.2 (22 + 3))) rfl dX8_would_117 ?_
          refine zr_iconst X (v := 0) dX8_would_120 (by decide) ?_
          refine zr_bipush X (v := 20) dX8_would_121 (by decide) ?_
          refine zr_cV X (As := [.int (0), .int (20)]) (rest := []) (f' := zPut f (22) (zHut w cy (22) ((hDays (cp s1 s0) (d.toNatClampNeg)).1) ((hDays (cp s1 s0) (d.toNatClampNeg)).2))) (st' := [.int (shMany (fun k9 => ((hDays (cp s1 s0) (d.toNatClampNeg)).2) (115 + k9)) 0 20 21)]) zc_X7_howMany (22 + 3) (show 22 + 3 < w.1 by rw [hw]; omega) (zPut_in (o := 3) (by omega)) (q9 := _) rfl rfl (k_Shelf_howMany (show 22 + 3 < w.1 by rw [hw]; omega) (show 22 + 4 < w.1 by rw [hw]; omega) (zPut_in (o := 3) (by omega)) (zPut_in (o := 4) (by omega)) (by omega)) ⟨Nat.le_of_ble_eq_true rfl, Nat.le_of_ble_eq_true rfl⟩ ⟨Nat.le_refl _, Nat.le_refl _⟩ rfl (Nat.le_of_ble_eq_true rfl) zm_3_35 rfl dX8_would_123 rfl ?_
          refine zretp_i E rfl dX8_would_126 ⟨?_, ⟨(hDays (cp s1 s0) (d.toNatClampNeg)), ⟨hDays_okE okt _, .inr ⟨_, rfl⟩⟩, ⟨((zPut_out (by omega)).trans hc.1), fun o ho => ((zPut_out (by omega)).trans (hc.2.1 o ho)), fun o ho => (zPut_in ho), ((zPut_out (by omega)).trans hc.2.2.2.1), ((zPut_out (by omega)).trans hc.2.2.2.2.1), (fun i hi9 o ho => ((zPut_out (by omega)).trans (hc.2.2.2.2.2 i hi9 o ho)))⟩⟩, fun t ht => zPut_out (by omega)⟩
          exact congrArg (fun z => some (Value.int z)) (by simp only [if_neg h2, if_neg h3, if_neg h5, if_neg h6, if_pos h7, cWould])
        refine zr_tableOut X (tgt := 127) dX8_would_54 (by have e0 := lv_neT h5 (show (0 : Int32).toInt = 0 from by decide); have e1 := lv_neT h6 (show (1 : Int32).toInt = 1 from by decide); have e2 := lv_neT h7 (show (2 : Int32).toInt = 2 from by decide); omega) (by decide) ?_
        refine zr_aload_n X 0 dX8_would_127 rfl rfl ?_
        refine zr_get X zfd_RX8_16 (0) (show 0 < w.1 by rw [hw]; omega) ((zPut_out (by omega)).trans hc.1) (v := .ref (w.2 (22))) rfl dX8_would_128 ?_
        refine zr_getN X zfn_RX8_124 (22) (show 22 < w.1 by rw [hw]; omega) (zPut_in (o := 0) (by omega)) (v := .ref (w.2 (22 + 5))) rfl dX8_would_131 ?_
        refine zr_cV X (As := []) (rest := []) (f' := zPut f (22) (zHut w cy (22) ((hDays (cp s1 s0) (d.toNatClampNeg)).1) ((hDays (cp s1 s0) (d.toNatClampNeg)).2))) (st' := [.int (((hDays (cp s1 s0) (d.toNatClampNeg)).2) 9 + ((hDays (cp s1 s0) (d.toNatClampNeg)).2) 10)]) zc_X3_wasted (22 + 5) (show 22 + 5 < w.1 by rw [hw]; omega) (zPut_in (o := 5) (by omega)) (q9 := _) rfl rfl (k_Ledger_wasted (show 22 + 5 < w.1 by rw [hw]; omega) (zPut_in (o := 5) (by omega))) ⟨Nat.le_of_ble_eq_true rfl, Nat.le_of_ble_eq_true rfl⟩ ⟨Nat.le_refl _, Nat.le_refl _⟩ rfl (Nat.le_of_ble_eq_true rfl) zm_3_75 rfl dX8_would_134 rfl ?_
        refine zr_aload_n X 0 dX8_would_137 rfl rfl ?_
        refine zr_get X zfd_RX8_10 (0) (show 0 < w.1 by rw [hw]; omega) ((zPut_out (by omega)).trans hc.1) (v := .ref (w.2 (1))) rfl dX8_would_138 ?_
        refine zr_getN X zfn_RX8_124 (1) (show 1 < w.1 by rw [hw]; omega) ((zPut_out (by omega)).trans (hc.2.1 (0) (by omega))) (v := .ref (w.2 (1 + 5))) rfl dX8_would_141 ?_
        refine zr_cV X (As := []) (rest := [.int (((hDays (cp s1 s0) (d.toNatClampNeg)).2) 9 + ((hDays (cp s1 s0) (d.toNatClampNeg)).2) 10)]) (f' := zPut f (22) (zHut w cy (22) ((hDays (cp s1 s0) (d.toNatClampNeg)).1) ((hDays (cp s1 s0) (d.toNatClampNeg)).2))) (st' := [.int (s0.2 9 + s0.2 10), .int (((hDays (cp s1 s0) (d.toNatClampNeg)).2) 9 + ((hDays (cp s1 s0) (d.toNatClampNeg)).2) 10)]) zc_X3_wasted (1 + 5) (show 1 + 5 < w.1 by rw [hw]; omega) ((zPut_out (by omega)).trans (hc.2.1 (5) (by omega))) (q9 := _) rfl rfl (k_Ledger_wasted (show 1 + 5 < w.1 by rw [hw]; omega) ((zPut_out (by omega)).trans (hc.2.1 (5) (by omega)))) ⟨Nat.le_of_ble_eq_true rfl, Nat.le_of_ble_eq_true rfl⟩ ⟨Nat.le_refl _, Nat.le_refl _⟩ rfl (Nat.le_of_ble_eq_true rfl) zm_3_75 rfl dX8_would_144 rfl ?_
        refine zr_isub X dX8_would_147 ?_
        refine zretp_i E rfl dX8_would_148 ⟨?_, ⟨(hDays (cp s1 s0) (d.toNatClampNeg)), ⟨hDays_okE okt _, .inr ⟨_, rfl⟩⟩, ⟨((zPut_out (by omega)).trans hc.1), fun o ho => ((zPut_out (by omega)).trans (hc.2.1 o ho)), fun o ho => (zPut_in ho), ((zPut_out (by omega)).trans hc.2.2.2.1), ((zPut_out (by omega)).trans hc.2.2.2.2.1), (fun i hi9 o ho => ((zPut_out (by omega)).trans (hc.2.2.2.2.2 i hi9 o ho)))⟩⟩, fun t ht => zPut_out (by omega)⟩
        exact congrArg (fun z => some (Value.int z)) (by simp only [if_neg h2, if_neg h3, if_neg h5, if_neg h6, if_neg h7, cWould])
      · show G (w, 0, 0) (zPut f (22) (zHut w cy (22) ((hDays (cp s1 s0) (n)).1) ((hDays (cp s1 s0) (n)).2))) [(0, .ref (w.2 (0))), (1, .int (d)), (2, .int (x)), (3, .int (nI (n)))] 35 []
        refine zr_iload_n X 3 dX8_would_35 rfl rfl ?_
        refine zr_iload_n X 1 dX8_would_36 rfl rfl ?_
        refine zr_icmp_ge X (tgt := 53) dX8_would_37 (by decide) (fun h => False.elim (nI_ge hn35 (by omega) (by rw [← hdn]; exact h))) (fun _ => ?_)
        refine zr_aload_n X 0 dX8_would_40 rfl rfl ?_
        refine zr_get X zfd_RX8_16 (0) (show 0 < w.1 by rw [hw]; omega) ((zPut_out (by omega)).trans hc.1) (v := .ref (w.2 (22))) rfl dX8_would_41 ?_
        refine zr_cV X (As := []) (rest := []) (f' := zPut (zPut f (22) (zHut w cy (22) ((hDays (cp s1 s0) (n)).1) ((hDays (cp s1 s0) (n)).2))) (22) (zHut w cy (22) ((hDays (cp s1 s0) (n + 1)).1) ((hDays (cp s1 s0) (n + 1)).2))) (st' := []) zc_X2_endDay (22) (show 22 < w.1 by rw [hw]; omega) (zPut_in (o := 0) (by omega)) (q9 := _) rfl rfl (k_qDay (s := (hDays (cp s1 s0) (n))) (show 22 + 21 ≤ w.1 by rw [hw]; decide) (fun o ho => (zPut_in ho)) (hDays_okE okt n)) ⟨Nat.le_of_ble_eq_true rfl, Nat.le_of_ble_eq_true rfl⟩ ⟨Nat.le_refl _, Nat.le_refl _⟩ rfl (Nat.le_of_ble_eq_true rfl) zm_3_53 rfl dX8_would_44 rfl ?_
        rw [zPut_put]
        refine zr_iinc X (v := nI (n + 1)) (ls' := [(3, .int (nI (n + 1))), (0, .ref (w.2 (0))), (1, .int (d)), (2, .int (x))]) 3 dX8_would_47 rfl (zinc1 _) (by decide) rfl ?_
        refine zr_goto X (tgt := 35) dX8_would_50 (by decide) ?_
        refine zr_loc X (ls' := [(0, .ref (w.2 (0))), (1, .int (d)), (2, .int (x)), (3, .int (nI (n + 1)))]) [1, 2, 3, 0] rfl ?_
        exact zcast (f2 := zPut f (22) (zHut w cy (22) ((hDays (cp s1 s0) (n + 1)).1) ((hDays (cp s1 s0) (n + 1)).2))) (ls2 := [(0, .ref (w.2 (0))), (1, .int (d)), (2, .int (x)), (3, .int (nI (n + 1)))]) rfl rfl ih35
    · refine zr_ldc X zm_3_6 dX8_would_19 ?_
      refine zretp_i E rfl dX8_would_21 ⟨congrArg (fun z => some (Value.int z)) (by simp only [if_neg h2, if_pos h4, cWould]), ⟨s1, ⟨hi.2.1, .inl rfl⟩, hc⟩, fun _ _ => rfl⟩
set_option maxHeartbeats 4000000 in
set_option maxRecDepth 100000 in
theorem k_fault9 {l : Launch} {D : va_G} {cy : Nat → ClassId} {w : zW} {f : zF} {s0 s1 : zGS} {hs : Nat → zGS} {δ : Nat → Nat} {k : Nat} {tx : Nat → Int32} {l0 p a r c : Int32} {nu : Nat → Int32} {x : Int32} {RES : zRes} (hw : w.1 = 139) (hc : zCl w cy f s0 s1 hs δ k) (hi : zInv s0 s1 hs δ k) (htx : f 130 = eChars cy 60 tx) (h9 : f 129 = eOrd w (ov l0 p a r c)) (h31 : f 131 = eInts cy 3 nu) (eR : oReh tx l0 60 0 0 a nu (cp s1 s0) = RES) : zSp l D cy yX8_fault cX8_fault 2 (some .int) 6 145 [.ref (w.2 (0)), .int (x)] w f (zFau9 w cy f s0 s1 RES.2.2.2.2.2.2 hs δ k l0 tx (cFault x RES)) := by
  refine zSp.intro (by decide) (Nat.le_of_ble_eq_true rfl) (fun G X E => ?_)
  have okt : zOkE (cp s1 s0) := cp_ok hi.2.1.g hi.1
  have okR : zOkE RES.2.2.2.2.2.2 := by rw [← eR]; exact oReh_ok okt
  show G (w, 0, 0) f [(0, .ref (w.2 (0))), (1, .int (x))] 0 []
  refine zr_iload_n X 1 dX8_fault_0 rfl rfl ?_
  refine zr_iconst X (v := 0) dX8_fault_1 (by decide) ?_
  refine zr_iconst X (v := 2) dX8_fault_2 (by decide) ?_
  refine zr_cS X (As := [.int (x), .int (0), .int (2)]) (rest := []) (f' := f) (st' := [.int (zwin x 0 2)]) zc_X8_isWithin k_isWithin ⟨Nat.le_of_ble_eq_true rfl, Nat.le_of_ble_eq_true rfl⟩ ⟨Nat.le_refl _, Nat.le_refl _⟩ rfl (Nat.le_of_ble_eq_true rfl) zm_3_34 rfl dX8_fault_3 rfl ?_
  refine zr_if_ne X (tgt := 12) dX8_fault_6 (by decide) (fun h1 => ?_) (fun h2 => ?_)
  · refine zr_aload_n X 0 dX8_fault_12 rfl rfl ?_
    refine zr_get X zfd_RX8_16 (0) (show 0 < w.1 by rw [hw]; omega) hc.1 (v := .ref (w.2 (22))) rfl dX8_fault_13 ?_
    refine zr_aload_n X 0 dX8_fault_16 rfl rfl ?_
    refine zr_get X zfd_RX8_10 (0) (show 0 < w.1 by rw [hw]; omega) hc.1 (v := .ref (w.2 (1))) rfl dX8_fault_17 ?_
    refine zr_cV X (As := [.ref (w.2 (1))]) (rest := []) (f' := zPut f (22) (zHut w cy (22) ((cp s1 s0).1) ((cp s1 s0).2))) (st' := []) zc_X2_copyFrom (22) (show 22 < w.1 by rw [hw]; omega) (hc.2.2.1 (0) (by omega)) (q9 := _) rfl rfl (k_copy (show 22 + 21 ≤ w.1 by rw [hw]; omega) (show 1 + 21 ≤ w.1 by rw [hw]; omega) (by omega) (fun o ho => (hc.2.2.1 o ho)) (fun o ho => (hc.2.1 o ho)) (hi.2.1).g hi.1) ⟨Nat.le_of_ble_eq_true rfl, Nat.le_of_ble_eq_true rfl⟩ ⟨Nat.le_refl _, Nat.le_refl _⟩ rfl (Nat.le_of_ble_eq_true rfl) zm_2_45 rfl dX8_fault_20 rfl ?_
    refine zcw (f2 := oW w cy (zPut f 22 (zHut w cy 22 (cp s1 s0).1 (cp s1 s0).2)) (ov l0 p a r c) nu) (oW_self ((zPut_out (by decide)).trans h9) ((zPut_out (by decide)).trans h31)).symm ?_
    refine zr_aload_n X 0 dX8_fault_23 rfl rfl ?_
    refine zr_get X zfd_RX8_29 (0) (show 0 < w.1 by rw [hw]; omega) ((oW_out (by omega) (by omega)).trans ((zPut_out (by omega)).trans (hc.1))) (v := .ref (w.2 (129))) rfl dX8_fault_24 ?_
    refine zr_aload_n X 0 dX8_fault_27 rfl rfl ?_
    refine zr_get X zfd_RX8_16 (0) (show 0 < w.1 by rw [hw]; omega) ((oW_out (by omega) (by omega)).trans ((zPut_out (by omega)).trans (hc.1))) (v := .ref (w.2 (22))) rfl dX8_fault_28 ?_
    obtain ⟨mc, hmc, okm⟩ := okt
    have kR := k_rehearse (l := l) (D := D) (cy := cy) (w := w) (f := f) (s0 := (cp s1 s0)) (l0 := l0) (p0 := p) (a := a) (r0 := r) (c0 := c) (tx := tx) (nu := nu) hw htx hmc okm
    rw [eR] at kR
    refine zr_cV X (As := [.ref (w.2 (22))]) (rest := []) (f' := oW w cy (zPut f 22 (zHut w cy 22 RES.2.2.2.2.2.2.1 RES.2.2.2.2.2.2.2)) (ov l0 RES.2.1 RES.2.2.1 RES.2.2.2.1 RES.2.2.2.2.1) RES.2.2.2.2.2.1) (st' := [.int (RES.1)]) zc_X5_rehearse (129) (show 129 < w.1 by rw [hw]; omega) oW_129 (q9 := _) rfl rfl kR ⟨Nat.le_of_ble_eq_true rfl, Nat.le_of_ble_eq_true rfl⟩ ⟨Nat.le_refl _, Nat.le_refl _⟩ rfl (Nat.le_of_ble_eq_true rfl) zm_3_134 rfl dX8_fault_31 rfl ?_
    refine zr_pop X dX8_fault_34 rfl ?_
    refine zr_aload_n X 0 dX8_fault_35 rfl rfl ?_
    refine zr_get X zfd_RX8_29 (0) (show 0 < w.1 by rw [hw]; omega) ((oW_out (by omega) (by omega)).trans ((zPut_out (by omega)).trans (hc.1))) (v := .ref (w.2 (129))) rfl dX8_fault_36 ?_
    refine zr_getN X zfn_RX8_187 (129) (show 129 < w.1 by rw [hw]; omega) oW_129 (v := .int (RES.2.2.2.1)) rfl dX8_fault_39 ?_
    refine zr_if_ne X (tgt := 48) dX8_fault_42 (by decide) (fun h3 => ?_) (fun h4 => ?_)
    · refine zr_iload_n X 1 dX8_fault_48 rfl rfl ?_
      by_cases h5 : x = 0
      · refine zr_lookup X (off := 27) (tgt := 76) dX8_fault_49 (by decide) (by rw [h5]; decide) (by decide) ?_
        refine zr_aload_n X 0 dX8_fault_76 rfl rfl ?_
        refine zr_get X zfd_RX8_29 (0) (show 0 < w.1 by rw [hw]; omega) ((oW_out (by omega) (by omega)).trans ((zPut_out (by omega)).trans (hc.1))) (v := .ref (w.2 (129))) rfl dX8_fault_77 ?_
        refine zr_getN X zfn_RX8_190 (129) (show 129 < w.1 by rw [hw]; omega) oW_129 (v := .int (RES.2.1)) rfl dX8_fault_80 ?_
        exact zretp_i E rfl dX8_fault_83 ⟨congrArg (fun z => some (Value.int z)) (by simp only [if_neg h1, if_neg h3, if_pos h5, cFault, cFa]), ⟨RES.2.2.2.2.2.2, ⟨okR, .inr rfl⟩, ⟨((oW_out (by omega) (by omega)).trans ((zPut_out (by omega)).trans (hc.1))), fun o ho => ((fun o ho => (oW_out (by omega) (by omega)).trans ((zPut_out (by omega)).trans (hc.2.1 o ho))) o ho), fun o ho => ((fun o ho => (oW_out (by omega) (by omega)).trans (zPut_in ho)) o ho), ((oW_out (by omega) (by omega)).trans ((zPut_out (by omega)).trans (hc.2.2.2.1))), ((oW_out (by omega) (by omega)).trans ((zPut_out (by omega)).trans (hc.2.2.2.2.1))), (fun i hi9 o ho => (oW_out (by omega) (by omega)).trans ((zPut_out (by omega)).trans (hc.2.2.2.2.2 i hi9 o ho)))⟩⟩, ⟨(oW_out (by decide) (by decide)).trans ((zPut_out (by decide)).trans htx), _, _, _, _, _, oW_129, oW_131⟩, fun t ht => (oW_out (by omega) (by omega)).trans (zPut_out (by omega))⟩
      by_cases h6 : x = 1
      · refine zr_lookup X (off := 35) (tgt := 84) dX8_fault_49 (by decide) (by rw [h6]; decide) (by decide) ?_
        refine zr_aload_n X 0 dX8_fault_84 rfl rfl ?_
        refine zr_get X zfd_RX8_29 (0) (show 0 < w.1 by rw [hw]; omega) ((oW_out (by omega) (by omega)).trans ((zPut_out (by omega)).trans (hc.1))) (v := .ref (w.2 (129))) rfl dX8_fault_85 ?_
        refine zr_getN X zfn_RX8_187 (129) (show 129 < w.1 by rw [hw]; omega) oW_129 (v := .int (RES.2.2.2.1)) rfl dX8_fault_88 ?_
        exact zretp_i E rfl dX8_fault_91 ⟨congrArg (fun z => some (Value.int z)) (by simp only [if_neg h1, if_neg h3, if_neg h5, if_pos h6, cFault, cFa]), ⟨RES.2.2.2.2.2.2, ⟨okR, .inr rfl⟩, ⟨((oW_out (by omega) (by omega)).trans ((zPut_out (by omega)).trans (hc.1))), fun o ho => ((fun o ho => (oW_out (by omega) (by omega)).trans ((zPut_out (by omega)).trans (hc.2.1 o ho))) o ho), fun o ho => ((fun o ho => (oW_out (by omega) (by omega)).trans (zPut_in ho)) o ho), ((oW_out (by omega) (by omega)).trans ((zPut_out (by omega)).trans (hc.2.2.2.1))), ((oW_out (by omega) (by omega)).trans ((zPut_out (by omega)).trans (hc.2.2.2.2.1))), (fun i hi9 o ho => (oW_out (by omega) (by omega)).trans ((zPut_out (by omega)).trans (hc.2.2.2.2.2 i hi9 o ho)))⟩⟩, ⟨(oW_out (by decide) (by decide)).trans ((zPut_out (by decide)).trans htx), _, _, _, _, _, oW_129, oW_131⟩, fun t ht => (oW_out (by omega) (by omega)).trans (zPut_out (by omega))⟩
      refine zr_lookup X (off := 43) (tgt := 92) dX8_fault_49 (by decide) (by rw [lv_osw h5 (show (0 : Int32).toInt = 0 from by decide), lv_osw h6 (show (1 : Int32).toInt = 1 from by decide)]; rfl) (by decide) ?_
      refine zr_aload_n X 0 dX8_fault_92 rfl rfl ?_
      refine zr_get X zfd_RX8_29 (0) (show 0 < w.1 by rw [hw]; omega) ((oW_out (by omega) (by omega)).trans ((zPut_out (by omega)).trans (hc.1))) (v := .ref (w.2 (129))) rfl dX8_fault_93 ?_
      refine zr_getN X zfn_RX8_193 (129) (show 129 < w.1 by rw [hw]; omega) oW_129 (v := .int (RES.2.2.2.2.1)) rfl dX8_fault_96 ?_
      exact zretp_i E rfl dX8_fault_99 ⟨congrArg (fun z => some (Value.int z)) (by simp only [if_neg h1, if_neg h3, if_neg h5, if_neg h6, cFault, cFa]), ⟨RES.2.2.2.2.2.2, ⟨okR, .inr rfl⟩, ⟨((oW_out (by omega) (by omega)).trans ((zPut_out (by omega)).trans (hc.1))), fun o ho => ((fun o ho => (oW_out (by omega) (by omega)).trans ((zPut_out (by omega)).trans (hc.2.1 o ho))) o ho), fun o ho => ((fun o ho => (oW_out (by omega) (by omega)).trans (zPut_in ho)) o ho), ((oW_out (by omega) (by omega)).trans ((zPut_out (by omega)).trans (hc.2.2.2.1))), ((oW_out (by omega) (by omega)).trans ((zPut_out (by omega)).trans (hc.2.2.2.2.1))), (fun i hi9 o ho => (oW_out (by omega) (by omega)).trans ((zPut_out (by omega)).trans (hc.2.2.2.2.2 i hi9 o ho)))⟩⟩, ⟨(oW_out (by decide) (by decide)).trans ((zPut_out (by decide)).trans htx), _, _, _, _, _, oW_129, oW_131⟩, fun t ht => (oW_out (by omega) (by omega)).trans (zPut_out (by omega))⟩
    · refine zr_ldc X zm_3_29 dX8_fault_45 ?_
      exact zretp_i E rfl dX8_fault_47 ⟨congrArg (fun z => some (Value.int z)) (by simp only [if_neg h1, if_pos h4, cFault, cFa]), ⟨RES.2.2.2.2.2.2, ⟨okR, .inr rfl⟩, ⟨((oW_out (by omega) (by omega)).trans ((zPut_out (by omega)).trans (hc.1))), fun o ho => ((fun o ho => (oW_out (by omega) (by omega)).trans ((zPut_out (by omega)).trans (hc.2.1 o ho))) o ho), fun o ho => ((fun o ho => (oW_out (by omega) (by omega)).trans (zPut_in ho)) o ho), ((oW_out (by omega) (by omega)).trans ((zPut_out (by omega)).trans (hc.2.2.2.1))), ((oW_out (by omega) (by omega)).trans ((zPut_out (by omega)).trans (hc.2.2.2.2.1))), (fun i hi9 o ho => (oW_out (by omega) (by omega)).trans ((zPut_out (by omega)).trans (hc.2.2.2.2.2 i hi9 o ho)))⟩⟩, ⟨(oW_out (by decide) (by decide)).trans ((zPut_out (by decide)).trans htx), _, _, _, _, _, oW_129, oW_131⟩, fun t ht => (oW_out (by omega) (by omega)).trans (zPut_out (by omega))⟩
  · refine zr_ldc X zm_3_6 dX8_fault_9 ?_
    exact zretp_i E rfl dX8_fault_11 ⟨congrArg (fun z => some (Value.int z)) (by simp only [if_pos h2, cFault]), ⟨s1, ⟨hi.2.1, .inl rfl⟩, hc⟩, ⟨htx, _, _, _, _, _, h9, h31⟩, fun _ _ => rfl⟩
