def dHu (s : Nat → Int32) (h : Int32) : Nat → Nat → Nat
  | 0, n => n
  | m + 1, n => if (dEN s n) 12 = h then dHu s h m (n + 1) else n
def dHuN (s T : Nat → Int32) : Nat := dHu s ((dCp T s 136) 12) 60 0
def dHungry (s T : Nat → Int32) : Int32 := if (dEN s (dHuN s T)) 12 ≤ (dCp T s 136) 12 then (-1000004) else nI (dHuN s T)
set_option maxHeartbeats 4000000 in
set_option maxRecDepth 100000 in
theorem k_mhungry {l : Launch} {D : va_G} {cy : Nat → ClassId} {w : zW} {f : zF} {v s nu : Nat → Int32} {T : Nat → Int32} (hw : w.1 = 139) (h6 : f 136 = eInts cy 136 T) (hG : ∀ i, i < 60 → dGood (dEN s i)) : zSd l D cy yX9_hungry cX9_hungry 3 (some .int) 5 113 [.ref (w.2 (132))] w (mW w cy f v s nu) (some (.int (dHungry s T))) (mW w cy (va_up f (136) (eInts cy 136 (dCp T s 136))) v (dCp (dEN s (dHuN s T)) (dCp T s 136) 136) nu) := by
  refine zSd.intro (by decide) (Nat.le_of_ble_eq_true rfl) (fun G X E => ?_)
  show G (w, 0, 0) (mW w cy f v s nu) [(0, .ref (w.2 (132)))] 0 []
  refine zr_aload_n X 0 dX9_hungry_0 rfl rfl ?_
  refine zr_get X zfd_RX9_7 (132) (show 132 < w.1 by rw [hw]; omega) mW_132 (v := .ref (w.2 (133))) rfl dX9_hungry_1 ?_
  refine zr_aload_n X 0 dX9_hungry_4 rfl rfl ?_
  refine zr_get X zfd_RX9_19 (132) (show 132 < w.1 by rw [hw]; omega) mW_132 (v := .ref (w.2 (136))) rfl dX9_hungry_5 ?_
  refine zr_cS X (As := [.ref (w.2 (133)), .ref (w.2 (136))]) (rest := []) (f' := va_up (mW w cy f v s nu) (136) (eInts cy 136 (dCp T s 136))) (st' := []) zc_X9_copies (k_copies (t := 133) (u := 136) (show 133 < w.1 by rw [hw]; omega) (show 136 < w.1 by rw [hw]; omega) mW_133 ((mW_out (by decide) (by decide) (by decide)).trans h6) (by decide)) ⟨Nat.le_of_ble_eq_true rfl, Nat.le_of_ble_eq_true rfl⟩ ⟨Nat.le_refl _, Nat.le_refl _⟩ rfl (Nat.le_of_ble_eq_true rfl) zm_4_135 rfl dX9_hungry_8 rfl ?_
  refine zcw (f2 := mW w cy (va_up f (136) (eInts cy 136 (dCp T s 136))) v s nu) (mu_out (by decide) (by decide) (by decide)) ?_
  refine zr_iconst X (v := 0) dX9_hungry_11 (by decide) ?_
  refine zr_istore_n X (ls' := [(1, .int (0)), (0, .ref (w.2 (132)))]) dX9_hungry_12 rfl (by decide) rfl ?_
  refine zr_loc X (ls' := [(0, .ref (w.2 (132))), (1, .int (0))]) [1, 0] rfl ?_
  refine zcast (f2 := mW w cy (va_up f (136) (eInts cy 136 (dCp T s 136))) v (dEN s (0)) nu) (ls2 := [(0, .ref (w.2 (132))), (1, .int (nI (0)))]) rfl rfl ?_
  refine zdown (P := fun n => dHu s ((dCp T s 136) 12) (60 - (n)) (n) = dHuN s T → G (w, 0, 0) (mW w cy (va_up f (136) (eInts cy 136 (dCp T s 136))) v (dEN s (n)) nu) [(0, .ref (w.2 (132))), (1, .int (nI (n)))] 13 []) (B := 60) ?_ (fun n hn13 ih13 => ?_) 0 (Nat.zero_le _) rfl
  · show dHu s ((dCp T s 136) 12) (60 - (60)) (60) = dHuN s T → G (w, 0, 0) (mW w cy (va_up f (136) (eInts cy 136 (dCp T s 136))) v (dEN s (60)) nu) [(0, .ref (w.2 (132))), (1, .int (nI (60)))] 13 []
    intro q
    rw [Nat.sub_self] at q
    change 60 = _ at q
    refine zr_iload_n X 1 dX9_hungry_13 rfl rfl ?_
    refine zr_bipush X (v := 60) dX9_hungry_14 (by decide) ?_
    refine zr_icmp_ge X (tgt := 46) dX9_hungry_16 (by decide) (fun _ => ?_) (fun h => False.elim (h (by decide)))
    refine zr_aload_n X 0 dX9_hungry_46 rfl rfl ?_
    refine zr_get X zfd_RX9_7 (132) (show 132 < w.1 by rw [hw]; omega) mW_132 (v := .ref (w.2 (133))) rfl dX9_hungry_47 ?_
    refine zr_bipush X (v := 12) dX9_hungry_50 (by decide) ?_
    refine zr_iald X (133) (show 133 < w.1 by rw [hw]; omega) mW_133 (12) (rfl) (by decide) (by decide) dX9_hungry_52 ?_
    refine zr_aload_n X 0 dX9_hungry_53 rfl rfl ?_
    refine zr_get X zfd_RX9_19 (132) (show 132 < w.1 by rw [hw]; omega) mW_132 (v := .ref (w.2 (136))) rfl dX9_hungry_54 ?_
    refine zr_bipush X (v := 12) dX9_hungry_57 (by decide) ?_
    refine zr_iald X (136) (show 136 < w.1 by rw [hw]; omega) ((mW_out (by decide) (by decide) (by decide)).trans (va_up_self _ _ _)) (12) (rfl) (by decide) (by decide) dX9_hungry_59 ?_
    refine zr_icmp_le X (tgt := 67) dX9_hungry_60 (by decide) (fun h1 => ?_) (fun h2 => ?_)
    · refine zr_iconst X (v := 0) dX9_hungry_67 (by decide) ?_
      refine zr_istore_n X (ls' := [(2, .int (0)), (0, .ref (w.2 (132))), (1, .int (nI (60)))]) dX9_hungry_68 rfl (by decide) rfl ?_
      refine zr_aload_n X 1 dX9_hungry_69 rfl rfl ?_
      refine zr_get X zfd_RX9_19 (132) (show 132 < w.1 by rw [hw]; omega) mW_132 (v := .ref (w.2 (136))) rfl dX9_hungry_70 ?_
      refine zr_aload_n X 1 dX9_hungry_73 rfl rfl ?_
      refine zr_get X zfd_RX9_7 (132) (show 132 < w.1 by rw [hw]; omega) mW_132 (v := .ref (w.2 (133))) rfl dX9_hungry_74 ?_
      refine zr_cS X (As := [.ref (w.2 (136)), .ref (w.2 (133))]) (rest := []) (f' := va_up (mW w cy (va_up f (136) (eInts cy 136 (dCp T s 136))) v (dEN s (60)) nu) (133) (eInts cy 136 (dCp (dEN s (60)) (dCp T s 136) 136))) (st' := []) zc_X9_copies (k_copies (t := 136) (u := 133) (show 136 < w.1 by rw [hw]; omega) (show 133 < w.1 by rw [hw]; omega) ((mW_out (by decide) (by decide) (by decide)).trans (va_up_self _ _ _)) mW_133 (by decide)) ⟨Nat.le_of_ble_eq_true rfl, Nat.le_of_ble_eq_true rfl⟩ ⟨Nat.le_refl _, Nat.le_refl _⟩ rfl (Nat.le_of_ble_eq_true rfl) zm_4_135 rfl dX9_hungry_77 rfl ?_
      refine zcw (f2 := mW w cy (va_up f (136) (eInts cy 136 (dCp T s 136))) v (dCp (dEN s (60)) (dCp T s 136) 136) nu) mu_133 ?_
      refine zr_iload_n X 0 dX9_hungry_80 rfl rfl ?_
      refine zr_if_eq X (tgt := 88) dX9_hungry_81 (by decide) (fun _ => ?_) (fun h => absurd rfl h)
      refine zr_ldc X zm_4_41 dX9_hungry_88 ?_
      exact zret_i E rfl dX9_hungry_90 (by unfold dHungry; rw [← q]; rw [if_pos h1]) (by rw [← q])
    · refine zr_iconst X (v := 1) dX9_hungry_63 (by decide) ?_
      refine zr_goto X (tgt := 68) dX9_hungry_64 (by decide) ?_
      refine zr_istore_n X (ls' := [(2, .int (1)), (0, .ref (w.2 (132))), (1, .int (nI (60)))]) dX9_hungry_68 rfl (by decide) rfl ?_
      refine zr_aload_n X 1 dX9_hungry_69 rfl rfl ?_
      refine zr_get X zfd_RX9_19 (132) (show 132 < w.1 by rw [hw]; omega) mW_132 (v := .ref (w.2 (136))) rfl dX9_hungry_70 ?_
      refine zr_aload_n X 1 dX9_hungry_73 rfl rfl ?_
      refine zr_get X zfd_RX9_7 (132) (show 132 < w.1 by rw [hw]; omega) mW_132 (v := .ref (w.2 (133))) rfl dX9_hungry_74 ?_
      refine zr_cS X (As := [.ref (w.2 (136)), .ref (w.2 (133))]) (rest := []) (f' := va_up (mW w cy (va_up f (136) (eInts cy 136 (dCp T s 136))) v (dEN s (60)) nu) (133) (eInts cy 136 (dCp (dEN s (60)) (dCp T s 136) 136))) (st' := []) zc_X9_copies (k_copies (t := 136) (u := 133) (show 136 < w.1 by rw [hw]; omega) (show 133 < w.1 by rw [hw]; omega) ((mW_out (by decide) (by decide) (by decide)).trans (va_up_self _ _ _)) mW_133 (by decide)) ⟨Nat.le_of_ble_eq_true rfl, Nat.le_of_ble_eq_true rfl⟩ ⟨Nat.le_refl _, Nat.le_refl _⟩ rfl (Nat.le_of_ble_eq_true rfl) zm_4_135 rfl dX9_hungry_77 rfl ?_
      refine zcw (f2 := mW w cy (va_up f (136) (eInts cy 136 (dCp T s 136))) v (dCp (dEN s (60)) (dCp T s 136) 136) nu) mu_133 ?_
      refine zr_iload_n X 0 dX9_hungry_80 rfl rfl ?_
      refine zr_if_eq X (tgt := 88) dX9_hungry_81 (by decide) (fun h => absurd h (by decide)) (fun _ => ?_)
      refine zr_iload_n X 2 dX9_hungry_84 rfl rfl ?_
      refine zr_goto X (tgt := 90) dX9_hungry_85 (by decide) ?_
      exact zret_i E rfl dX9_hungry_90 (by unfold dHungry; rw [← q]; rw [if_neg h2]) (by rw [← q])
  · show dHu s ((dCp T s 136) 12) (60 - (n)) (n) = dHuN s T → G (w, 0, 0) (mW w cy (va_up f (136) (eInts cy 136 (dCp T s 136))) v (dEN s (n)) nu) [(0, .ref (w.2 (132))), (1, .int (nI (n)))] 13 []
    intro q
    rw [show 60 - n = (60 - (n + 1)) + 1 by omega] at q
    unfold dHu at q
    refine zr_iload_n X 1 dX9_hungry_13 rfl rfl ?_
    refine zr_bipush X (v := 60) dX9_hungry_14 (by decide) ?_
    refine zr_icmp_ge X (tgt := 46) dX9_hungry_16 (by decide) (fun h => False.elim (nI_ge hn13 (by decide) h)) (fun _ => ?_)
    refine zr_aload_n X 0 dX9_hungry_19 rfl rfl ?_
    refine zr_get X zfd_RX9_7 (132) (show 132 < w.1 by rw [hw]; omega) mW_132 (v := .ref (w.2 (133))) rfl dX9_hungry_20 ?_
    refine zr_bipush X (v := 12) dX9_hungry_23 (by decide) ?_
    refine zr_iald X (133) (show 133 < w.1 by rw [hw]; omega) mW_133 (12) (rfl) (by decide) (by decide) dX9_hungry_25 ?_
    refine zr_aload_n X 0 dX9_hungry_26 rfl rfl ?_
    refine zr_get X zfd_RX9_19 (132) (show 132 < w.1 by rw [hw]; omega) mW_132 (v := .ref (w.2 (136))) rfl dX9_hungry_27 ?_
    refine zr_bipush X (v := 12) dX9_hungry_30 (by decide) ?_
    refine zr_iald X (136) (show 136 < w.1 by rw [hw]; omega) ((mW_out (by decide) (by decide) (by decide)).trans (va_up_self _ _ _)) (12) (rfl) (by decide) (by decide) dX9_hungry_32 ?_
    refine zr_icmp_ne X (tgt := 46) dX9_hungry_33 (by decide) (fun h3 => ?_) (fun h4 => ?_)
    · rw [if_neg h3] at q
      refine zr_aload_n X 0 dX9_hungry_46 rfl rfl ?_
      refine zr_get X zfd_RX9_7 (132) (show 132 < w.1 by rw [hw]; omega) mW_132 (v := .ref (w.2 (133))) rfl dX9_hungry_47 ?_
      refine zr_bipush X (v := 12) dX9_hungry_50 (by decide) ?_
      refine zr_iald X (133) (show 133 < w.1 by rw [hw]; omega) mW_133 (12) (rfl) (by decide) (by decide) dX9_hungry_52 ?_
      refine zr_aload_n X 0 dX9_hungry_53 rfl rfl ?_
      refine zr_get X zfd_RX9_19 (132) (show 132 < w.1 by rw [hw]; omega) mW_132 (v := .ref (w.2 (136))) rfl dX9_hungry_54 ?_
      refine zr_bipush X (v := 12) dX9_hungry_57 (by decide) ?_
      refine zr_iald X (136) (show 136 < w.1 by rw [hw]; omega) ((mW_out (by decide) (by decide) (by decide)).trans (va_up_self _ _ _)) (12) (rfl) (by decide) (by decide) dX9_hungry_59 ?_
      refine zr_icmp_le X (tgt := 67) dX9_hungry_60 (by decide) (fun h5 => ?_) (fun h6 => ?_)
      · refine zr_iconst X (v := 0) dX9_hungry_67 (by decide) ?_
        refine zr_istore_n X (ls' := [(2, .int (0)), (0, .ref (w.2 (132))), (1, .int (nI (n)))]) dX9_hungry_68 rfl (by decide) rfl ?_
        refine zr_aload_n X 1 dX9_hungry_69 rfl rfl ?_
        refine zr_get X zfd_RX9_19 (132) (show 132 < w.1 by rw [hw]; omega) mW_132 (v := .ref (w.2 (136))) rfl dX9_hungry_70 ?_
        refine zr_aload_n X 1 dX9_hungry_73 rfl rfl ?_
        refine zr_get X zfd_RX9_7 (132) (show 132 < w.1 by rw [hw]; omega) mW_132 (v := .ref (w.2 (133))) rfl dX9_hungry_74 ?_
        refine zr_cS X (As := [.ref (w.2 (136)), .ref (w.2 (133))]) (rest := []) (f' := va_up (mW w cy (va_up f (136) (eInts cy 136 (dCp T s 136))) v (dEN s (n)) nu) (133) (eInts cy 136 (dCp (dEN s (n)) (dCp T s 136) 136))) (st' := []) zc_X9_copies (k_copies (t := 136) (u := 133) (show 136 < w.1 by rw [hw]; omega) (show 133 < w.1 by rw [hw]; omega) ((mW_out (by decide) (by decide) (by decide)).trans (va_up_self _ _ _)) mW_133 (by decide)) ⟨Nat.le_of_ble_eq_true rfl, Nat.le_of_ble_eq_true rfl⟩ ⟨Nat.le_refl _, Nat.le_refl _⟩ rfl (Nat.le_of_ble_eq_true rfl) zm_4_135 rfl dX9_hungry_77 rfl ?_
        refine zcw (f2 := mW w cy (va_up f (136) (eInts cy 136 (dCp T s 136))) v (dCp (dEN s (n)) (dCp T s 136) 136) nu) mu_133 ?_
        refine zr_iload_n X 0 dX9_hungry_80 rfl rfl ?_
        refine zr_if_eq X (tgt := 88) dX9_hungry_81 (by decide) (fun _ => ?_) (fun h => absurd rfl h)
        refine zr_ldc X zm_4_41 dX9_hungry_88 ?_
        exact zret_i E rfl dX9_hungry_90 (by unfold dHungry; rw [← q]; rw [if_pos h5]) (by rw [← q])
      · refine zr_iconst X (v := 1) dX9_hungry_63 (by decide) ?_
        refine zr_goto X (tgt := 68) dX9_hungry_64 (by decide) ?_
        refine zr_istore_n X (ls' := [(2, .int (1)), (0, .ref (w.2 (132))), (1, .int (nI (n)))]) dX9_hungry_68 rfl (by decide) rfl ?_
        refine zr_aload_n X 1 dX9_hungry_69 rfl rfl ?_
        refine zr_get X zfd_RX9_19 (132) (show 132 < w.1 by rw [hw]; omega) mW_132 (v := .ref (w.2 (136))) rfl dX9_hungry_70 ?_
        refine zr_aload_n X 1 dX9_hungry_73 rfl rfl ?_
        refine zr_get X zfd_RX9_7 (132) (show 132 < w.1 by rw [hw]; omega) mW_132 (v := .ref (w.2 (133))) rfl dX9_hungry_74 ?_
        refine zr_cS X (As := [.ref (w.2 (136)), .ref (w.2 (133))]) (rest := []) (f' := va_up (mW w cy (va_up f (136) (eInts cy 136 (dCp T s 136))) v (dEN s (n)) nu) (133) (eInts cy 136 (dCp (dEN s (n)) (dCp T s 136) 136))) (st' := []) zc_X9_copies (k_copies (t := 136) (u := 133) (show 136 < w.1 by rw [hw]; omega) (show 133 < w.1 by rw [hw]; omega) ((mW_out (by decide) (by decide) (by decide)).trans (va_up_self _ _ _)) mW_133 (by decide)) ⟨Nat.le_of_ble_eq_true rfl, Nat.le_of_ble_eq_true rfl⟩ ⟨Nat.le_refl _, Nat.le_refl _⟩ rfl (Nat.le_of_ble_eq_true rfl) zm_4_135 rfl dX9_hungry_77 rfl ?_
        refine zcw (f2 := mW w cy (va_up f (136) (eInts cy 136 (dCp T s 136))) v (dCp (dEN s (n)) (dCp T s 136) 136) nu) mu_133 ?_
        refine zr_iload_n X 0 dX9_hungry_80 rfl rfl ?_
        refine zr_if_eq X (tgt := 88) dX9_hungry_81 (by decide) (fun h => absurd h (by decide)) (fun _ => ?_)
        refine zr_iload_n X 2 dX9_hungry_84 rfl rfl ?_
        refine zr_goto X (tgt := 90) dX9_hungry_85 (by decide) ?_
        exact zret_i E rfl dX9_hungry_90 (by unfold dHungry; rw [← q]; rw [if_neg h6]) (by rw [← q])
    · refine zr_aload_n X 0 dX9_hungry_36 rfl rfl ?_
      refine zr_cV X (As := []) (rest := []) (f' := mW w cy (va_up f (136) (eInts cy 136 (dCp T s 136))) v (dEN s (n + 1)) nu) (st' := []) zc_X9_ends (132) (show 132 < w.1 by rw [hw]; omega) mW_132 (q9 := _) rfl rfl (k_endsX hw (hG n (by omega))) ⟨Nat.le_of_ble_eq_true rfl, Nat.le_of_ble_eq_true rfl⟩ ⟨Nat.le_refl _, Nat.le_refl _⟩ rfl (Nat.le_of_ble_eq_true rfl) zm_4_54 rfl dX9_hungry_37 rfl ?_
      refine zr_iinc X (v := nI (n + 1)) (ls' := [(1, .int (nI (n + 1))), (0, .ref (w.2 (132)))]) 1 dX9_hungry_40 rfl (zinc1 _) (by decide) rfl ?_
      refine zr_goto X (tgt := 13) dX9_hungry_43 (by decide) ?_
      refine zr_loc X (ls' := [(0, .ref (w.2 (132))), (1, .int (nI (n + 1)))]) [1, 0] rfl ?_
      exact zcast (f2 := mW w cy (va_up f (136) (eInts cy 136 (dCp T s 136))) v (dEN s (n + 1)) nu) (ls2 := [(0, .ref (w.2 (132))), (1, .int (nI (n + 1)))]) rfl rfl (ih13 (by rw [← q, if_pos h4]))
def dNeS (s : Nat → Int32) (k : Nat) (b : Int32) : Int32 := if s (19 + 9 * k + 2) = 0 then (if b < 0 then nI k else if s (19 + 9 * b.toNatClampNeg + 0) < s (19 + 9 * k + 0) then nI k else if s (19 + 9 * k + 0) = s (19 + 9 * b.toNatClampNeg + 0) then (if s (19 + 9 * b.toNatClampNeg + 6) ≤ s (19 + 9 * k + 6) then b else nI k) else b) else b
def dNe (s : Nat → Int32) (n : Nat) : Int32 := zfold (dNeS s) (-1000004) n
theorem dNe_s {s : Nat → Int32} {n : Nat} : dNe s (n + 1) = dNeS s n (dNe s n) := rfl
theorem dNeS_or {s : Nat → Int32} {k : Nat} {b : Int32} : dNeS s k b = b ∨ dNeS s k b = nI k := by
  unfold dNeS
  split
  · split
    · exact .inr rfl
    · split
      · exact .inr rfl
      · split
        · split
          · exact .inl rfl
          · exact .inr rfl
        · exact .inl rfl
  · exact .inl rfl
theorem dNe_lt {s : Nat → Int32} : ∀ n, n ≤ 4 → dNe s n = (-1000004) ∨ ∃ j, j < n ∧ dNe s n = nI j
  | 0, _ => .inl rfl
  | n + 1, h => by
    rw [dNe_s]
    rcases dNeS_or (s := s) (k := n) (b := dNe s n) with q | q
    · rw [q]
      rcases dNe_lt n (by omega) with h1 | ⟨j, h1, h2⟩
      · exact .inl h1
      · exact .inr ⟨j, by omega, h2⟩
    · exact .inr ⟨n, by omega, q⟩
theorem dNe_k {s : Nat → Int32} {n : Nat} (h : n ≤ 4) (h0 : ¬ dNe s n < 0) : dNe s n = nI (dNe s n).toNatClampNeg ∧ (dNe s n).toNatClampNeg < n := by
  rcases dNe_lt (s := s) n h with q | ⟨j, h1, h2⟩
  · rw [q] at h0
    exact absurd (by decide) h0
  · rw [h2, nI_clamp (by omega)]
    exact ⟨rfl, h1⟩
set_option maxHeartbeats 4000000 in
set_option maxRecDepth 100000 in
theorem k_nextMule {l : Launch} {D : va_G} {cy : Nat → ClassId} {w : zW} {f : zF} {v s nu : Nat → Int32} {mc : Nat} (hw : w.1 = 139) (hm : s 0 = nI mc) (hmc : mc ≤ 4) : zSd l D cy yX9_nextMule cX9_nextMule 4 (some .int) 1 22 [.ref (w.2 (132))] w (mW w cy f v s nu) (some (.int (dNe s mc))) (mW w cy f v s nu) := by
  refine zSd.intro (by decide) (Nat.le_of_ble_eq_true rfl) (fun G X E => ?_)
  show G (w, 0, 0) (mW w cy f v s nu) [(0, .ref (w.2 (132)))] 0 []
  refine zr_ldc X zm_4_41 dX9_nextMule_0 ?_
  refine zr_istore_n X (ls' := [(1, .int ((-1000004))), (0, .ref (w.2 (132)))]) dX9_nextMule_2 rfl (by decide) rfl ?_
  refine zr_iconst X (v := 0) dX9_nextMule_3 (by decide) ?_
  refine zr_istore_n X (ls' := [(2, .int (0)), (1, .int ((-1000004))), (0, .ref (w.2 (132)))]) dX9_nextMule_4 rfl (by decide) rfl ?_
  refine zr_loc X (ls' := [(0, .ref (w.2 (132))), (1, .int ((-1000004))), (2, .int (0))]) [2, 1, 0] rfl ?_
  refine zcast (f2 := mW w cy f v s nu) (ls2 := [(0, .ref (w.2 (132))), (1, .int (dNe s (0))), (2, .int (nI (0)))]) rfl rfl ?_
  refine zdown (P := fun n => G (w, 0, 0) (mW w cy f v s nu) [(0, .ref (w.2 (132))), (1, .int (dNe s (n))), (2, .int (nI (n)))] 5 []) (B := mc) ?_ (fun n hn5 ih5 => ?_) 0 (Nat.zero_le _) 
  · show G (w, 0, 0) (mW w cy f v s nu) [(0, .ref (w.2 (132))), (1, .int (dNe s (mc))), (2, .int (nI (mc)))] 5 []
    refine zr_iload_n X 2 dX9_nextMule_5 rfl rfl ?_
    refine zr_aload_n X 0 dX9_nextMule_6 rfl rfl ?_
    refine zr_get X zfd_RX9_7 (132) (show 132 < w.1 by rw [hw]; omega) mW_132 (v := .ref (w.2 (133))) rfl dX9_nextMule_7 ?_
    refine zr_iconst X (v := 0) dX9_nextMule_10 (by decide) ?_
    refine zr_iald X (133) (show 133 < w.1 by rw [hw]; omega) mW_133 (0) (rfl) (by decide) (by decide) dX9_nextMule_11 ?_
    refine zr_icmp_ge X (tgt := 97) dX9_nextMule_12 (by decide) (fun _ => ?_) (fun h => False.elim (h (by rw [hm]; exact Int32.le_refl _)))
    refine zr_iload_n X 1 dX9_nextMule_97 rfl rfl ?_
    exact zret_i E rfl dX9_nextMule_98 (by simp only []) rfl
  · show G (w, 0, 0) (mW w cy f v s nu) [(0, .ref (w.2 (132))), (1, .int (dNe s (n))), (2, .int (nI (n)))] 5 []
    refine zr_iload_n X 2 dX9_nextMule_5 rfl rfl ?_
    refine zr_aload_n X 0 dX9_nextMule_6 rfl rfl ?_
    refine zr_get X zfd_RX9_7 (132) (show 132 < w.1 by rw [hw]; omega) mW_132 (v := .ref (w.2 (133))) rfl dX9_nextMule_7 ?_
    refine zr_iconst X (v := 0) dX9_nextMule_10 (by decide) ?_
    refine zr_iald X (133) (show 133 < w.1 by rw [hw]; omega) mW_133 (0) (rfl) (by decide) (by decide) dX9_nextMule_11 ?_
    refine zr_icmp_ge X (tgt := 97) dX9_nextMule_12 (by decide) (fun h => False.elim (nI_ge hn5 (by omega) (by rw [← hm]; exact h))) (fun _ => ?_)
    refine zr_aload_n X 0 dX9_nextMule_15 rfl rfl ?_
    refine zr_iload_n X 2 dX9_nextMule_16 rfl rfl ?_
    refine zr_iconst X (v := 2) dX9_nextMule_17 (by decide) ?_
    refine zr_cV X (As := [.int (nI (n)), .int (2)]) (rest := []) (f' := mW w cy f v s nu) (st' := [.int (s (19 + 9 * (n) + 2))]) zc_X9_of (132) (show 132 < w.1 by rw [hw]; omega) mW_132 (q9 := _) rfl rfl (k_of (k := (n)) (i := 2) hw rfl rfl (by omega) (by omega)) ⟨Nat.le_of_ble_eq_true rfl, Nat.le_of_ble_eq_true rfl⟩ ⟨Nat.le_refl _, Nat.le_refl _⟩ rfl (Nat.le_of_ble_eq_true rfl) zm_4_12 rfl dX9_nextMule_18 rfl ?_
    refine zr_if_ne X (tgt := 79) dX9_nextMule_21 (by decide) (fun h1 => ?_) (fun h2 => ?_)
    · refine zr_iconst X (v := 0) dX9_nextMule_79 (by decide) ?_
      refine zr_istore_n X (ls' := [(3, .int (0)), (0, .ref (w.2 (132))), (1, .int (dNe s (n))), (2, .int (nI (n)))]) dX9_nextMule_80 rfl (by decide) rfl ?_
      refine zr_iload_n X 0 dX9_nextMule_81 rfl rfl ?_
      refine zr_if_eq X (tgt := 89) dX9_nextMule_82 (by decide) (fun _ => ?_) (fun h => absurd rfl h)
      refine zr_iload_n X 2 dX9_nextMule_89 rfl rfl ?_
      refine zr_istore_n X (ls' := [(1, .int (dNe s (n))), (3, .int (0)), (0, .ref (w.2 (132))), (2, .int (nI (n)))]) dX9_nextMule_90 rfl (by decide) rfl ?_
      refine zr_iinc X (v := nI (n + 1)) (ls' := [(2, .int (nI (n + 1))), (1, .int (dNe s (n))), (3, .int (0)), (0, .ref (w.2 (132)))]) 3 dX9_nextMule_91 rfl (zinc1 _) (by decide) rfl ?_
      refine zr_goto X (tgt := 5) dX9_nextMule_94 (by decide) ?_
      refine zr_loc X (ls' := [(0, .ref (w.2 (132))), (1, .int (dNe s (n))), (2, .int (nI (n + 1)))]) [3, 1, 0] rfl ?_
      exact zcast (f2 := mW w cy f v s nu) (ls2 := [(0, .ref (w.2 (132))), (1, .int (dNe s (n + 1))), (2, .int (nI (n + 1)))]) rfl (by rw [dNe_s]; unfold dNeS; rw [if_neg h1]) ih5
    · refine zr_iload_n X 1 dX9_nextMule_24 rfl rfl ?_
      refine zr_if_lt X (tgt := 75) dX9_nextMule_25 (by decide) (fun h3 => ?_) (fun h4 => ?_)
      · refine zr_iconst X (v := 1) dX9_nextMule_75 (by decide) ?_
        refine zr_goto X (tgt := 80) dX9_nextMule_76 (by decide) ?_
        refine zr_istore_n X (ls' := [(3, .int (1)), (0, .ref (w.2 (132))), (1, .int (dNe s (n))), (2, .int (nI (n)))]) dX9_nextMule_80 rfl (by decide) rfl ?_
        refine zr_iload_n X 0 dX9_nextMule_81 rfl rfl ?_
        refine zr_if_eq X (tgt := 89) dX9_nextMule_82 (by decide) (fun h => absurd h (by decide)) (fun _ => ?_)
        refine zr_iload_n X 3 dX9_nextMule_85 rfl rfl ?_
        refine zr_goto X (tgt := 90) dX9_nextMule_86 (by decide) ?_
        refine zr_istore_n X (ls' := [(1, .int (nI (n))), (3, .int (1)), (0, .ref (w.2 (132))), (2, .int (nI (n)))]) dX9_nextMule_90 rfl (by decide) rfl ?_
        refine zr_iinc X (v := nI (n + 1)) (ls' := [(2, .int (nI (n + 1))), (1, .int (nI (n))), (3, .int (1)), (0, .ref (w.2 (132)))]) 3 dX9_nextMule_91 rfl (zinc1 _) (by decide) rfl ?_
        refine zr_goto X (tgt := 5) dX9_nextMule_94 (by decide) ?_
        refine zr_loc X (ls' := [(0, .ref (w.2 (132))), (1, .int (nI (n))), (2, .int (nI (n + 1)))]) [3, 1, 0] rfl ?_
        exact zcast (f2 := mW w cy f v s nu) (ls2 := [(0, .ref (w.2 (132))), (1, .int (dNe s (n + 1))), (2, .int (nI (n + 1)))]) rfl (by rw [dNe_s]; unfold dNeS; rw [if_pos h2, if_pos h3]) ih5
      · obtain ⟨hb9, hb8⟩ := dNe_k (by omega) h4
        refine zr_aload_n X 0 dX9_nextMule_28 rfl rfl ?_
        refine zr_iload_n X 2 dX9_nextMule_29 rfl rfl ?_
        refine zr_iconst X (v := 0) dX9_nextMule_30 (by decide) ?_
        refine zr_cV X (As := [.int (nI (n)), .int (0)]) (rest := []) (f' := mW w cy f v s nu) (st' := [.int (s (19 + 9 * (n) + 0))]) zc_X9_of (132) (show 132 < w.1 by rw [hw]; omega) mW_132 (q9 := _) rfl rfl (k_of (k := (n)) (i := 0) hw rfl rfl (by omega) (by omega)) ⟨Nat.le_of_ble_eq_true rfl, Nat.le_of_ble_eq_true rfl⟩ ⟨Nat.le_refl _, Nat.le_refl _⟩ rfl (Nat.le_of_ble_eq_true rfl) zm_4_12 rfl dX9_nextMule_31 rfl ?_
        refine zr_aload_n X 0 dX9_nextMule_34 rfl rfl ?_
        refine zr_iload_n X 1 dX9_nextMule_35 rfl rfl ?_
        refine zr_iconst X (v := 0) dX9_nextMule_36 (by decide) ?_
        refine zr_cV X (As := [.int (dNe s (n)), .int (0)]) (rest := [.int (s (19 + 9 * (n) + 0))]) (f' := mW w cy f v s nu) (st' := [.int (s (19 + 9 * ((dNe s n).toNatClampNeg) + 0)), .int (s (19 + 9 * (n) + 0))]) zc_X9_of (132) (show 132 < w.1 by rw [hw]; omega) mW_132 (q9 := _) rfl rfl (k_of (k := (dNe s n).toNatClampNeg) (i := 0) hw hb9 rfl (by omega) (by omega)) ⟨Nat.le_of_ble_eq_true rfl, Nat.le_of_ble_eq_true rfl⟩ ⟨Nat.le_refl _, Nat.le_refl _⟩ rfl (Nat.le_of_ble_eq_true rfl) zm_4_12 rfl dX9_nextMule_37 rfl ?_
        refine zr_icmp_gt X (tgt := 75) dX9_nextMule_40 (by decide) (fun h5 => ?_) (fun h6 => ?_)
        · refine zr_iconst X (v := 1) dX9_nextMule_75 (by decide) ?_
          refine zr_goto X (tgt := 80) dX9_nextMule_76 (by decide) ?_
          refine zr_istore_n X (ls' := [(3, .int (1)), (0, .ref (w.2 (132))), (1, .int (dNe s (n))), (2, .int (nI (n)))]) dX9_nextMule_80 rfl (by decide) rfl ?_
          refine zr_iload_n X 0 dX9_nextMule_81 rfl rfl ?_
          refine zr_if_eq X (tgt := 89) dX9_nextMule_82 (by decide) (fun h => absurd h (by decide)) (fun _ => ?_)
          refine zr_iload_n X 3 dX9_nextMule_85 rfl rfl ?_
          refine zr_goto X (tgt := 90) dX9_nextMule_86 (by decide) ?_
          refine zr_istore_n X (ls' := [(1, .int (nI (n))), (3, .int (1)), (0, .ref (w.2 (132))), (2, .int (nI (n)))]) dX9_nextMule_90 rfl (by decide) rfl ?_
          refine zr_iinc X (v := nI (n + 1)) (ls' := [(2, .int (nI (n + 1))), (1, .int (nI (n))), (3, .int (1)), (0, .ref (w.2 (132)))]) 3 dX9_nextMule_91 rfl (zinc1 _) (by decide) rfl ?_
          refine zr_goto X (tgt := 5) dX9_nextMule_94 (by decide) ?_
          refine zr_loc X (ls' := [(0, .ref (w.2 (132))), (1, .int (nI (n))), (2, .int (nI (n + 1)))]) [3, 1, 0] rfl ?_
          exact zcast (f2 := mW w cy f v s nu) (ls2 := [(0, .ref (w.2 (132))), (1, .int (dNe s (n + 1))), (2, .int (nI (n + 1)))]) rfl (by rw [dNe_s]; unfold dNeS; rw [if_pos h2, if_neg h4, if_pos h5]) ih5
        · refine zr_aload_n X 0 dX9_nextMule_43 rfl rfl ?_
          refine zr_iload_n X 2 dX9_nextMule_44 rfl rfl ?_
          refine zr_iconst X (v := 0) dX9_nextMule_45 (by decide) ?_
          refine zr_cV X (As := [.int (nI (n)), .int (0)]) (rest := []) (f' := mW w cy f v s nu) (st' := [.int (s (19 + 9 * (n) + 0))]) zc_X9_of (132) (show 132 < w.1 by rw [hw]; omega) mW_132 (q9 := _) rfl rfl (k_of (k := (n)) (i := 0) hw rfl rfl (by omega) (by omega)) ⟨Nat.le_of_ble_eq_true rfl, Nat.le_of_ble_eq_true rfl⟩ ⟨Nat.le_refl _, Nat.le_refl _⟩ rfl (Nat.le_of_ble_eq_true rfl) zm_4_12 rfl dX9_nextMule_46 rfl ?_
          refine zr_aload_n X 0 dX9_nextMule_49 rfl rfl ?_
          refine zr_iload_n X 1 dX9_nextMule_50 rfl rfl ?_
          refine zr_iconst X (v := 0) dX9_nextMule_51 (by decide) ?_
          refine zr_cV X (As := [.int (dNe s (n)), .int (0)]) (rest := [.int (s (19 + 9 * (n) + 0))]) (f' := mW w cy f v s nu) (st' := [.int (s (19 + 9 * ((dNe s n).toNatClampNeg) + 0)), .int (s (19 + 9 * (n) + 0))]) zc_X9_of (132) (show 132 < w.1 by rw [hw]; omega) mW_132 (q9 := _) rfl rfl (k_of (k := (dNe s n).toNatClampNeg) (i := 0) hw hb9 rfl (by omega) (by omega)) ⟨Nat.le_of_ble_eq_true rfl, Nat.le_of_ble_eq_true rfl⟩ ⟨Nat.le_refl _, Nat.le_refl _⟩ rfl (Nat.le_of_ble_eq_true rfl) zm_4_12 rfl dX9_nextMule_52 rfl ?_
          refine zr_icmp_ne X (tgt := 79) dX9_nextMule_55 (by decide) (fun h7 => ?_) (fun h8 => ?_)
          · refine zr_iconst X (v := 0) dX9_nextMule_79 (by decide) ?_
            refine zr_istore_n X (ls' := [(3, .int (0)), (0, .ref (w.2 (132))), (1, .int (dNe s (n))), (2, .int (nI (n)))]) dX9_nextMule_80 rfl (by decide) rfl ?_
            refine zr_iload_n X 0 dX9_nextMule_81 rfl rfl ?_
            refine zr_if_eq X (tgt := 89) dX9_nextMule_82 (by decide) (fun _ => ?_) (fun h => absurd rfl h)
            refine zr_iload_n X 2 dX9_nextMule_89 rfl rfl ?_
            refine zr_istore_n X (ls' := [(1, .int (dNe s (n))), (3, .int (0)), (0, .ref (w.2 (132))), (2, .int (nI (n)))]) dX9_nextMule_90 rfl (by decide) rfl ?_
            refine zr_iinc X (v := nI (n + 1)) (ls' := [(2, .int (nI (n + 1))), (1, .int (dNe s (n))), (3, .int (0)), (0, .ref (w.2 (132)))]) 3 dX9_nextMule_91 rfl (zinc1 _) (by decide) rfl ?_
            refine zr_goto X (tgt := 5) dX9_nextMule_94 (by decide) ?_
            refine zr_loc X (ls' := [(0, .ref (w.2 (132))), (1, .int (dNe s (n))), (2, .int (nI (n + 1)))]) [3, 1, 0] rfl ?_
            exact zcast (f2 := mW w cy f v s nu) (ls2 := [(0, .ref (w.2 (132))), (1, .int (dNe s (n + 1))), (2, .int (nI (n + 1)))]) rfl (by rw [dNe_s]; unfold dNeS; rw [if_pos h2, if_neg h4, if_neg h6, if_neg h7]) ih5
          · refine zr_aload_n X 0 dX9_nextMule_58 rfl rfl ?_
            refine zr_iload_n X 2 dX9_nextMule_59 rfl rfl ?_
            refine zr_bipush X (v := 6) dX9_nextMule_60 (by decide) ?_
            refine zr_cV X (As := [.int (nI (n)), .int (6)]) (rest := []) (f' := mW w cy f v s nu) (st' := [.int (s (19 + 9 * (n) + 6))]) zc_X9_of (132) (show 132 < w.1 by rw [hw]; omega) mW_132 (q9 := _) rfl rfl (k_of (k := (n)) (i := 6) hw rfl rfl (by omega) (by omega)) ⟨Nat.le_of_ble_eq_true rfl, Nat.le_of_ble_eq_true rfl⟩ ⟨Nat.le_refl _, Nat.le_refl _⟩ rfl (Nat.le_of_ble_eq_true rfl) zm_4_12 rfl dX9_nextMule_62 rfl ?_
            refine zr_aload_n X 0 dX9_nextMule_65 rfl rfl ?_
            refine zr_iload_n X 1 dX9_nextMule_66 rfl rfl ?_
            refine zr_bipush X (v := 6) dX9_nextMule_67 (by decide) ?_
            refine zr_cV X (As := [.int (dNe s (n)), .int (6)]) (rest := [.int (s (19 + 9 * (n) + 6))]) (f' := mW w cy f v s nu) (st' := [.int (s (19 + 9 * ((dNe s n).toNatClampNeg) + 6)), .int (s (19 + 9 * (n) + 6))]) zc_X9_of (132) (show 132 < w.1 by rw [hw]; omega) mW_132 (q9 := _) rfl rfl (k_of (k := (dNe s n).toNatClampNeg) (i := 6) hw hb9 rfl (by omega) (by omega)) ⟨Nat.le_of_ble_eq_true rfl, Nat.le_of_ble_eq_true rfl⟩ ⟨Nat.le_refl _, Nat.le_refl _⟩ rfl (Nat.le_of_ble_eq_true rfl) zm_4_12 rfl dX9_nextMule_69 rfl ?_
            refine zr_icmp_ge X (tgt := 79) dX9_nextMule_72 (by decide) (fun h9 => ?_) (fun h10 => ?_)
            · refine zr_iconst X (v := 0) dX9_nextMule_79 (by decide) ?_
              refine zr_istore_n X (ls' := [(3, .int (0)), (0, .ref (w.2 (132))), (1, .int (dNe s (n))), (2, .int (nI (n)))]) dX9_nextMule_80 rfl (by decide) rfl ?_
              refine zr_iload_n X 0 dX9_nextMule_81 rfl rfl ?_
              refine zr_if_eq X (tgt := 89) dX9_nextMule_82 (by decide) (fun _ => ?_) (fun h => absurd rfl h)
              refine zr_iload_n X 2 dX9_nextMule_89 rfl rfl ?_
              refine zr_istore_n X (ls' := [(1, .int (dNe s (n))), (3, .int (0)), (0, .ref (w.2 (132))), (2, .int (nI (n)))]) dX9_nextMule_90 rfl (by decide) rfl ?_
              refine zr_iinc X (v := nI (n + 1)) (ls' := [(2, .int (nI (n + 1))), (1, .int (dNe s (n))), (3, .int (0)), (0, .ref (w.2 (132)))]) 3 dX9_nextMule_91 rfl (zinc1 _) (by decide) rfl ?_
              refine zr_goto X (tgt := 5) dX9_nextMule_94 (by decide) ?_
              refine zr_loc X (ls' := [(0, .ref (w.2 (132))), (1, .int (dNe s (n))), (2, .int (nI (n + 1)))]) [3, 1, 0] rfl ?_
              exact zcast (f2 := mW w cy f v s nu) (ls2 := [(0, .ref (w.2 (132))), (1, .int (dNe s (n + 1))), (2, .int (nI (n + 1)))]) rfl (by rw [dNe_s]; unfold dNeS; rw [if_pos h2, if_neg h4, if_neg h6, if_pos h8, if_pos h9]) ih5
            · refine zr_iconst X (v := 1) dX9_nextMule_75 (by decide) ?_
              refine zr_goto X (tgt := 80) dX9_nextMule_76 (by decide) ?_
              refine zr_istore_n X (ls' := [(3, .int (1)), (0, .ref (w.2 (132))), (1, .int (dNe s (n))), (2, .int (nI (n)))]) dX9_nextMule_80 rfl (by decide) rfl ?_
              refine zr_iload_n X 0 dX9_nextMule_81 rfl rfl ?_
              refine zr_if_eq X (tgt := 89) dX9_nextMule_82 (by decide) (fun h => absurd h (by decide)) (fun _ => ?_)
              refine zr_iload_n X 3 dX9_nextMule_85 rfl rfl ?_
              refine zr_goto X (tgt := 90) dX9_nextMule_86 (by decide) ?_
              refine zr_istore_n X (ls' := [(1, .int (nI (n))), (3, .int (1)), (0, .ref (w.2 (132))), (2, .int (nI (n)))]) dX9_nextMule_90 rfl (by decide) rfl ?_
              refine zr_iinc X (v := nI (n + 1)) (ls' := [(2, .int (nI (n + 1))), (1, .int (nI (n))), (3, .int (1)), (0, .ref (w.2 (132)))]) 3 dX9_nextMule_91 rfl (zinc1 _) (by decide) rfl ?_
              refine zr_goto X (tgt := 5) dX9_nextMule_94 (by decide) ?_
              refine zr_loc X (ls' := [(0, .ref (w.2 (132))), (1, .int (nI (n))), (2, .int (nI (n + 1)))]) [3, 1, 0] rfl ?_
              exact zcast (f2 := mW w cy f v s nu) (ls2 := [(0, .ref (w.2 (132))), (1, .int (dNe s (n + 1))), (2, .int (nI (n + 1)))]) rfl (by rw [dNe_s]; unfold dNeS; rw [if_pos h2, if_neg h4, if_neg h6, if_pos h8, if_neg h10]) ih5
def dNext (s : Nat → Int32) (mc : Nat) (x : Int32) : Int32 := if zwin x 0 1 = 0 then (-1000001) else if dNe s mc < 0 then dNe s mc else if x = 0 then dNe s mc else zmin (if s 6 ≤ s 16 then (s 16 - s 6) / s 15 else 0) (s (19 + 9 * (dNe s mc).toNatClampNeg + 0))
set_option maxHeartbeats 4000000 in
set_option maxRecDepth 100000 in
theorem k_mnext {l : Launch} {D : va_G} {cy : Nat → ClassId} {w : zW} {f : zF} {v s nu : Nat → Int32} {mc : Nat} {x : Int32} (hw : w.1 = 139) (hm : s 0 = nI mc) (hmc : mc ≤ 4) (h15 : ¬ s 15 = 0) : zSd l D cy yX9_next cX9_next 4 (some .int) 2 45 [.ref (w.2 (132)), .int (x)] w (mW w cy f v s nu) (some (.int (dNext s mc x))) (mW w cy f v s nu) := by
  refine zSd.intro (by decide) (Nat.le_of_ble_eq_true rfl) (fun G X E => ?_)
  show G (w, 0, 0) (mW w cy f v s nu) [(0, .ref (w.2 (132))), (1, .int (x))] 0 []
  refine zr_iload_n X 1 dX9_next_0 rfl rfl ?_
  refine zr_iconst X (v := 0) dX9_next_1 (by decide) ?_
  refine zr_iconst X (v := 1) dX9_next_2 (by decide) ?_
  refine zr_cS X (As := [.int (x), .int (0), .int (1)]) (rest := []) (f' := mW w cy f v s nu) (st' := [.int (zwin x 0 1)]) zc_X9_in k_in ⟨Nat.le_of_ble_eq_true rfl, Nat.le_of_ble_eq_true rfl⟩ ⟨Nat.le_refl _, Nat.le_refl _⟩ rfl (Nat.le_of_ble_eq_true rfl) zm_3_227 rfl dX9_next_3 rfl ?_
  refine zr_if_ne X (tgt := 12) dX9_next_6 (by decide) (fun h1 => ?_) (fun h2 => ?_)
  · refine zr_aload_n X 0 dX9_next_12 rfl rfl ?_
    refine zr_cV X (As := []) (rest := []) (f' := mW w cy f v s nu) (st' := [.int (dNe s mc)]) zc_X9_nextMule (132) (show 132 < w.1 by rw [hw]; omega) mW_132 (q9 := _) rfl rfl (k_nextMule hw hm hmc) ⟨Nat.le_of_ble_eq_true rfl, Nat.le_of_ble_eq_true rfl⟩ ⟨Nat.le_refl _, Nat.le_refl _⟩ rfl (Nat.le_of_ble_eq_true rfl) zm_4_142 rfl dX9_next_13 rfl ?_
    refine zr_istore_n X (ls' := [(2, .int (dNe s mc)), (0, .ref (w.2 (132))), (1, .int (x))]) dX9_next_16 rfl (by decide) rfl ?_
    refine zr_iload_n X 0 dX9_next_17 rfl rfl ?_
    refine zr_if_lt X (tgt := 25) dX9_next_18 (by decide) (fun h3 => ?_) (fun h4 => ?_)
    · refine zr_iload_n X 0 dX9_next_25 rfl rfl ?_
      exact zret_i E rfl dX9_next_26 (by unfold dNext; rw [if_neg h1, if_pos h3]) rfl
    · refine zr_iload_n X 2 dX9_next_21 rfl rfl ?_
      refine zr_if_ne X (tgt := 27) dX9_next_22 (by decide) (fun h5 => ?_) (fun h6 => ?_)
      · obtain ⟨hb9, hb8⟩ := dNe_k hmc h4
        refine zr_aload_n X 1 dX9_next_27 rfl rfl ?_
        refine zr_get X zfd_RX9_7 (132) (show 132 < w.1 by rw [hw]; omega) mW_132 (v := .ref (w.2 (133))) rfl dX9_next_28 ?_
        refine zr_bipush X (v := 6) dX9_next_31 (by decide) ?_
        refine zr_iald X (133) (show 133 < w.1 by rw [hw]; omega) mW_133 (6) (rfl) (by decide) (by decide) dX9_next_33 ?_
        refine zr_aload_n X 1 dX9_next_34 rfl rfl ?_
        refine zr_get X zfd_RX9_7 (132) (show 132 < w.1 by rw [hw]; omega) mW_132 (v := .ref (w.2 (133))) rfl dX9_next_35 ?_
        refine zr_bipush X (v := 16) dX9_next_38 (by decide) ?_
        refine zr_iald X (133) (show 133 < w.1 by rw [hw]; omega) mW_133 (16) (rfl) (by decide) (by decide) dX9_next_40 ?_
        refine zr_icmp_le X (tgt := 48) dX9_next_41 (by decide) (fun h7 => ?_) (fun h8 => ?_)
        · refine zr_aload_n X 1 dX9_next_48 rfl rfl ?_
          refine zr_get X zfd_RX9_7 (132) (show 132 < w.1 by rw [hw]; omega) mW_132 (v := .ref (w.2 (133))) rfl dX9_next_49 ?_
          refine zr_bipush X (v := 16) dX9_next_52 (by decide) ?_
          refine zr_iald X (133) (show 133 < w.1 by rw [hw]; omega) mW_133 (16) (rfl) (by decide) (by decide) dX9_next_54 ?_
          refine zr_aload_n X 1 dX9_next_55 rfl rfl ?_
          refine zr_get X zfd_RX9_7 (132) (show 132 < w.1 by rw [hw]; omega) mW_132 (v := .ref (w.2 (133))) rfl dX9_next_56 ?_
          refine zr_bipush X (v := 6) dX9_next_59 (by decide) ?_
          refine zr_iald X (133) (show 133 < w.1 by rw [hw]; omega) mW_133 (6) (rfl) (by decide) (by decide) dX9_next_61 ?_
          refine zr_isub X dX9_next_62 ?_
          refine zr_aload_n X 1 dX9_next_63 rfl rfl ?_
          refine zr_get X zfd_RX9_7 (132) (show 132 < w.1 by rw [hw]; omega) mW_132 (v := .ref (w.2 (133))) rfl dX9_next_64 ?_
          refine zr_bipush X (v := 15) dX9_next_67 (by decide) ?_
          refine zr_iald X (133) (show 133 < w.1 by rw [hw]; omega) mW_133 (15) (rfl) (by decide) (by decide) dX9_next_69 ?_
          refine zr_idiv X dX9_next_70 (h15) ?_
          refine zr_istore_n X (ls' := [(3, .int (((s 16) - (s 6)) / (s 15))), (2, .int (dNe s mc)), (0, .ref (w.2 (132))), (1, .int (x))]) dX9_next_71 rfl (by decide) rfl ?_
          refine zr_iload_n X 0 dX9_next_72 rfl rfl ?_
          refine zr_aload_n X 2 dX9_next_73 rfl rfl ?_
          refine zr_iload_n X 1 dX9_next_74 rfl rfl ?_
          refine zr_iconst X (v := 0) dX9_next_75 (by decide) ?_
          refine zr_cV X (As := [.int (dNe s mc), .int (0)]) (rest := [.int (((s 16) - (s 6)) / (s 15))]) (f' := mW w cy f v s nu) (st' := [.int (s (19 + 9 * ((dNe s mc).toNatClampNeg) + 0)), .int (((s 16) - (s 6)) / (s 15))]) zc_X9_of (132) (show 132 < w.1 by rw [hw]; omega) mW_132 (q9 := _) rfl rfl (k_of (k := (dNe s mc).toNatClampNeg) (i := 0) hw hb9 rfl (by omega) (by omega)) ⟨Nat.le_of_ble_eq_true rfl, Nat.le_of_ble_eq_true rfl⟩ ⟨Nat.le_refl _, Nat.le_refl _⟩ rfl (Nat.le_of_ble_eq_true rfl) zm_4_12 rfl dX9_next_76 rfl ?_
          refine zr_cS X (As := [.int (((s 16) - (s 6)) / (s 15)), .int (s (19 + 9 * ((dNe s mc).toNatClampNeg) + 0))]) (rest := []) (f' := mW w cy f v s nu) (st' := [.int (zmin (((s 16) - (s 6)) / (s 15)) (s (19 + 9 * ((dNe s mc).toNatClampNeg) + 0)))]) zc_X9_lesser k_lesser ⟨Nat.le_of_ble_eq_true rfl, Nat.le_of_ble_eq_true rfl⟩ ⟨Nat.le_refl _, Nat.le_refl _⟩ rfl (Nat.le_of_ble_eq_true rfl) zm_4_74 rfl dX9_next_79 rfl ?_
          exact zret_i E rfl dX9_next_82 (by unfold dNext; rw [if_neg h1, if_neg h4, if_neg h5, if_pos h7]) rfl
        · refine zr_iconst X (v := 0) dX9_next_44 (by decide) ?_
          refine zr_goto X (tgt := 71) dX9_next_45 (by decide) ?_
          refine zr_istore_n X (ls' := [(3, .int (0)), (2, .int (dNe s mc)), (0, .ref (w.2 (132))), (1, .int (x))]) dX9_next_71 rfl (by decide) rfl ?_
          refine zr_iload_n X 0 dX9_next_72 rfl rfl ?_
          refine zr_aload_n X 2 dX9_next_73 rfl rfl ?_
          refine zr_iload_n X 1 dX9_next_74 rfl rfl ?_
          refine zr_iconst X (v := 0) dX9_next_75 (by decide) ?_
          refine zr_cV X (As := [.int (dNe s mc), .int (0)]) (rest := [.int (0)]) (f' := mW w cy f v s nu) (st' := [.int (s (19 + 9 * ((dNe s mc).toNatClampNeg) + 0)), .int (0)]) zc_X9_of (132) (show 132 < w.1 by rw [hw]; omega) mW_132 (q9 := _) rfl rfl (k_of (k := (dNe s mc).toNatClampNeg) (i := 0) hw hb9 rfl (by omega) (by omega)) ⟨Nat.le_of_ble_eq_true rfl, Nat.le_of_ble_eq_true rfl⟩ ⟨Nat.le_refl _, Nat.le_refl _⟩ rfl (Nat.le_of_ble_eq_true rfl) zm_4_12 rfl dX9_next_76 rfl ?_
          refine zr_cS X (As := [.int (0), .int (s (19 + 9 * ((dNe s mc).toNatClampNeg) + 0))]) (rest := []) (f' := mW w cy f v s nu) (st' := [.int (zmin 0 (s (19 + 9 * ((dNe s mc).toNatClampNeg) + 0)))]) zc_X9_lesser k_lesser ⟨Nat.le_of_ble_eq_true rfl, Nat.le_of_ble_eq_true rfl⟩ ⟨Nat.le_refl _, Nat.le_refl _⟩ rfl (Nat.le_of_ble_eq_true rfl) zm_4_74 rfl dX9_next_79 rfl ?_
          exact zret_i E rfl dX9_next_82 (by unfold dNext; rw [if_neg h1, if_neg h4, if_neg h5, if_neg h8]) rfl
      · refine zr_iload_n X 0 dX9_next_25 rfl rfl ?_
        exact zret_i E rfl dX9_next_26 (by unfold dNext; rw [if_neg h1, if_neg h4, if_pos h6]) rfl
  · refine zr_ldc X zm_3_230 dX9_next_9 ?_
    exact zret_i E rfl dX9_next_11 (by unfold dNext; rw [if_pos h2]) rfl
def dWoV (s T t : Nat → Int32) (y : Int32) : Int32 := if y = 0 then t 8 - s 8 else if y = 1 then t 5 else if y = 2 then dLF t 0 21 else ((t 9 + t 10) - (dCp T s 136) 9) - (dCp T s 136) 10
def dWould (s T : Nat → Int32) (x y : Int32) : Int32 := if zwin x 1 60 = 0 then (-1000001) else if zwin y 0 3 = 0 then (-1000001) else dWoV s T (dEN s x.toNatClampNeg) y
def dWoB (x y : Int32) : Prop := zwin x 1 60 = 0 ∨ zwin y 0 3 = 0
/-- what would leaves behind: the row, and the row that was put aside -/
def zWo (w : zW) (cy : Nat → ClassId) (f : zF) (v s nu : Nat → Int32) (r : Int32) : Option Value → zF → Prop := fun r9 g => r9 = some (.int r) ∧ ∃ T s', (∀ i, i < 136 → s' i = s i) ∧ g = mW w cy (va_up f 136 (eInts cy 136 T)) v s' nu
set_option maxHeartbeats 4000000 in
set_option maxRecDepth 100000 in
theorem k_mwould {l : Launch} {D : va_G} {cy : Nat → ClassId} {w : zW} {f : zF} {v s nu : Nat → Int32} {T : Nat → Int32} {x y : Int32} (hw : w.1 = 139) (h6 : f 136 = eInts cy 136 T) (hG : ¬ zwin x 1 60 = 0 → ∀ i, i < x.toNatClampNeg → dGood (dEN s i)) : zSp l D cy yX9_would cX9_would 5 (some .int) 6 136 [.ref (w.2 (132)), .int (x), .int (y)] w (mW w cy f v s nu) (zWo w cy f v s nu (dWould s T x y)) := by
  refine zSp.intro (by decide) (Nat.le_of_ble_eq_true rfl) (fun G X E => ?_)
  show G (w, 0, 0) (mW w cy f v s nu) [(0, .ref (w.2 (132))), (1, .int (x)), (2, .int (y))] 0 []
  refine zr_iload_n X 1 dX9_would_0 rfl rfl ?_
  refine zr_iconst X (v := 1) dX9_would_1 (by decide) ?_
  refine zr_bipush X (v := 60) dX9_would_2 (by decide) ?_
  refine zr_cS X (As := [.int (x), .int (1), .int (60)]) (rest := []) (f' := mW w cy f v s nu) (st' := [.int (zwin x 1 60)]) zc_X9_in k_in ⟨Nat.le_of_ble_eq_true rfl, Nat.le_of_ble_eq_true rfl⟩ ⟨Nat.le_refl _, Nat.le_refl _⟩ rfl (Nat.le_of_ble_eq_true rfl) zm_3_227 rfl dX9_would_4 rfl ?_
  refine zr_if_eq X (tgt := 19) dX9_would_7 (by decide) (fun h1 => ?_) (fun h2 => ?_)
  · refine zr_ldc X zm_3_230 dX9_would_19 ?_
    exact zretp_i E rfl dX9_would_21 ⟨congrArg (fun z => some (Value.int z)) (by unfold dWould; rw [if_pos h1]), T, s, fun _ _ => rfl, congrArg (fun z => mW w cy z v s nu) (zsame_up h6 rfl)⟩
  · refine zr_iload_n X 2 dX9_would_10 rfl rfl ?_
    refine zr_iconst X (v := 0) dX9_would_11 (by decide) ?_
    refine zr_iconst X (v := 3) dX9_would_12 (by decide) ?_
    refine zr_cS X (As := [.int (y), .int (0), .int (3)]) (rest := []) (f' := mW w cy f v s nu) (st' := [.int (zwin y 0 3)]) zc_X9_in k_in ⟨Nat.le_of_ble_eq_true rfl, Nat.le_of_ble_eq_true rfl⟩ ⟨Nat.le_refl _, Nat.le_refl _⟩ rfl (Nat.le_of_ble_eq_true rfl) zm_3_227 rfl dX9_would_13 rfl ?_
    refine zr_if_ne X (tgt := 22) dX9_would_16 (by decide) (fun h3 => ?_) (fun h4 => ?_)
    · have hx9 := zix1 (zwin_nn h2 (by decide))
      have hx8 := hG h2
      refine zr_aload_n X 0 dX9_would_22 rfl rfl ?_
      refine zr_get X zfd_RX9_7 (132) (show 132 < w.1 by rw [hw]; omega) mW_132 (v := .ref (w.2 (133))) rfl dX9_would_23 ?_
      refine zr_aload_n X 0 dX9_would_26 rfl rfl ?_
      refine zr_get X zfd_RX9_19 (132) (show 132 < w.1 by rw [hw]; omega) mW_132 (v := .ref (w.2 (136))) rfl dX9_would_27 ?_
      refine zr_cS X (As := [.ref (w.2 (133)), .ref (w.2 (136))]) (rest := []) (f' := va_up (mW w cy f v s nu) (136) (eInts cy 136 (dCp T s 136))) (st' := []) zc_X9_copies (k_copies (t := 133) (u := 136) (show 133 < w.1 by rw [hw]; omega) (show 136 < w.1 by rw [hw]; omega) mW_133 ((mW_out (by decide) (by decide) (by decide)).trans h6) (by decide)) ⟨Nat.le_of_ble_eq_true rfl, Nat.le_of_ble_eq_true rfl⟩ ⟨Nat.le_refl _, Nat.le_refl _⟩ rfl (Nat.le_of_ble_eq_true rfl) zm_4_135 rfl dX9_would_30 rfl ?_
      refine zcw (f2 := mW w cy (va_up f (136) (eInts cy 136 (dCp T s 136))) v s nu) (mu_out (by decide) (by decide) (by decide)) ?_
      refine zr_aload_n X 0 dX9_would_33 rfl rfl ?_
      refine zr_iload_n X 1 dX9_would_34 rfl rfl ?_
      refine zr_cV X (As := [.int (x)]) (rest := []) (f' := mW w cy (va_up f (136) (eInts cy 136 (dCp T s 136))) v (dEN s x.toNatClampNeg) nu) (st' := [.int ((dEN s x.toNatClampNeg) 8 - s 8)]) zc_X9_endsFor (132) (show 132 < w.1 by rw [hw]; omega) mW_132 (q9 := _) rfl rfl (k_endsFor hw hx9 (zlt31 _) hx8) ⟨Nat.le_of_ble_eq_true rfl, Nat.le_of_ble_eq_true rfl⟩ ⟨Nat.le_refl _, Nat.le_refl _⟩ rfl (Nat.le_of_ble_eq_true rfl) zm_4_50 rfl dX9_would_35 rfl ?_
      refine zr_istore_n X (ls' := [(3, .int ((dEN s x.toNatClampNeg) 8 - s 8)), (0, .ref (w.2 (132))), (1, .int (x)), (2, .int (y))]) dX9_would_38 rfl (by decide) rfl ?_
      refine zr_iload_n X 3 dX9_would_39 rfl rfl ?_
      refine zr_if_ne X (tgt := 47) dX9_would_40 (by decide) (fun h5 => ?_) (fun h6 => ?_)
      · refine zr_iload_n X 3 dX9_would_47 rfl rfl ?_
        refine zr_iconst X (v := 1) dX9_would_48 (by decide) ?_
        refine zr_icmp_ne X (tgt := 61) dX9_would_49 (by decide) (fun h7 => ?_) (fun h8 => ?_)
        · refine zr_iload_n X 3 dX9_would_61 rfl rfl ?_
          refine zr_iconst X (v := 2) dX9_would_62 (by decide) ?_
          refine zr_icmp_ne X (tgt := 73) dX9_would_63 (by decide) (fun h9 => ?_) (fun h10 => ?_)
          · refine zr_aload_n X 1 dX9_would_73 rfl rfl ?_
            refine zr_get X zfd_RX9_7 (132) (show 132 < w.1 by rw [hw]; omega) mW_132 (v := .ref (w.2 (133))) rfl dX9_would_74 ?_
            refine zr_bipush X (v := 9) dX9_would_77 (by decide) ?_
            refine zr_iald X (133) (show 133 < w.1 by rw [hw]; omega) mW_133 (9) (rfl) (by decide) (by decide) dX9_would_79 ?_
            refine zr_aload_n X 1 dX9_would_80 rfl rfl ?_
            refine zr_get X zfd_RX9_7 (132) (show 132 < w.1 by rw [hw]; omega) mW_132 (v := .ref (w.2 (133))) rfl dX9_would_81 ?_
            refine zr_bipush X (v := 10) dX9_would_84 (by decide) ?_
            refine zr_iald X (133) (show 133 < w.1 by rw [hw]; omega) mW_133 (10) (rfl) (by decide) (by decide) dX9_would_86 ?_
            refine zr_iadd X dX9_would_87 ?_
            refine zr_aload_n X 1 dX9_would_88 rfl rfl ?_
            refine zr_get X zfd_RX9_19 (132) (show 132 < w.1 by rw [hw]; omega) mW_132 (v := .ref (w.2 (136))) rfl dX9_would_89 ?_
            refine zr_bipush X (v := 9) dX9_would_92 (by decide) ?_
            refine zr_iald X (136) (show 136 < w.1 by rw [hw]; omega) ((mW_out (by decide) (by decide) (by decide)).trans (va_up_self _ _ _)) (9) (rfl) (by decide) (by decide) dX9_would_94 ?_
            refine zr_isub X dX9_would_95 ?_
            refine zr_aload_n X 1 dX9_would_96 rfl rfl ?_
            refine zr_get X zfd_RX9_19 (132) (show 132 < w.1 by rw [hw]; omega) mW_132 (v := .ref (w.2 (136))) rfl dX9_would_97 ?_
            refine zr_bipush X (v := 10) dX9_would_100 (by decide) ?_
            refine zr_iald X (136) (show 136 < w.1 by rw [hw]; omega) ((mW_out (by decide) (by decide) (by decide)).trans (va_up_self _ _ _)) (10) (rfl) (by decide) (by decide) dX9_would_102 ?_
            refine zr_isub X dX9_would_103 ?_
            refine zr_istore X (ls' := [(4, .int (((((dEN s x.toNatClampNeg) 9) + ((dEN s x.toNatClampNeg) 10)) - ((dCp T s 136) 9)) - ((dCp T s 136) 10))), (3, .int ((dEN s x.toNatClampNeg) 8 - s 8)), (0, .ref (w.2 (132))), (1, .int (x)), (2, .int (y))]) dX9_would_104 (by decide) rfl ?_
            refine zr_aload_n X 2 dX9_would_106 rfl rfl ?_
            refine zr_get X zfd_RX9_19 (132) (show 132 < w.1 by rw [hw]; omega) mW_132 (v := .ref (w.2 (136))) rfl dX9_would_107 ?_
            refine zr_aload_n X 2 dX9_would_110 rfl rfl ?_
            refine zr_get X zfd_RX9_7 (132) (show 132 < w.1 by rw [hw]; omega) mW_132 (v := .ref (w.2 (133))) rfl dX9_would_111 ?_
            refine zr_cS X (As := [.ref (w.2 (136)), .ref (w.2 (133))]) (rest := []) (f' := va_up (mW w cy (va_up f (136) (eInts cy 136 (dCp T s 136))) v (dEN s x.toNatClampNeg) nu) (133) (eInts cy 136 (dCp (dEN s x.toNatClampNeg) (dCp T s 136) 136))) (st' := []) zc_X9_copies (k_copies (t := 136) (u := 133) (show 136 < w.1 by rw [hw]; omega) (show 133 < w.1 by rw [hw]; omega) ((mW_out (by decide) (by decide) (by decide)).trans (va_up_self _ _ _)) mW_133 (by decide)) ⟨Nat.le_of_ble_eq_true rfl, Nat.le_of_ble_eq_true rfl⟩ ⟨Nat.le_refl _, Nat.le_refl _⟩ rfl (Nat.le_of_ble_eq_true rfl) zm_4_135 rfl dX9_would_114 rfl ?_
            refine zcw (f2 := mW w cy (va_up f (136) (eInts cy 136 (dCp T s 136))) v (dCp (dEN s x.toNatClampNeg) (dCp T s 136) 136) nu) mu_133 ?_
            refine zr_iload X 0 dX9_would_117 rfl ?_
            exact zretp_i E rfl dX9_would_119 ⟨congrArg (fun z => some (Value.int z)) (by unfold dWould dWoV; rw [if_neg h2, if_neg h3, if_neg h5, if_neg h7, if_neg h9]), _, _, fun i hi => (dCp_in 136 hi).trans (dCp_in 136 hi), rfl⟩
          · refine zr_aload_n X 1 dX9_would_66 rfl rfl ?_
            refine zr_cV X (As := []) (rest := []) (f' := mW w cy (va_up f (136) (eInts cy 136 (dCp T s 136))) v (dEN s x.toNatClampNeg) nu) (st' := [.int (dLF (dEN s x.toNatClampNeg) 0 21)]) zc_X9_allLoaves (132) (show 132 < w.1 by rw [hw]; omega) mW_132 (q9 := _) rfl rfl (k_allLoaves hw) ⟨Nat.le_of_ble_eq_true rfl, Nat.le_of_ble_eq_true rfl⟩ ⟨Nat.le_refl _, Nat.le_refl _⟩ rfl (Nat.le_of_ble_eq_true rfl) zm_4_66 rfl dX9_would_67 rfl ?_
            refine zr_goto X (tgt := 104) dX9_would_70 (by decide) ?_
            refine zr_istore X (ls' := [(4, .int (dLF (dEN s x.toNatClampNeg) 0 21)), (3, .int ((dEN s x.toNatClampNeg) 8 - s 8)), (0, .ref (w.2 (132))), (1, .int (x)), (2, .int (y))]) dX9_would_104 (by decide) rfl ?_
            refine zr_aload_n X 2 dX9_would_106 rfl rfl ?_
            refine zr_get X zfd_RX9_19 (132) (show 132 < w.1 by rw [hw]; omega) mW_132 (v := .ref (w.2 (136))) rfl dX9_would_107 ?_
            refine zr_aload_n X 2 dX9_would_110 rfl rfl ?_
            refine zr_get X zfd_RX9_7 (132) (show 132 < w.1 by rw [hw]; omega) mW_132 (v := .ref (w.2 (133))) rfl dX9_would_111 ?_
            refine zr_cS X (As := [.ref (w.2 (136)), .ref (w.2 (133))]) (rest := []) (f' := va_up (mW w cy (va_up f (136) (eInts cy 136 (dCp T s 136))) v (dEN s x.toNatClampNeg) nu) (133) (eInts cy 136 (dCp (dEN s x.toNatClampNeg) (dCp T s 136) 136))) (st' := []) zc_X9_copies (k_copies (t := 136) (u := 133) (show 136 < w.1 by rw [hw]; omega) (show 133 < w.1 by rw [hw]; omega) ((mW_out (by decide) (by decide) (by decide)).trans (va_up_self _ _ _)) mW_133 (by decide)) ⟨Nat.le_of_ble_eq_true rfl, Nat.le_of_ble_eq_true rfl⟩ ⟨Nat.le_refl _, Nat.le_refl _⟩ rfl (Nat.le_of_ble_eq_true rfl) zm_4_135 rfl dX9_would_114 rfl ?_
            refine zcw (f2 := mW w cy (va_up f (136) (eInts cy 136 (dCp T s 136))) v (dCp (dEN s x.toNatClampNeg) (dCp T s 136) 136) nu) mu_133 ?_
            refine zr_iload X 0 dX9_would_117 rfl ?_
            exact zretp_i E rfl dX9_would_119 ⟨congrArg (fun z => some (Value.int z)) (by unfold dWould dWoV; rw [if_neg h2, if_neg h3, if_neg h5, if_neg h7, if_pos h10]), _, _, fun i hi => (dCp_in 136 hi).trans (dCp_in 136 hi), rfl⟩
        · refine zr_aload_n X 1 dX9_would_52 rfl rfl ?_
          refine zr_get X zfd_RX9_7 (132) (show 132 < w.1 by rw [hw]; omega) mW_132 (v := .ref (w.2 (133))) rfl dX9_would_53 ?_
          refine zr_iconst X (v := 5) dX9_would_56 (by decide) ?_
          refine zr_iald X (133) (show 133 < w.1 by rw [hw]; omega) mW_133 (5) (rfl) (by decide) (by decide) dX9_would_57 ?_
          refine zr_goto X (tgt := 104) dX9_would_58 (by decide) ?_
          refine zr_istore X (ls' := [(4, .int ((dEN s x.toNatClampNeg) 5)), (3, .int ((dEN s x.toNatClampNeg) 8 - s 8)), (0, .ref (w.2 (132))), (1, .int (x)), (2, .int (y))]) dX9_would_104 (by decide) rfl ?_
          refine zr_aload_n X 2 dX9_would_106 rfl rfl ?_
          refine zr_get X zfd_RX9_19 (132) (show 132 < w.1 by rw [hw]; omega) mW_132 (v := .ref (w.2 (136))) rfl dX9_would_107 ?_
          refine zr_aload_n X 2 dX9_would_110 rfl rfl ?_
          refine zr_get X zfd_RX9_7 (132) (show 132 < w.1 by rw [hw]; omega) mW_132 (v := .ref (w.2 (133))) rfl dX9_would_111 ?_
          refine zr_cS X (As := [.ref (w.2 (136)), .ref (w.2 (133))]) (rest := []) (f' := va_up (mW w cy (va_up f (136) (eInts cy 136 (dCp T s 136))) v (dEN s x.toNatClampNeg) nu) (133) (eInts cy 136 (dCp (dEN s x.toNatClampNeg) (dCp T s 136) 136))) (st' := []) zc_X9_copies (k_copies (t := 136) (u := 133) (show 136 < w.1 by rw [hw]; omega) (show 133 < w.1 by rw [hw]; omega) ((mW_out (by decide) (by decide) (by decide)).trans (va_up_self _ _ _)) mW_133 (by decide)) ⟨Nat.le_of_ble_eq_true rfl, Nat.le_of_ble_eq_true rfl⟩ ⟨Nat.le_refl _, Nat.le_refl _⟩ rfl (Nat.le_of_ble_eq_true rfl) zm_4_135 rfl dX9_would_114 rfl ?_
          refine zcw (f2 := mW w cy (va_up f (136) (eInts cy 136 (dCp T s 136))) v (dCp (dEN s x.toNatClampNeg) (dCp T s 136) 136) nu) mu_133 ?_
          refine zr_iload X 0 dX9_would_117 rfl ?_
          exact zretp_i E rfl dX9_would_119 ⟨congrArg (fun z => some (Value.int z)) (by unfold dWould dWoV; rw [if_neg h2, if_neg h3, if_neg h5, if_pos h8]), _, _, fun i hi => (dCp_in 136 hi).trans (dCp_in 136 hi), rfl⟩
      · refine zr_iload_n X 0 dX9_would_43 rfl rfl ?_
        refine zr_goto X (tgt := 104) dX9_would_44 (by decide) ?_
        refine zr_istore X (ls' := [(4, .int ((dEN s x.toNatClampNeg) 8 - s 8)), (3, .int ((dEN s x.toNatClampNeg) 8 - s 8)), (0, .ref (w.2 (132))), (1, .int (x)), (2, .int (y))]) dX9_would_104 (by decide) rfl ?_
        refine zr_aload_n X 2 dX9_would_106 rfl rfl ?_
        refine zr_get X zfd_RX9_19 (132) (show 132 < w.1 by rw [hw]; omega) mW_132 (v := .ref (w.2 (136))) rfl dX9_would_107 ?_
        refine zr_aload_n X 2 dX9_would_110 rfl rfl ?_
        refine zr_get X zfd_RX9_7 (132) (show 132 < w.1 by rw [hw]; omega) mW_132 (v := .ref (w.2 (133))) rfl dX9_would_111 ?_
        refine zr_cS X (As := [.ref (w.2 (136)), .ref (w.2 (133))]) (rest := []) (f' := va_up (mW w cy (va_up f (136) (eInts cy 136 (dCp T s 136))) v (dEN s x.toNatClampNeg) nu) (133) (eInts cy 136 (dCp (dEN s x.toNatClampNeg) (dCp T s 136) 136))) (st' := []) zc_X9_copies (k_copies (t := 136) (u := 133) (show 136 < w.1 by rw [hw]; omega) (show 133 < w.1 by rw [hw]; omega) ((mW_out (by decide) (by decide) (by decide)).trans (va_up_self _ _ _)) mW_133 (by decide)) ⟨Nat.le_of_ble_eq_true rfl, Nat.le_of_ble_eq_true rfl⟩ ⟨Nat.le_refl _, Nat.le_refl _⟩ rfl (Nat.le_of_ble_eq_true rfl) zm_4_135 rfl dX9_would_114 rfl ?_
        refine zcw (f2 := mW w cy (va_up f (136) (eInts cy 136 (dCp T s 136))) v (dCp (dEN s x.toNatClampNeg) (dCp T s 136) 136) nu) mu_133 ?_
        refine zr_iload X 0 dX9_would_117 rfl ?_
        exact zretp_i E rfl dX9_would_119 ⟨congrArg (fun z => some (Value.int z)) (by unfold dWould dWoV; rw [if_neg h2, if_neg h3, if_pos h6]), _, _, fun i hi => (dCp_in 136 hi).trans (dCp_in 136 hi), rfl⟩
    · refine zr_ldc X zm_3_230 dX9_would_19 ?_
      exact zretp_i E rfl dX9_would_21 ⟨congrArg (fun z => some (Value.int z)) (by unfold dWould; rw [if_neg h2, if_pos h4]), T, s, fun _ _ => rfl, congrArg (fun z => mW w cy z v s nu) (zsame_up h6 rfl)⟩
def dOt (s : Nat → Int32) (n : Nat) : Int32 := zfold (fun k m => m + s (19 + 9 * k + 4)) 0 n
set_option maxHeartbeats 4000000 in
set_option maxRecDepth 100000 in
theorem k_onTheWay {l : Launch} {D : va_G} {cy : Nat → ClassId} {w : zW} {f : zF} {v s nu : Nat → Int32} {mc : Nat} (hw : w.1 = 139) (hm : s 0 = nI mc) (hmc : mc ≤ 4) : zSd l D cy yX9_onTheWay cX9_onTheWay 3 (some .int) 1 22 [.ref (w.2 (132))] w (mW w cy f v s nu) (some (.int (dOt s mc))) (mW w cy f v s nu) := by
  refine zSd.intro (by decide) (Nat.le_of_ble_eq_true rfl) (fun G X E => ?_)
  show G (w, 0, 0) (mW w cy f v s nu) [(0, .ref (w.2 (132)))] 0 []
  refine zr_iconst X (v := 0) dX9_onTheWay_0 (by decide) ?_
  refine zr_istore_n X (ls' := [(1, .int (0)), (0, .ref (w.2 (132)))]) dX9_onTheWay_1 rfl (by decide) rfl ?_
  refine zr_iconst X (v := 0) dX9_onTheWay_2 (by decide) ?_
  refine zr_istore_n X (ls' := [(2, .int (0)), (1, .int (0)), (0, .ref (w.2 (132)))]) dX9_onTheWay_3 rfl (by decide) rfl ?_
  refine zr_loc X (ls' := [(0, .ref (w.2 (132))), (1, .int (0)), (2, .int (0))]) [2, 1, 0] rfl ?_
  refine zcast (f2 := mW w cy f v s nu) (ls2 := [(0, .ref (w.2 (132))), (1, .int (dOt s (0))), (2, .int (nI (0)))]) rfl rfl ?_
  refine zdown (P := fun n => G (w, 0, 0) (mW w cy f v s nu) [(0, .ref (w.2 (132))), (1, .int (dOt s (n))), (2, .int (nI (n)))] 4 []) (B := mc) ?_ (fun n hn4 ih4 => ?_) 0 (Nat.zero_le _) 
  · show G (w, 0, 0) (mW w cy f v s nu) [(0, .ref (w.2 (132))), (1, .int (dOt s (mc))), (2, .int (nI (mc)))] 4 []
    refine zr_iload_n X 2 dX9_onTheWay_4 rfl rfl ?_
    refine zr_aload_n X 0 dX9_onTheWay_5 rfl rfl ?_
    refine zr_get X zfd_RX9_7 (132) (show 132 < w.1 by rw [hw]; omega) mW_132 (v := .ref (w.2 (133))) rfl dX9_onTheWay_6 ?_
    refine zr_iconst X (v := 0) dX9_onTheWay_9 (by decide) ?_
    refine zr_iald X (133) (show 133 < w.1 by rw [hw]; omega) mW_133 (0) (rfl) (by decide) (by decide) dX9_onTheWay_10 ?_
    refine zr_icmp_ge X (tgt := 29) dX9_onTheWay_11 (by decide) (fun _ => ?_) (fun h => False.elim (h (by rw [hm]; exact Int32.le_refl _)))
    refine zr_iload_n X 1 dX9_onTheWay_29 rfl rfl ?_
    exact zret_i E rfl dX9_onTheWay_30 (by simp only []) rfl
  · show G (w, 0, 0) (mW w cy f v s nu) [(0, .ref (w.2 (132))), (1, .int (dOt s (n))), (2, .int (nI (n)))] 4 []
    refine zr_iload_n X 2 dX9_onTheWay_4 rfl rfl ?_
    refine zr_aload_n X 0 dX9_onTheWay_5 rfl rfl ?_
    refine zr_get X zfd_RX9_7 (132) (show 132 < w.1 by rw [hw]; omega) mW_132 (v := .ref (w.2 (133))) rfl dX9_onTheWay_6 ?_
    refine zr_iconst X (v := 0) dX9_onTheWay_9 (by decide) ?_
    refine zr_iald X (133) (show 133 < w.1 by rw [hw]; omega) mW_133 (0) (rfl) (by decide) (by decide) dX9_onTheWay_10 ?_
    refine zr_icmp_ge X (tgt := 29) dX9_onTheWay_11 (by decide) (fun h => False.elim (nI_ge hn4 (by omega) (by rw [← hm]; exact h))) (fun _ => ?_)
    refine zr_iload_n X 1 dX9_onTheWay_14 rfl rfl ?_
    refine zr_aload_n X 0 dX9_onTheWay_15 rfl rfl ?_
    refine zr_iload_n X 2 dX9_onTheWay_16 rfl rfl ?_
    refine zr_iconst X (v := 4) dX9_onTheWay_17 (by decide) ?_
    refine zr_cV X (As := [.int (nI (n)), .int (4)]) (rest := [.int (dOt s (n))]) (f' := mW w cy f v s nu) (st' := [.int (s (19 + 9 * (n) + 4)), .int (dOt s (n))]) zc_X9_of (132) (show 132 < w.1 by rw [hw]; omega) mW_132 (q9 := _) rfl rfl (k_of (k := (n)) (i := 4) hw rfl rfl (by omega) (by omega)) ⟨Nat.le_of_ble_eq_true rfl, Nat.le_of_ble_eq_true rfl⟩ ⟨Nat.le_refl _, Nat.le_refl _⟩ rfl (Nat.le_of_ble_eq_true rfl) zm_4_12 rfl dX9_onTheWay_18 rfl ?_
    refine zr_iadd X dX9_onTheWay_21 ?_
    refine zr_istore_n X (ls' := [(1, .int ((dOt s (n)) + (s (19 + 9 * (n) + 4)))), (0, .ref (w.2 (132))), (2, .int (nI (n)))]) dX9_onTheWay_22 rfl (by decide) rfl ?_
    refine zr_iinc X (v := nI (n + 1)) (ls' := [(2, .int (nI (n + 1))), (1, .int ((dOt s (n)) + (s (19 + 9 * (n) + 4)))), (0, .ref (w.2 (132)))]) 2 dX9_onTheWay_23 rfl (zinc1 _) (by decide) rfl ?_
    refine zr_goto X (tgt := 4) dX9_onTheWay_26 (by decide) ?_
    refine zr_loc X (ls' := [(0, .ref (w.2 (132))), (1, .int ((dOt s (n)) + (s (19 + 9 * (n) + 4)))), (2, .int (nI (n + 1)))]) [2, 1, 0] rfl ?_
    exact zcast (f2 := mW w cy f v s nu) (ls2 := [(0, .ref (w.2 (132))), (1, .int (dOt s (n + 1))), (2, .int (nI (n + 1)))]) rfl rfl ih4
theorem zwin_ge {x lo hi : Int32} {n : Nat} (h : ¬ (zwin x lo hi) = 0) (h0 : 0 ≤ lo) (hn : lo = nI n) (h31 : n < 2147483648) : n ≤ x.toNatClampNeg := by
  obtain ⟨j, hj, e⟩ := nI_of (zwin_nn h h0)
  have h1 := (zwin_lo h).1
  rw [hn, e] at h1
  rw [e, nI_clamp hj]
  rcases Nat.lt_or_ge j n with q | q
  · exact absurd (nI_lt q h31) h1
  · exact q
theorem nI_sub {a b : Nat} (h : b ≤ a) (h2 : a < 2147483648) : nI a - nI b = nI (a - b) := by
  have e : nI a = nI (a - b) + nI b := by rw [nI_add, Nat.sub_add_cancel h]
  rw [e, Int32.add_sub_cancel]
def dCount (v s : Nat → Int32) (mc fr : Nat) (x : Int32) : Int32 := if x = 0 then s 0 else if x = 1 then s 1 else if x = 2 then s 2 else if x = 3 then s 3 else if x = 4 then s 4 else if x = 5 then s 5 else if x = 6 then s 6 else if x = 7 then dLF s 0 21 else if x = 8 then dLF s (fr + 1) (20 + 1 - (fr + 1)) else if x = 9 then dOt s mc else if x = 10 then s 7 else if x = 11 then s 8 else if x = 12 then s 9 else if x = 13 then s 10 else if x = 14 then s 11 else if x = 15 then s 12 else if x = 16 then s 13 else if x = 17 then s 14 else if x = 18 then v 0 else if x = 19 then v 2 else if zwin x 20 23 = 0 then (-1000001) else s (15 + x.toNatClampNeg - 20)
set_option maxHeartbeats 4000000 in
set_option maxRecDepth 100000 in
theorem k_mcount {l : Launch} {D : va_G} {cy : Nat → ClassId} {w : zW} {f : zF} {v s nu : Nat → Int32} {mc fr : Nat} {x : Int32} (hw : w.1 = 139) (hm : s 0 = nI mc) (hmc : mc ≤ 4) (hf : s 17 = nI fr) (hfr : fr ≤ 15) : zSd l D cy yX9_count cX9_count 2 (some .int) 2 44 [.ref (w.2 (132)), .int (x)] w (mW w cy f v s nu) (some (.int (dCount v s mc fr x))) (mW w cy f v s nu) := by
  refine zSd.intro (by decide) (Nat.le_of_ble_eq_true rfl) (fun G X E => ?_)
  show G (w, 0, 0) (mW w cy f v s nu) [(0, .ref (w.2 (132))), (1, .int (x))] 0 []
  refine zr_iload_n X 1 dX9_count_0 rfl rfl ?_
  by_cases h1 : x = 0
  · refine zr_tableIn X (off := 95) (tgt := 96) dX9_count_1 (by rw [h1]; decide) (by rw [h1]; decide) (by rw [h1]; decide) (by decide) ?_
    refine zr_aload_n X 0 dX9_count_96 rfl rfl ?_
    refine zr_get X zfd_RX9_7 (132) (show 132 < w.1 by rw [hw]; omega) mW_132 (v := .ref (w.2 (133))) rfl dX9_count_97 ?_
    refine zr_iload_n X 1 dX9_count_100 rfl rfl ?_
    refine zr_iald X (133) (show 133 < w.1 by rw [hw]; omega) mW_133 (0) (by rw [h1]; decide) (by decide) (by decide) dX9_count_101 ?_
    exact zret_i E rfl dX9_count_102 (by unfold dCount; rw [if_pos h1]) rfl
  by_cases h2 : x = 1
  · refine zr_tableIn X (off := 95) (tgt := 96) dX9_count_1 (by rw [h2]; decide) (by rw [h2]; decide) (by rw [h2]; decide) (by decide) ?_
    refine zr_aload_n X 0 dX9_count_96 rfl rfl ?_
    refine zr_get X zfd_RX9_7 (132) (show 132 < w.1 by rw [hw]; omega) mW_132 (v := .ref (w.2 (133))) rfl dX9_count_97 ?_
    refine zr_iload_n X 1 dX9_count_100 rfl rfl ?_
    refine zr_iald X (133) (show 133 < w.1 by rw [hw]; omega) mW_133 (1) (by rw [h2]; decide) (by decide) (by decide) dX9_count_101 ?_
    exact zret_i E rfl dX9_count_102 (by unfold dCount; rw [if_neg h1, if_pos h2]) rfl
  by_cases h3 : x = 2
  · refine zr_tableIn X (off := 95) (tgt := 96) dX9_count_1 (by rw [h3]; decide) (by rw [h3]; decide) (by rw [h3]; decide) (by decide) ?_
    refine zr_aload_n X 0 dX9_count_96 rfl rfl ?_
    refine zr_get X zfd_RX9_7 (132) (show 132 < w.1 by rw [hw]; omega) mW_132 (v := .ref (w.2 (133))) rfl dX9_count_97 ?_
    refine zr_iload_n X 1 dX9_count_100 rfl rfl ?_
    refine zr_iald X (133) (show 133 < w.1 by rw [hw]; omega) mW_133 (2) (by rw [h3]; decide) (by decide) (by decide) dX9_count_101 ?_
    exact zret_i E rfl dX9_count_102 (by unfold dCount; rw [if_neg h1, if_neg h2, if_pos h3]) rfl
  by_cases h4 : x = 3
  · refine zr_tableIn X (off := 95) (tgt := 96) dX9_count_1 (by rw [h4]; decide) (by rw [h4]; decide) (by rw [h4]; decide) (by decide) ?_
    refine zr_aload_n X 0 dX9_count_96 rfl rfl ?_
    refine zr_get X zfd_RX9_7 (132) (show 132 < w.1 by rw [hw]; omega) mW_132 (v := .ref (w.2 (133))) rfl dX9_count_97 ?_
    refine zr_iload_n X 1 dX9_count_100 rfl rfl ?_
    refine zr_iald X (133) (show 133 < w.1 by rw [hw]; omega) mW_133 (3) (by rw [h4]; decide) (by decide) (by decide) dX9_count_101 ?_
    exact zret_i E rfl dX9_count_102 (by unfold dCount; rw [if_neg h1, if_neg h2, if_neg h3, if_pos h4]) rfl
  by_cases h5 : x = 4
  · refine zr_tableIn X (off := 95) (tgt := 96) dX9_count_1 (by rw [h5]; decide) (by rw [h5]; decide) (by rw [h5]; decide) (by decide) ?_
    refine zr_aload_n X 0 dX9_count_96 rfl rfl ?_
    refine zr_get X zfd_RX9_7 (132) (show 132 < w.1 by rw [hw]; omega) mW_132 (v := .ref (w.2 (133))) rfl dX9_count_97 ?_
    refine zr_iload_n X 1 dX9_count_100 rfl rfl ?_
    refine zr_iald X (133) (show 133 < w.1 by rw [hw]; omega) mW_133 (4) (by rw [h5]; decide) (by decide) (by decide) dX9_count_101 ?_
    exact zret_i E rfl dX9_count_102 (by unfold dCount; rw [if_neg h1, if_neg h2, if_neg h3, if_neg h4, if_pos h5]) rfl
  by_cases h6 : x = 5
  · refine zr_tableIn X (off := 95) (tgt := 96) dX9_count_1 (by rw [h6]; decide) (by rw [h6]; decide) (by rw [h6]; decide) (by decide) ?_
    refine zr_aload_n X 0 dX9_count_96 rfl rfl ?_
    refine zr_get X zfd_RX9_7 (132) (show 132 < w.1 by rw [hw]; omega) mW_132 (v := .ref (w.2 (133))) rfl dX9_count_97 ?_
    refine zr_iload_n X 1 dX9_count_100 rfl rfl ?_
    refine zr_iald X (133) (show 133 < w.1 by rw [hw]; omega) mW_133 (5) (by rw [h6]; decide) (by decide) (by decide) dX9_count_101 ?_
    exact zret_i E rfl dX9_count_102 (by unfold dCount; rw [if_neg h1, if_neg h2, if_neg h3, if_neg h4, if_neg h5, if_pos h6]) rfl
  by_cases h7 : x = 6
  · refine zr_tableIn X (off := 95) (tgt := 96) dX9_count_1 (by rw [h7]; decide) (by rw [h7]; decide) (by rw [h7]; decide) (by decide) ?_
    refine zr_aload_n X 0 dX9_count_96 rfl rfl ?_
    refine zr_get X zfd_RX9_7 (132) (show 132 < w.1 by rw [hw]; omega) mW_132 (v := .ref (w.2 (133))) rfl dX9_count_97 ?_
    refine zr_iload_n X 1 dX9_count_100 rfl rfl ?_
    refine zr_iald X (133) (show 133 < w.1 by rw [hw]; omega) mW_133 (6) (by rw [h7]; decide) (by decide) (by decide) dX9_count_101 ?_
    exact zret_i E rfl dX9_count_102 (by unfold dCount; rw [if_neg h1, if_neg h2, if_neg h3, if_neg h4, if_neg h5, if_neg h6, if_pos h7]) rfl
  by_cases h8 : x = 7
  · refine zr_tableIn X (off := 102) (tgt := 103) dX9_count_1 (by rw [h8]; decide) (by rw [h8]; decide) (by rw [h8]; decide) (by decide) ?_
    refine zr_aload_n X 0 dX9_count_103 rfl rfl ?_
    refine zr_cV X (As := []) (rest := []) (f' := mW w cy f v s nu) (st' := [.int (dLF s 0 21)]) zc_X9_allLoaves (132) (show 132 < w.1 by rw [hw]; omega) mW_132 (q9 := _) rfl rfl (k_allLoaves hw) ⟨Nat.le_of_ble_eq_true rfl, Nat.le_of_ble_eq_true rfl⟩ ⟨Nat.le_refl _, Nat.le_refl _⟩ rfl (Nat.le_of_ble_eq_true rfl) zm_4_66 rfl dX9_count_104 rfl ?_
    exact zret_i E rfl dX9_count_107 (by unfold dCount; rw [if_neg h1, if_neg h2, if_neg h3, if_neg h4, if_neg h5, if_neg h6, if_neg h7, if_pos h8]) rfl
  by_cases h9 : x = 8
  · refine zr_tableIn X (off := 107) (tgt := 108) dX9_count_1 (by rw [h9]; decide) (by rw [h9]; decide) (by rw [h9]; decide) (by decide) ?_
    refine zr_aload_n X 0 dX9_count_108 rfl rfl ?_
    refine zr_cV X (As := []) (rest := []) (f' := mW w cy f v s nu) (st' := [.int (dLF s (fr + 1) (20 + 1 - (fr + 1)))]) zc_X9_stale (132) (show 132 < w.1 by rw [hw]; omega) mW_132 (q9 := _) rfl rfl (k_stale hw hf hfr) ⟨Nat.le_of_ble_eq_true rfl, Nat.le_of_ble_eq_true rfl⟩ ⟨Nat.le_refl _, Nat.le_refl _⟩ rfl (Nat.le_of_ble_eq_true rfl) zm_4_96 rfl dX9_count_109 rfl ?_
    exact zret_i E rfl dX9_count_112 (by unfold dCount; rw [if_neg h1, if_neg h2, if_neg h3, if_neg h4, if_neg h5, if_neg h6, if_neg h7, if_neg h8, if_pos h9]) rfl
  by_cases h10 : x = 9
  · refine zr_tableIn X (off := 112) (tgt := 113) dX9_count_1 (by rw [h10]; decide) (by rw [h10]; decide) (by rw [h10]; decide) (by decide) ?_
    refine zr_aload_n X 0 dX9_count_113 rfl rfl ?_
    refine zr_cV X (As := []) (rest := []) (f' := mW w cy f v s nu) (st' := [.int (dOt s mc)]) zc_X9_onTheWay (132) (show 132 < w.1 by rw [hw]; omega) mW_132 (q9 := _) rfl rfl (k_onTheWay hw hm hmc) ⟨Nat.le_of_ble_eq_true rfl, Nat.le_of_ble_eq_true rfl⟩ ⟨Nat.le_refl _, Nat.le_refl _⟩ rfl (Nat.le_of_ble_eq_true rfl) zm_4_168 rfl dX9_count_114 rfl ?_
    exact zret_i E rfl dX9_count_117 (by unfold dCount; rw [if_neg h1, if_neg h2, if_neg h3, if_neg h4, if_neg h5, if_neg h6, if_neg h7, if_neg h8, if_neg h9, if_pos h10]) rfl
  by_cases h11 : x = 10
  · refine zr_tableIn X (off := 117) (tgt := 118) dX9_count_1 (by rw [h11]; decide) (by rw [h11]; decide) (by rw [h11]; decide) (by decide) ?_
    refine zr_aload_n X 0 dX9_count_118 rfl rfl ?_
    refine zr_get X zfd_RX9_7 (132) (show 132 < w.1 by rw [hw]; omega) mW_132 (v := .ref (w.2 (133))) rfl dX9_count_119 ?_
    refine zr_iload_n X 1 dX9_count_122 rfl rfl ?_
    refine zr_iconst X (v := 3) dX9_count_123 (by decide) ?_
    refine zr_isub X dX9_count_124 ?_
    refine zr_iald X (133) (show 133 < w.1 by rw [hw]; omega) mW_133 (7) (by rw [h11]; decide) (by decide) (by decide) dX9_count_125 ?_
    exact zret_i E rfl dX9_count_126 (by unfold dCount; rw [if_neg h1, if_neg h2, if_neg h3, if_neg h4, if_neg h5, if_neg h6, if_neg h7, if_neg h8, if_neg h9, if_neg h10, if_pos h11]) rfl
  by_cases h12 : x = 11
  · refine zr_tableIn X (off := 117) (tgt := 118) dX9_count_1 (by rw [h12]; decide) (by rw [h12]; decide) (by rw [h12]; decide) (by decide) ?_
    refine zr_aload_n X 0 dX9_count_118 rfl rfl ?_
    refine zr_get X zfd_RX9_7 (132) (show 132 < w.1 by rw [hw]; omega) mW_132 (v := .ref (w.2 (133))) rfl dX9_count_119 ?_
    refine zr_iload_n X 1 dX9_count_122 rfl rfl ?_
    refine zr_iconst X (v := 3) dX9_count_123 (by decide) ?_
    refine zr_isub X dX9_count_124 ?_
    refine zr_iald X (133) (show 133 < w.1 by rw [hw]; omega) mW_133 (8) (by rw [h12]; decide) (by decide) (by decide) dX9_count_125 ?_
    exact zret_i E rfl dX9_count_126 (by unfold dCount; rw [if_neg h1, if_neg h2, if_neg h3, if_neg h4, if_neg h5, if_neg h6, if_neg h7, if_neg h8, if_neg h9, if_neg h10, if_neg h11, if_pos h12]) rfl
  by_cases h13 : x = 12
  · refine zr_tableIn X (off := 117) (tgt := 118) dX9_count_1 (by rw [h13]; decide) (by rw [h13]; decide) (by rw [h13]; decide) (by decide) ?_
    refine zr_aload_n X 0 dX9_count_118 rfl rfl ?_
    refine zr_get X zfd_RX9_7 (132) (show 132 < w.1 by rw [hw]; omega) mW_132 (v := .ref (w.2 (133))) rfl dX9_count_119 ?_
    refine zr_iload_n X 1 dX9_count_122 rfl rfl ?_
    refine zr_iconst X (v := 3) dX9_count_123 (by decide) ?_
    refine zr_isub X dX9_count_124 ?_
    refine zr_iald X (133) (show 133 < w.1 by rw [hw]; omega) mW_133 (9) (by rw [h13]; decide) (by decide) (by decide) dX9_count_125 ?_
    exact zret_i E rfl dX9_count_126 (by unfold dCount; rw [if_neg h1, if_neg h2, if_neg h3, if_neg h4, if_neg h5, if_neg h6, if_neg h7, if_neg h8, if_neg h9, if_neg h10, if_neg h11, if_neg h12, if_pos h13]) rfl
  by_cases h14 : x = 13
  · refine zr_tableIn X (off := 117) (tgt := 118) dX9_count_1 (by rw [h14]; decide) (by rw [h14]; decide) (by rw [h14]; decide) (by decide) ?_
    refine zr_aload_n X 0 dX9_count_118 rfl rfl ?_
    refine zr_get X zfd_RX9_7 (132) (show 132 < w.1 by rw [hw]; omega) mW_132 (v := .ref (w.2 (133))) rfl dX9_count_119 ?_
    refine zr_iload_n X 1 dX9_count_122 rfl rfl ?_
    refine zr_iconst X (v := 3) dX9_count_123 (by decide) ?_
    refine zr_isub X dX9_count_124 ?_
    refine zr_iald X (133) (show 133 < w.1 by rw [hw]; omega) mW_133 (10) (by rw [h14]; decide) (by decide) (by decide) dX9_count_125 ?_
    exact zret_i E rfl dX9_count_126 (by unfold dCount; rw [if_neg h1, if_neg h2, if_neg h3, if_neg h4, if_neg h5, if_neg h6, if_neg h7, if_neg h8, if_neg h9, if_neg h10, if_neg h11, if_neg h12, if_neg h13, if_pos h14]) rfl
  by_cases h15 : x = 14
  · refine zr_tableIn X (off := 117) (tgt := 118) dX9_count_1 (by rw [h15]; decide) (by rw [h15]; decide) (by rw [h15]; decide) (by decide) ?_
    refine zr_aload_n X 0 dX9_count_118 rfl rfl ?_
    refine zr_get X zfd_RX9_7 (132) (show 132 < w.1 by rw [hw]; omega) mW_132 (v := .ref (w.2 (133))) rfl dX9_count_119 ?_
    refine zr_iload_n X 1 dX9_count_122 rfl rfl ?_
    refine zr_iconst X (v := 3) dX9_count_123 (by decide) ?_
    refine zr_isub X dX9_count_124 ?_
    refine zr_iald X (133) (show 133 < w.1 by rw [hw]; omega) mW_133 (11) (by rw [h15]; decide) (by decide) (by decide) dX9_count_125 ?_
    exact zret_i E rfl dX9_count_126 (by unfold dCount; rw [if_neg h1, if_neg h2, if_neg h3, if_neg h4, if_neg h5, if_neg h6, if_neg h7, if_neg h8, if_neg h9, if_neg h10, if_neg h11, if_neg h12, if_neg h13, if_neg h14, if_pos h15]) rfl
  by_cases h16 : x = 15
  · refine zr_tableIn X (off := 117) (tgt := 118) dX9_count_1 (by rw [h16]; decide) (by rw [h16]; decide) (by rw [h16]; decide) (by decide) ?_
    refine zr_aload_n X 0 dX9_count_118 rfl rfl ?_
    refine zr_get X zfd_RX9_7 (132) (show 132 < w.1 by rw [hw]; omega) mW_132 (v := .ref (w.2 (133))) rfl dX9_count_119 ?_
    refine zr_iload_n X 1 dX9_count_122 rfl rfl ?_
    refine zr_iconst X (v := 3) dX9_count_123 (by decide) ?_
    refine zr_isub X dX9_count_124 ?_
    refine zr_iald X (133) (show 133 < w.1 by rw [hw]; omega) mW_133 (12) (by rw [h16]; decide) (by decide) (by decide) dX9_count_125 ?_
    exact zret_i E rfl dX9_count_126 (by unfold dCount; rw [if_neg h1, if_neg h2, if_neg h3, if_neg h4, if_neg h5, if_neg h6, if_neg h7, if_neg h8, if_neg h9, if_neg h10, if_neg h11, if_neg h12, if_neg h13, if_neg h14, if_neg h15, if_pos h16]) rfl
  by_cases h17 : x = 16
  · refine zr_tableIn X (off := 117) (tgt := 118) dX9_count_1 (by rw [h17]; decide) (by rw [h17]; decide) (by rw [h17]; decide) (by decide) ?_
    refine zr_aload_n X 0 dX9_count_118 rfl rfl ?_
    refine zr_get X zfd_RX9_7 (132) (show 132 < w.1 by rw [hw]; omega) mW_132 (v := .ref (w.2 (133))) rfl dX9_count_119 ?_
    refine zr_iload_n X 1 dX9_count_122 rfl rfl ?_
    refine zr_iconst X (v := 3) dX9_count_123 (by decide) ?_
    refine zr_isub X dX9_count_124 ?_
    refine zr_iald X (133) (show 133 < w.1 by rw [hw]; omega) mW_133 (13) (by rw [h17]; decide) (by decide) (by decide) dX9_count_125 ?_
    exact zret_i E rfl dX9_count_126 (by unfold dCount; rw [if_neg h1, if_neg h2, if_neg h3, if_neg h4, if_neg h5, if_neg h6, if_neg h7, if_neg h8, if_neg h9, if_neg h10, if_neg h11, if_neg h12, if_neg h13, if_neg h14, if_neg h15, if_neg h16, if_pos h17]) rfl
  by_cases h18 : x = 17
  · refine zr_tableIn X (off := 117) (tgt := 118) dX9_count_1 (by rw [h18]; decide) (by rw [h18]; decide) (by rw [h18]; decide) (by decide) ?_
    refine zr_aload_n X 0 dX9_count_118 rfl rfl ?_
    refine zr_get X zfd_RX9_7 (132) (show 132 < w.1 by rw [hw]; omega) mW_132 (v := .ref (w.2 (133))) rfl dX9_count_119 ?_
    refine zr_iload_n X 1 dX9_count_122 rfl rfl ?_
    refine zr_iconst X (v := 3) dX9_count_123 (by decide) ?_
    refine zr_isub X dX9_count_124 ?_
    refine zr_iald X (133) (show 133 < w.1 by rw [hw]; omega) mW_133 (14) (by rw [h18]; decide) (by decide) (by decide) dX9_count_125 ?_
    exact zret_i E rfl dX9_count_126 (by unfold dCount; rw [if_neg h1, if_neg h2, if_neg h3, if_neg h4, if_neg h5, if_neg h6, if_neg h7, if_neg h8, if_neg h9, if_neg h10, if_neg h11, if_neg h12, if_neg h13, if_neg h14, if_neg h15, if_neg h16, if_neg h17, if_pos h18]) rfl
  by_cases h19 : x = 18
  · refine zr_tableIn X (off := 126) (tgt := 127) dX9_count_1 (by rw [h19]; decide) (by rw [h19]; decide) (by rw [h19]; decide) (by decide) ?_
    refine zr_aload_n X 0 dX9_count_127 rfl rfl ?_
    refine zr_get X zfd_RX9_32 (132) (show 132 < w.1 by rw [hw]; omega) mW_132 (v := .int (v 0)) rfl dX9_count_128 ?_
    exact zret_i E rfl dX9_count_131 (by unfold dCount; rw [if_neg h1, if_neg h2, if_neg h3, if_neg h4, if_neg h5, if_neg h6, if_neg h7, if_neg h8, if_neg h9, if_neg h10, if_neg h11, if_neg h12, if_neg h13, if_neg h14, if_neg h15, if_neg h16, if_neg h17, if_neg h18, if_pos h19]) rfl
  by_cases h20 : x = 19
  · refine zr_tableIn X (off := 131) (tgt := 132) dX9_count_1 (by rw [h20]; decide) (by rw [h20]; decide) (by rw [h20]; decide) (by decide) ?_
    refine zr_aload_n X 0 dX9_count_132 rfl rfl ?_
    refine zr_get X zfd_RX9_133 (132) (show 132 < w.1 by rw [hw]; omega) mW_132 (v := .int (v 2)) rfl dX9_count_133 ?_
    exact zret_i E rfl dX9_count_136 (by unfold dCount; rw [if_neg h1, if_neg h2, if_neg h3, if_neg h4, if_neg h5, if_neg h6, if_neg h7, if_neg h8, if_neg h9, if_neg h10, if_neg h11, if_neg h12, if_neg h13, if_neg h14, if_neg h15, if_neg h16, if_neg h17, if_neg h18, if_neg h19, if_pos h20]) rfl
  refine zr_tableOut X (tgt := 137) dX9_count_1 (by have e0 := lv_neT h1 (show (0 : Int32).toInt = 0 from by decide); have e1 := lv_neT h2 (show (1 : Int32).toInt = 1 from by decide); have e2 := lv_neT h3 (show (2 : Int32).toInt = 2 from by decide); have e3 := lv_neT h4 (show (3 : Int32).toInt = 3 from by decide); have e4 := lv_neT h5 (show (4 : Int32).toInt = 4 from by decide); have e5 := lv_neT h6 (show (5 : Int32).toInt = 5 from by decide); have e6 := lv_neT h7 (show (6 : Int32).toInt = 6 from by decide); have e7 := lv_neT h8 (show (7 : Int32).toInt = 7 from by decide); have e8 := lv_neT h9 (show (8 : Int32).toInt = 8 from by decide); have e9 := lv_neT h10 (show (9 : Int32).toInt = 9 from by decide); have e10 := lv_neT h11 (show (10 : Int32).toInt = 10 from by decide); have e11 := lv_neT h12 (show (11 : Int32).toInt = 11 from by decide); have e12 := lv_neT h13 (show (12 : Int32).toInt = 12 from by decide); have e13 := lv_neT h14 (show (13 : Int32).toInt = 13 from by decide); have e14 := lv_neT h15 (show (14 : Int32).toInt = 14 from by decide); have e15 := lv_neT h16 (show (15 : Int32).toInt = 15 from by decide); have e16 := lv_neT h17 (show (16 : Int32).toInt = 16 from by decide); have e17 := lv_neT h18 (show (17 : Int32).toInt = 17 from by decide); have e18 := lv_neT h19 (show (18 : Int32).toInt = 18 from by decide); have e19 := lv_neT h20 (show (19 : Int32).toInt = 19 from by decide); omega) (by decide) ?_
  refine zr_iload_n X 1 dX9_count_137 rfl rfl ?_
  refine zr_bipush X (v := 20) dX9_count_138 (by decide) ?_
  refine zr_bipush X (v := 23) dX9_count_140 (by decide) ?_
  refine zr_cS X (As := [.int (x), .int (20), .int (23)]) (rest := []) (f' := mW w cy f v s nu) (st' := [.int (zwin x 20 23)]) zc_X9_in k_in ⟨Nat.le_of_ble_eq_true rfl, Nat.le_of_ble_eq_true rfl⟩ ⟨Nat.le_refl _, Nat.le_refl _⟩ rfl (Nat.le_of_ble_eq_true rfl) zm_3_227 rfl dX9_count_142 rfl ?_
  refine zr_if_eq X (tgt := 163) dX9_count_145 (by decide) (fun h21 => ?_) (fun h22 => ?_)
  · refine zr_ldc X zm_3_230 dX9_count_163 ?_
    exact zret_i E rfl dX9_count_165 (by unfold dCount; rw [if_neg h1, if_neg h2, if_neg h3, if_neg h4, if_neg h5, if_neg h6, if_neg h7, if_neg h8, if_neg h9, if_neg h10, if_neg h11, if_neg h12, if_neg h13, if_neg h14, if_neg h15, if_neg h16, if_neg h17, if_neg h18, if_neg h19, if_neg h20, if_pos h21]) rfl
  · have hx9 := zwin_nn h22 (by decide)
    have hx8 := zwin_hi h22 (by decide) (show (23 : Int32) = nI 23 from rfl) (by decide)
    have hx7 : 20 ≤ x.toNatClampNeg := zwin_ge h22 (by decide) (show (20 : Int32) = nI 20 from rfl) (by decide)
    refine zr_aload_n X 0 dX9_count_148 rfl rfl ?_
    refine zr_get X zfd_RX9_7 (132) (show 132 < w.1 by rw [hw]; omega) mW_132 (v := .ref (w.2 (133))) rfl dX9_count_149 ?_
    refine zr_bipush X (v := 15) dX9_count_152 (by decide) ?_
    refine zr_iload_n X 1 dX9_count_154 rfl rfl ?_
    refine zr_iadd X dX9_count_155 ?_
    refine zr_bipush X (v := 20) dX9_count_156 (by decide) ?_
    refine zr_isub X dX9_count_158 ?_
    refine zr_iald X (133) (show 133 < w.1 by rw [hw]; omega) mW_133 (15 + x.toNatClampNeg - 20) ((congrArg (fun z => z - 20) (zia (c := 15) hx9)).trans (nI_sub (b := 20) (by omega) (by omega))) (by omega) (by decide) dX9_count_159 ?_
    refine zr_goto X (tgt := 165) dX9_count_160 (by decide) ?_
    exact zret_i E rfl dX9_count_165 (by unfold dCount; rw [if_neg h1, if_neg h2, if_neg h3, if_neg h4, if_neg h5, if_neg h6, if_neg h7, if_neg h8, if_neg h9, if_neg h10, if_neg h11, if_neg h12, if_neg h13, if_neg h14, if_neg h15, if_neg h16, if_neg h17, if_neg h18, if_neg h19, if_neg h20, if_neg h22]) rfl
