theorem dPyS_v {tx : Nat → Int32} {n : Nat} {a : dSt9} {i : Nat} (h : i < 3) : (dPyS tx n a).2.2.1 i = a.2.2.1 i := by
  unfold dPyS
  split
  · show dPyW (dPyV _ _ _) _ _ i = _
    unfold dPyW dPyV
    rw [upd_ne (by omega), upd_ne (by omega), upd_ne (by omega), upd_ne (by omega), upd_ne (by omega), upd_ne (by omega)]
  · show dPyW (dPyV _ _ _) _ _ i = _
    unfold dPyW dPyV
    rw [upd_ne (by omega), upd_ne (by omega), upd_ne (by omega), upd_ne (by omega), upd_ne (by omega), upd_ne (by omega)]
theorem dPg_v {tx : Nat → Int32} {n i : Nat} (h : i < 3) : ∀ m a, (dPg tx n m a).2.2.1 i = a.2.2.1 i
  | 0, _ => rfl
  | m + 1, a => by
    rw [dPg_s]
    split
    · rfl
    · split
      · rfl
      · exact (dPg_v h m _).trans (dPyS_v h)
theorem dPlays_v {tx : Nat → Int32} {n : Nat} {v nu s : Nat → Int32} {i : Nat} (h : i < 3) (h1 : i ≠ 1) : (dPlays tx n v nu s).2.2.1 i = v i := by
  refine (dPg_v h 61 _).trans ?_
  show dPlV v i = v i
  unfold dPlV
  rw [upd_ne (by omega), upd_ne (by omega), upd_ne (by omega), upd_ne (by omega)]
def dFq (x : Int32) (R : dSt9) : Int32 := if R.1 = 0 then (if x = 0 then R.2.2.1 4 else if x = 1 then R.2.2.1 5 else R.2.2.1 6) else (-1000004)
def dFault (x : Int32) (R : dSt9) : Int32 := if zwin x 0 2 = 0 then (-1000001) else dFq x R
def dS1 (s H : Nat → Int32) (R : dSt9) : Nat → Int32 := dCp R.2.2.2.2 (dCp H s 136) 136
theorem dS1_eq {s H : Nat → Int32} {R : dSt9} {i : Nat} (h : i < 136) : dS1 s H R i = s i := (dCp_in 136 h).trans (dCp_in 136 h)
set_option maxHeartbeats 4000000 in
set_option maxRecDepth 100000 in
theorem k_mfault {l : Launch} {D : va_G} {cy : Nat → ClassId} {w : zW} {f : zF} {v s nu : Nat → Int32} {P : Nat → Int32} {k : Nat} {tx H : Nat → Int32} {n : Nat} {R : dSt9} {x : Int32}  (hw : w.1 = 139) (hp : f 134 = eInts cy 544 P) (htx : f 137 = eInts cy 60 tx) (hh : f 135 = eInts cy 136 H) (hn : n ≤ 60) (J : (Nat → Int32) → Prop) (hJ1 : ∀ s, J s → dInvC s) (hJ2 : ∀ s o nu, J s → J (dCall s o nu).2.2) (hJ0 : J s) (hv2 : v 2 = nI n) (hk : v 0 = nI k) (hk4 : k ≤ 4) (eR : dPlays tx n v nu s = R) : zSp l D cy yX9_fault cX9_fault 3 (some .int) 9 200 [.ref (w.2 (132)), .int (x)] w (mW w cy f v s nu) (fun r9 g => r9 = some (.int (dFault x R)) ∧ ((zwin x 0 2 = 0 ∧ g = mW w cy f v s nu) ∨ g = mW w cy (va_up f (135) (eInts cy 136 (dCp H s 136))) (upd R.2.2.1 1 0) (dS1 s H R) R.2.2.2.1)) := by
  refine zSp.intro (by decide) (Nat.le_of_ble_eq_true rfl) (fun G X E => ?_)
  show G (w, 0, 0) (mW w cy f v s nu) [(0, .ref (w.2 (132))), (1, .int (x))] 0 []
  refine zr_iload_n X 1 dX9_fault_0 rfl rfl ?_
  refine zr_iconst X (v := 0) dX9_fault_1 (by decide) ?_
  refine zr_iconst X (v := 2) dX9_fault_2 (by decide) ?_
  refine zr_cS X (As := [.int (x), .int (0), .int (2)]) (rest := []) (f' := mW w cy f v s nu) (st' := [.int (zwin x 0 2)]) zc_X9_in k_in ⟨Nat.le_of_ble_eq_true rfl, Nat.le_of_ble_eq_true rfl⟩ ⟨Nat.le_refl _, Nat.le_refl _⟩ rfl (Nat.le_of_ble_eq_true rfl) zm_3_227 rfl dX9_fault_3 rfl ?_
  refine zr_if_ne X (tgt := 12) dX9_fault_6 (by decide) (fun h1 => ?_) (fun h2 => ?_)
  · refine zr_aload_n X 0 dX9_fault_12 rfl rfl ?_
    refine zr_get X zfd_RX9_7 (132) (show 132 < w.1 by rw [hw]; omega) mW_132 (v := .ref (w.2 (133))) rfl dX9_fault_13 ?_
    refine zr_aload_n X 0 dX9_fault_16 rfl rfl ?_
    refine zr_get X zfd_RX9_16 (132) (show 132 < w.1 by rw [hw]; omega) mW_132 (v := .ref (w.2 (135))) rfl dX9_fault_17 ?_
    refine zr_cS X (As := [.ref (w.2 (133)), .ref (w.2 (135))]) (rest := []) (f' := va_up (mW w cy f v s nu) (135) (eInts cy 136 (dCp H s 136))) (st' := []) zc_X9_copies (k_copies (t := 133) (u := 135) (show 133 < w.1 by rw [hw]; omega) (show 135 < w.1 by rw [hw]; omega) mW_133 ((mW_out (by decide) (by decide) (by decide)).trans hh) (by decide)) ⟨Nat.le_of_ble_eq_true rfl, Nat.le_of_ble_eq_true rfl⟩ ⟨Nat.le_refl _, Nat.le_refl _⟩ rfl (Nat.le_of_ble_eq_true rfl) zm_4_135 rfl dX9_fault_20 rfl ?_
    refine zcw (f2 := mW w cy (va_up f (135) (eInts cy 136 (dCp H s 136))) v s nu) (mu_out (by decide) (by decide) (by decide)) ?_
    refine zr_aload_n X 0 dX9_fault_23 rfl rfl ?_
    refine zr_cV X (As := []) (rest := []) (f' := mW w cy (va_up f (135) (eInts cy 136 (dCp H s 136))) (upd R.2.2.1 1 0) R.2.2.2.2 R.2.2.2.1) (st' := [.int (R.1)]) zc_X9_plays (132) (show 132 < w.1 by rw [hw]; omega) mW_132 (q9 := _) rfl rfl (k_plays (k := k) (RS := R) hw ((va_up_ne _ _ (by decide)).trans hp) ((va_up_ne _ _ (by decide)).trans htx) hn J hJ1 hJ2 hJ0 hv2 hk hk4 eR) ⟨Nat.le_of_ble_eq_true rfl, Nat.le_of_ble_eq_true rfl⟩ ⟨Nat.le_refl _, Nat.le_refl _⟩ rfl (Nat.le_of_ble_eq_true rfl) zm_4_188 rfl dX9_fault_24 rfl ?_
    refine zr_istore_n X (ls' := [(2, .int (R.1)), (0, .ref (w.2 (132))), (1, .int (x))]) dX9_fault_27 rfl (by decide) rfl ?_
    refine zr_aload_n X 1 dX9_fault_28 rfl rfl ?_
    refine zr_get X zfd_RX9_16 (132) (show 132 < w.1 by rw [hw]; omega) mW_132 (v := .ref (w.2 (135))) rfl dX9_fault_29 ?_
    refine zr_aload_n X 1 dX9_fault_32 rfl rfl ?_
    refine zr_get X zfd_RX9_7 (132) (show 132 < w.1 by rw [hw]; omega) mW_132 (v := .ref (w.2 (133))) rfl dX9_fault_33 ?_
    refine zr_cS X (As := [.ref (w.2 (135)), .ref (w.2 (133))]) (rest := []) (f' := va_up (mW w cy (va_up f (135) (eInts cy 136 (dCp H s 136))) (upd R.2.2.1 1 0) R.2.2.2.2 R.2.2.2.1) (133) (eInts cy 136 (dCp R.2.2.2.2 (dCp H s 136) 136))) (st' := []) zc_X9_copies (k_copies (t := 135) (u := 133) (show 135 < w.1 by rw [hw]; omega) (show 133 < w.1 by rw [hw]; omega) ((mW_out (by decide) (by decide) (by decide)).trans (va_up_self _ _ _)) mW_133 (by decide)) ⟨Nat.le_of_ble_eq_true rfl, Nat.le_of_ble_eq_true rfl⟩ ⟨Nat.le_refl _, Nat.le_refl _⟩ rfl (Nat.le_of_ble_eq_true rfl) zm_4_135 rfl dX9_fault_36 rfl ?_
    refine zcw (f2 := mW w cy (va_up f (135) (eInts cy 136 (dCp H s 136))) (upd R.2.2.1 1 0) (dCp R.2.2.2.2 (dCp H s 136) 136) R.2.2.2.1) mu_133 ?_
    refine zr_iload_n X 0 dX9_fault_39 rfl rfl ?_
    refine zr_if_eq X (tgt := 48) dX9_fault_40 (by decide) (fun h3 => ?_) (fun h4 => ?_)
    · refine zr_iload_n X 2 dX9_fault_48 rfl rfl ?_
      refine zr_if_ne X (tgt := 59) dX9_fault_49 (by decide) (fun h5 => ?_) (fun h6 => ?_)
      · refine zr_iload_n X 2 dX9_fault_59 rfl rfl ?_
        refine zr_iconst X (v := 1) dX9_fault_60 (by decide) ?_
        refine zr_icmp_ne X (tgt := 71) dX9_fault_61 (by decide) (fun h7 => ?_) (fun h8 => ?_)
        · refine zr_aload_n X 1 dX9_fault_71 rfl rfl ?_
          refine zr_get X zfd_RX9_186 (132) (show 132 < w.1 by rw [hw]; omega) mW_132 (v := .int (R.2.2.1 6)) rfl dX9_fault_72 ?_
          exact zretp_i E rfl dX9_fault_75 ⟨congrArg (fun z => some (Value.int z)) (by unfold dFault dFq; rw [if_neg h1, if_pos h3, if_neg h5, if_neg h7]), .inr rfl⟩
        · refine zr_aload_n X 1 dX9_fault_64 rfl rfl ?_
          refine zr_get X zfd_RX9_183 (132) (show 132 < w.1 by rw [hw]; omega) mW_132 (v := .int (R.2.2.1 5)) rfl dX9_fault_65 ?_
          refine zr_goto X (tgt := 75) dX9_fault_68 (by decide) ?_
          exact zretp_i E rfl dX9_fault_75 ⟨congrArg (fun z => some (Value.int z)) (by unfold dFault dFq; rw [if_neg h1, if_pos h3, if_neg h5, if_pos h8]), .inr rfl⟩
      · refine zr_aload_n X 1 dX9_fault_52 rfl rfl ?_
        refine zr_get X zfd_RX9_170 (132) (show 132 < w.1 by rw [hw]; omega) mW_132 (v := .int (R.2.2.1 4)) rfl dX9_fault_53 ?_
        refine zr_goto X (tgt := 75) dX9_fault_56 (by decide) ?_
        exact zretp_i E rfl dX9_fault_75 ⟨congrArg (fun z => some (Value.int z)) (by unfold dFault dFq; rw [if_neg h1, if_pos h3, if_pos h6]), .inr rfl⟩
    · refine zr_ldc X zm_4_41 dX9_fault_43 ?_
      refine zr_goto X (tgt := 75) dX9_fault_45 (by decide) ?_
      exact zretp_i E rfl dX9_fault_75 ⟨congrArg (fun z => some (Value.int z)) (by unfold dFault dFq; rw [if_neg h1, if_neg h4]), .inr rfl⟩
  · refine zr_ldc X zm_3_230 dX9_fault_9 ?_
    exact zretp_i E rfl dX9_fault_11 ⟨congrArg (fun z => some (Value.int z)) (by unfold dFault; rw [if_pos h2]), .inl ⟨(by assumption), rfl⟩⟩
def dPlayQ (R R2 : dSt9) : Int32 := if R.1 = 0 then (-1000002) else if R2.1 = 0 then (-1000004) else R2.2.2.1 7
set_option maxHeartbeats 4000000 in
set_option maxRecDepth 100000 in
theorem k_mplay {l : Launch} {D : va_G} {cy : Nat → ClassId} {w : zW} {f : zF} {v s nu : Nat → Int32} {P : Nat → Int32} {k : Nat} {tx H : Nat → Int32} {n : Nat} {R : dSt9} {R2 : dSt9}  (hw : w.1 = 139) (hp : f 134 = eInts cy 544 P) (htx : f 137 = eInts cy 60 tx) (hh : f 135 = eInts cy 136 H) (hn : n ≤ 60) (J : (Nat → Int32) → Prop) (hJ1 : ∀ s, J s → dInvC s) (hJ2 : ∀ s o nu, J s → J (dCall s o nu).2.2) (hJ0 : J s) (hv2 : v 2 = nI n) (hk : v 0 = nI k) (hk4 : k ≤ 4) (eR : dPlays tx n v nu s = R) (hJ3 : J (dS1 s H R)) (eR2 : dPlays tx n (dPv (upd R.2.2.1 1 0) k) R.2.2.2.1 (dS1 s H R) = R2) : zSp l D cy yX9_play cX9_play 2 (some .int) 9 200 [.ref (w.2 (132))] w (mW w cy f v s nu) (fun r9 g => r9 = some (.int (dPlayQ R R2)) ∧ ((R.1 = 0 ∧ g = mW w cy (va_up f (135) (eInts cy 136 (dCp H s 136))) (upd R.2.2.1 1 0) (dS1 s H R) R.2.2.2.1) ∨ (¬ R.1 = 0 ∧ g = mW w cy (va_up (va_up f (135) (eInts cy 136 (dCp H s 136))) (134) (eInts cy 544 (dPa (upd R.2.2.1 1 0) P (dS1 s H R) k))) (upd R2.2.2.1 1 0) R2.2.2.2.2 R2.2.2.2.1))) := by
  refine zSp.intro (by decide) (Nat.le_of_ble_eq_true rfl) (fun G X E => ?_)
  show G (w, 0, 0) (mW w cy f v s nu) [(0, .ref (w.2 (132)))] 0 []
  refine zr_aload_n X 0 dX9_play_0 rfl rfl ?_
  refine zr_get X zfd_RX9_7 (132) (show 132 < w.1 by rw [hw]; omega) mW_132 (v := .ref (w.2 (133))) rfl dX9_play_1 ?_
  refine zr_aload_n X 0 dX9_play_4 rfl rfl ?_
  refine zr_get X zfd_RX9_16 (132) (show 132 < w.1 by rw [hw]; omega) mW_132 (v := .ref (w.2 (135))) rfl dX9_play_5 ?_
  refine zr_cS X (As := [.ref (w.2 (133)), .ref (w.2 (135))]) (rest := []) (f' := va_up (mW w cy f v s nu) (135) (eInts cy 136 (dCp H s 136))) (st' := []) zc_X9_copies (k_copies (t := 133) (u := 135) (show 133 < w.1 by rw [hw]; omega) (show 135 < w.1 by rw [hw]; omega) mW_133 ((mW_out (by decide) (by decide) (by decide)).trans hh) (by decide)) ⟨Nat.le_of_ble_eq_true rfl, Nat.le_of_ble_eq_true rfl⟩ ⟨Nat.le_refl _, Nat.le_refl _⟩ rfl (Nat.le_of_ble_eq_true rfl) zm_4_135 rfl dX9_play_8 rfl ?_
  refine zcw (f2 := mW w cy (va_up f (135) (eInts cy 136 (dCp H s 136))) v s nu) (mu_out (by decide) (by decide) (by decide)) ?_
  refine zr_aload_n X 0 dX9_play_11 rfl rfl ?_
  refine zr_cV X (As := []) (rest := []) (f' := mW w cy (va_up f (135) (eInts cy 136 (dCp H s 136))) (upd R.2.2.1 1 0) R.2.2.2.2 R.2.2.2.1) (st' := [.int (R.1)]) zc_X9_plays (132) (show 132 < w.1 by rw [hw]; omega) mW_132 (q9 := _) rfl rfl (k_plays (k := k) (RS := R) hw ((va_up_ne _ _ (by decide)).trans hp) ((va_up_ne _ _ (by decide)).trans htx) hn J hJ1 hJ2 hJ0 hv2 hk hk4 eR) ⟨Nat.le_of_ble_eq_true rfl, Nat.le_of_ble_eq_true rfl⟩ ⟨Nat.le_refl _, Nat.le_refl _⟩ rfl (Nat.le_of_ble_eq_true rfl) zm_4_188 rfl dX9_play_12 rfl ?_
  refine zr_istore_n X (ls' := [(1, .int (R.1)), (0, .ref (w.2 (132)))]) dX9_play_15 rfl (by decide) rfl ?_
  refine zr_aload_n X 1 dX9_play_16 rfl rfl ?_
  refine zr_get X zfd_RX9_16 (132) (show 132 < w.1 by rw [hw]; omega) mW_132 (v := .ref (w.2 (135))) rfl dX9_play_17 ?_
  refine zr_aload_n X 1 dX9_play_20 rfl rfl ?_
  refine zr_get X zfd_RX9_7 (132) (show 132 < w.1 by rw [hw]; omega) mW_132 (v := .ref (w.2 (133))) rfl dX9_play_21 ?_
  refine zr_cS X (As := [.ref (w.2 (135)), .ref (w.2 (133))]) (rest := []) (f' := va_up (mW w cy (va_up f (135) (eInts cy 136 (dCp H s 136))) (upd R.2.2.1 1 0) R.2.2.2.2 R.2.2.2.1) (133) (eInts cy 136 (dCp R.2.2.2.2 (dCp H s 136) 136))) (st' := []) zc_X9_copies (k_copies (t := 135) (u := 133) (show 135 < w.1 by rw [hw]; omega) (show 133 < w.1 by rw [hw]; omega) ((mW_out (by decide) (by decide) (by decide)).trans (va_up_self _ _ _)) mW_133 (by decide)) ⟨Nat.le_of_ble_eq_true rfl, Nat.le_of_ble_eq_true rfl⟩ ⟨Nat.le_refl _, Nat.le_refl _⟩ rfl (Nat.le_of_ble_eq_true rfl) zm_4_135 rfl dX9_play_24 rfl ?_
  refine zcw (f2 := mW w cy (va_up f (135) (eInts cy 136 (dCp H s 136))) (upd R.2.2.1 1 0) (dCp R.2.2.2.2 (dCp H s 136) 136) R.2.2.2.1) mu_133 ?_
  refine zcw (f2 := mW w cy (va_up f (135) (eInts cy 136 (dCp H s 136))) (upd R.2.2.1 1 0) (dS1 s H R) R.2.2.2.1) rfl ?_
  refine zr_iload_n X 0 dX9_play_27 rfl rfl ?_
  refine zr_if_ne X (tgt := 34) dX9_play_28 (by decide) (fun h1 => ?_) (fun h2 => ?_)
  · refine zr_aload_n X 1 dX9_play_34 rfl rfl ?_
    have hv0 : (upd R.2.2.1 1 0) 0 = nI k := by rw [upd_ne (by decide), ← eR, dPlays_v (by decide) (by decide)]; exact hk
    have hv92 : (upd R.2.2.1 1 0) 2 = nI n := by rw [upd_ne (by decide), ← eR, dPlays_v (by decide) (by decide)]; exact hv2
    have hr9 : (upd R.2.2.1 1 0) 1 = 0 := upd_eq
    have hd : dPv (upd R.2.2.1 1 0) k = upd (upd R.2.2.1 1 0) 0 (nI (dPj k + 1)) := if_pos hr9
    have hj4 : dPj k + 1 ≤ 4 := by unfold dPj; split <;> omega
    have hv02 : (dPv (upd R.2.2.1 1 0) k) 0 = nI (dPj k + 1) := by rw [hd]; exact upd_eq
    have hv22 : (dPv (upd R.2.2.1 1 0) k) 2 = nI n := by rw [hd, upd_ne (by decide)]; exact hv92
    refine zr_cV X (As := []) (rest := []) (f' := mW w cy (va_up (va_up f (135) (eInts cy 136 (dCp H s 136))) (134) (eInts cy 544 (dPa (upd R.2.2.1 1 0) P (dS1 s H R) k))) (dPv (upd R.2.2.1 1 0) k) (dS1 s H R) R.2.2.2.1) (st' := []) zc_X9_changes (132) (show 132 < w.1 by rw [hw]; omega) mW_132 (q9 := _) rfl rfl (k_changes hw ((va_up_ne _ _ (by decide)).trans hp) (Or.inl hr9) hv0 hk4) ⟨Nat.le_of_ble_eq_true rfl, Nat.le_of_ble_eq_true rfl⟩ ⟨Nat.le_refl _, Nat.le_refl _⟩ rfl (Nat.le_of_ble_eq_true rfl) zm_3_232 rfl dX9_play_35 rfl ?_
    refine zr_aload_n X 1 dX9_play_38 rfl rfl ?_
    refine zr_cV X (As := []) (rest := []) (f' := mW w cy (va_up (va_up f (135) (eInts cy 136 (dCp H s 136))) (134) (eInts cy 544 (dPa (upd R.2.2.1 1 0) P (dS1 s H R) k))) (upd R2.2.2.1 1 0) R2.2.2.2.2 R2.2.2.2.1) (st' := [.int (R2.1)]) zc_X9_plays (132) (show 132 < w.1 by rw [hw]; omega) mW_132 (q9 := _) rfl rfl (k_plays (k := dPj k + 1) (RS := R2) hw (va_up_self _ _ _) ((va_up_ne _ _ (by decide)).trans ((va_up_ne _ _ (by decide)).trans htx)) hn J hJ1 hJ2 hJ3 hv22 hv02 hj4 eR2) ⟨Nat.le_of_ble_eq_true rfl, Nat.le_of_ble_eq_true rfl⟩ ⟨Nat.le_refl _, Nat.le_refl _⟩ rfl (Nat.le_of_ble_eq_true rfl) zm_4_188 rfl dX9_play_39 rfl ?_
    refine zr_if_eq X (tgt := 52) dX9_play_42 (by decide) (fun h3 => ?_) (fun h4 => ?_)
    · refine zr_ldc X zm_4_41 dX9_play_52 ?_
      exact zretp_i E rfl dX9_play_54 ⟨congrArg (fun z => some (Value.int z)) (by unfold dPlayQ; rw [if_neg h1, if_pos h3]), .inr ⟨(by assumption), rfl⟩⟩
    · refine zr_aload_n X 1 dX9_play_45 rfl rfl ?_
      refine zr_get X zfd_RX9_173 (132) (show 132 < w.1 by rw [hw]; omega) mW_132 (v := .int (R2.2.2.1 7)) rfl dX9_play_46 ?_
      refine zr_goto X (tgt := 54) dX9_play_49 (by decide) ?_
      exact zretp_i E rfl dX9_play_54 ⟨congrArg (fun z => some (Value.int z)) (by unfold dPlayQ; rw [if_neg h1, if_neg h4]), .inr ⟨(by assumption), rfl⟩⟩
  · refine zr_ldc X zm_4_16 dX9_play_31 ?_
    exact zretp_i E rfl dX9_play_33 ⟨congrArg (fun z => some (Value.int z)) (by unfold dPlayQ; rw [if_pos h2]), .inl ⟨(by assumption), rfl⟩⟩
