theorem zw_ac_int : Cond.arrayClass .int ∈ zTb := zt1 39 (by decide +kernel) (by decide +kernel)
theorem zw_ac_char : Cond.arrayClass .char ∈ zTb := zt2 12 (by decide +kernel) (by decide +kernel)
set_option maxHeartbeats 4000000 in
set_option maxRecDepth 100000 in
theorem k_Mule_init {l : Launch} {D : va_G} {cy : Nat → ClassId} {w : zW} {f : zF} {t : Nat} (ht : t < w.1) : zSd l D cy yX4_init cX4_init 1 none 1 20 [.ref (w.2 (t))] w f none f := by
  refine zSd.intro (by decide) (Nat.le_of_ble_eq_true rfl) (fun G X E => ?_)
  show G (w, 0, 0) f [(0, .ref (w.2 (t)))] 0 []
  refine zr_aload_n X 0 dX4_init_0 rfl rfl ?_
  refine zr_objInit X zm_1_114 (by decide) (by decide) dX4_init_1 ?_
  exact zret_v E rfl dX4_init_4 rfl
set_option maxHeartbeats 4000000 in
set_option maxRecDepth 100000 in
theorem k_Group_init {l : Launch} {D : va_G} {cy : Nat → ClassId} {w : zW} {f : zF} {t : Nat} (ht : t < w.1) : zSd l D cy yX0_init cX0_init 1 none 1 20 [.ref (w.2 (t))] w f none f := by
  refine zSd.intro (by decide) (Nat.le_of_ble_eq_true rfl) (fun G X E => ?_)
  show G (w, 0, 0) f [(0, .ref (w.2 (t)))] 0 []
  refine zr_aload_n X 0 dX0_init_0 rfl rfl ?_
  refine zr_objInit X zm_1_152 (by decide) (by decide) dX0_init_1 ?_
  exact zret_v E rfl dX0_init_4 rfl
set_option maxHeartbeats 4000000 in
set_option maxRecDepth 100000 in
theorem k_Ledger_init {l : Launch} {D : va_G} {cy : Nat → ClassId} {w : zW} {f : zF} {t : Nat} (ht : t < w.1) : zSd l D cy yX3_init cX3_init 1 none 1 20 [.ref (w.2 (t))] w f none f := by
  refine zSd.intro (by decide) (Nat.le_of_ble_eq_true rfl) (fun G X E => ?_)
  show G (w, 0, 0) f [(0, .ref (w.2 (t)))] 0 []
  refine zr_aload_n X 0 dX3_init_0 rfl rfl ?_
  refine zr_objInit X zm_1_45 (by decide) (by decide) dX3_init_1 ?_
  exact zret_v E rfl dX3_init_4 rfl
set_option maxHeartbeats 4000000 in
set_option maxRecDepth 100000 in
theorem k_Sett_init {l : Launch} {D : va_G} {cy : Nat → ClassId} {w : zW} {f : zF} {t : Nat} {v : Nat → Int32} (ht : t < w.1) (hf : f t = eSett v) : zSd l D cy yX6_init cX6_init 1 none 1 20 [.ref (w.2 (t))] w f none (va_up f t (eSett (upd (upd (upd (upd v 0 2) 1 100) 2 3) 3 10))) := by
  refine zSd.intro (by decide) (Nat.le_of_ble_eq_true rfl) (fun G X E => ?_)
  show G (w, 0, 0) f [(0, .ref (w.2 (t)))] 0 []
  refine zr_aload_n X 0 dX6_init_0 rfl rfl ?_
  refine zr_objInit X zm_1_92 (by decide) (by decide) dX6_init_1 ?_
  refine zr_aload_n X 0 dX6_init_4 rfl rfl ?_
  refine zr_iconst X (v := 2) dX6_init_5 (by decide) ?_
  refine zr_put X zfd_RX6_9 zty_6_0 (t) ht hf rfl rfl (Nat.le_of_ble_eq_true rfl) (eSett_set _ _ 0 (by decide)) dX6_init_6 ?_
  refine zr_aload_n X 0 dX6_init_9 rfl rfl ?_
  refine zr_bipush X (v := 100) dX6_init_10 (by decide) ?_
  refine zr_put X zfd_RX6_15 zty_6_1 (t) ht (va_up_self _ _ _) rfl rfl (Nat.le_of_ble_eq_true rfl) (eSett_set _ _ 1 (by decide)) dX6_init_12 ?_
  rw [va_up_up]
  refine zr_aload_n X 0 dX6_init_15 rfl rfl ?_
  refine zr_iconst X (v := 3) dX6_init_16 (by decide) ?_
  refine zr_put X zfd_RX6_18 zty_6_2 (t) ht (va_up_self _ _ _) rfl rfl (Nat.le_of_ble_eq_true rfl) (eSett_set _ _ 2 (by decide)) dX6_init_17 ?_
  rw [va_up_up]
  refine zr_aload_n X 0 dX6_init_20 rfl rfl ?_
  refine zr_bipush X (v := 10) dX6_init_21 (by decide) ?_
  refine zr_put X zfd_RX6_21 zty_6_3 (t) ht (va_up_self _ _ _) rfl rfl (Nat.le_of_ble_eq_true rfl) (eSett_set _ _ 3 (by decide)) dX6_init_23 ?_
  rw [va_up_up]
  exact zret_v E rfl dX6_init_26 rfl
theorem k_Shelf_init {l : Launch} {D : va_G} {cy : Nat → ClassId} {w : zW} {f : zF} {t : Nat} (ht : t < w.1) (hf : f t = .inr (7, [.null])) : zM l D cy yX7_init cX7_init 1 none { frames := 1, cells := 1, slots := 21, locals := 40 } [.ref (w.2 t)] w f (fun r w' g => r = none ∧ w'.1 = w.1 + 1 ∧ (∀ i, i < w.1 → w'.2 i = w.2 i) ∧ g = va_up (va_up f w.1 (eInts cy 21 (fun _ => 0))) t (.inr (7, [.ref (w'.2 w.1)]))) := by
  refine zM.intro (by decide) (Nat.le_of_ble_eq_true rfl) (fun G X E => ?_)
  show G (w, 0, 0) f [(0, .ref (w.2 t))] 0 []
  refine zr_aload_n X 0 dX7_init_0 rfl rfl ?_
  refine zr_objInit X zm_1_34 (by decide) (by decide) dX7_init_1 ?_
  refine zr_aload_n X 0 dX7_init_4 rfl rfl ?_
  refine zr_bipush X (v := 21) dX7_init_5 (by decide) ?_
  refine zr_newa X (atype := .int) (b := 0) (N' := 21) (ty := .int) (a0 := (21, .inl (fun _ => 0))) zw_ac_int rfl rfl (fun U cA h => h) (fun cA => rfl) (by decide) (by decide) (by decide) (Nat.le_of_ble_eq_true rfl) (Nat.le_of_ble_eq_true rfl) dX7_init_7 (fun w1 hw1 hag => ?_)
  show G (w1, 1, 21) (va_up f w.1 (eInts cy 21 (fun _ => 0))) [(0, .ref (w.2 t))] 9 [.ref (w1.2 w.1), .ref (w.2 t)]
  rw [← hag t ht]
  have hne : t ≠ w.1 := Nat.ne_of_lt ht
  have hw1' : w1.1 = w.1 + 1 := hw1
  refine zr_putF X zfd_RX7_9 zty_7_0 rfl t (show t < w1.1 by omega) ((va_up_ne _ _ hne).trans hf) rfl rfl (Nat.le_of_ble_eq_true rfl) rfl dX7_init_9 ?_
  exact E.2.1 (w1, 1, 21) _ _ _ rfl dX7_init_12 (Nat.le_refl _) (Nat.le_refl _) ⟨by show w.1 ≤ w1.1; omega, hag⟩ ⟨rfl, hw1', hag, rfl⟩
