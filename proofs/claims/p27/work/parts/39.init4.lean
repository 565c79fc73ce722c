set_option maxHeartbeats 4000000 in
set_option maxRecDepth 100000 in
theorem k_Orders_init {l : Launch} {D : va_G} {cy : Nat → ClassId} {w : zW} {f : zF} {t : Nat} (hb : w.1 = t + 1) (h0 : f t = .inr (5, [.null, .null, .int 0, .int 0, .int 0, .int 0, .int 0])) : zM l D cy yX5_init cX5_init 1 none { frames := 1, cells := 2, slots := 63, locals := 40 } [.ref (w.2 t)] w f (fun r w' g => r = none ∧ w'.1 = w.1 + 2 ∧ (∀ i, i < w.1 → w'.2 i = w.2 i) ∧ g = (va_up (va_up (va_up f (t + 1) (eChars cy 60 (fun _ => 0))) (t + 2) (eInts cy 3 (fun _ => 0))) (t) (.inr (5, [.ref (w'.2 (t + 1)), .ref (w'.2 (t + 2)), .int 0, .int 0, .int 0, .int 0, .int 0])))) := by
  refine zM.intro (by decide) (Nat.le_of_ble_eq_true rfl) (fun G X E => ?_)
  show G (w, 0, 0) f [(0, .ref (w.2 t))] 0 []
  refine zr_aload_n X 0 dX5_init_0 rfl rfl ?_
  refine zr_objInit X zm_1_233 (by decide) (by decide) dX5_init_1 ?_
  refine zr_aload_n X 0 dX5_init_4 rfl rfl ?_
  refine zr_bipush X (v := 60) dX5_init_5 (by decide) ?_
  refine zr_newa X (atype := .char) (b := 1) (N' := 60) (ty := .char) (a0 := (60, .inl (fun _ => 0))) zw_ac_char rfl rfl (fun U cA h => h) (fun cA => rfl) (by decide) (by decide) (by decide) (Nat.le_of_ble_eq_true rfl) (Nat.le_of_ble_eq_true rfl) dX5_init_7 (fun w1 hw1 hag1 => ?_)
  have n1 : w1.1 = t + 2 := by have q : w1.1 = w.1 + 1 := hw1; rw [q, hb]
  have a1 : ∀ i, i < t + 1 → w1.2 i = w.2 i := fun i h => hag1 i (by show i < w.1; rw [hb]; exact h)
  have z1 : ∀ i, i < t + 1 → w1.2 i = w.2 i := fun i h => (a1 i (by omega))
  show G (w1, 1, 60) (va_up f w.1 (eChars cy 60 (fun _ => 0))) [(0, .ref (w.2 t))] 9 [.ref (w1.2 w.1), .ref (w.2 t)]
  rw [← a1 (t) (by omega), hb]
  show G (w1, 1, 60) (va_up f (t + 1) (eChars cy 60 (fun _ => 0))) [(0, .ref (w1.2 t))] 9 [.ref (w1.2 (t + 1)), .ref (w1.2 t)]
  refine zr_putF X zfd_RX5_9 zty_5_0 rfl t (show t < w1.1 by omega) ((va_up_ne _ _ (by omega)).trans h0) (fs' := [.ref (w1.2 (t + 1)), .null, .int 0, .int 0, .int 0, .int 0, .int 0]) rfl rfl (Nat.le_of_ble_eq_true rfl) rfl dX5_init_9 ?_
  refine zr_aload_n X 0 dX5_init_12 rfl rfl ?_
  refine zr_iconst X (v := 3) dX5_init_13 (by decide) ?_
  refine zr_newa X (atype := .int) (b := 0) (N' := 3) (ty := .int) (a0 := (3, .inl (fun _ => 0))) zw_ac_int rfl rfl (fun U cA h => h) (fun cA => rfl) (by decide) (by decide) (by decide) (Nat.le_of_ble_eq_true rfl) (Nat.le_of_ble_eq_true rfl) dX5_init_14 (fun w2 hw2 hag2 => ?_)
  have n2 : w2.1 = t + 3 := by have q : w2.1 = w1.1 + 1 := hw2; rw [q, n1]
  have a2 : ∀ i, i < t + 2 → w2.2 i = w1.2 i := fun i h => hag2 i (by show i < w1.1; rw [n1]; exact h)
  have z2 : ∀ i, i < t + 1 → w2.2 i = w.2 i := fun i h => (a2 i (by omega)).trans (z1 i h)
  show G (w2, 2, 63) (va_up (va_up (va_up f (t + 1) (eChars cy 60 (fun _ => 0))) (t) (.inr (5, [.ref (w1.2 (t + 1)), .null, .int 0, .int 0, .int 0, .int 0, .int 0]))) w1.1 (eInts cy 3 (fun _ => 0))) [(0, .ref (w1.2 t))] 16 [.ref (w2.2 w1.1), .ref (w1.2 t)]
  rw [← a2 (t) (by omega), ← a2 (t + 1) (by omega), n1]
  show G (w2, 2, 63) (va_up (va_up (va_up f (t + 1) (eChars cy 60 (fun _ => 0))) (t) (.inr (5, [.ref (w2.2 (t + 1)), .null, .int 0, .int 0, .int 0, .int 0, .int 0]))) (t + 2) (eInts cy 3 (fun _ => 0))) [(0, .ref (w2.2 t))] 16 [.ref (w2.2 (t + 2)), .ref (w2.2 t)]
  refine zr_putF X zfd_RX5_15 zty_5_1 rfl t (show t < w2.1 by omega) ((va_up_ne _ _ (by omega)).trans (va_up_self _ _ _)) (fs' := [.ref (w2.2 (t + 1)), .ref (w2.2 (t + 2)), .int 0, .int 0, .int 0, .int 0, .int 0]) rfl rfl (Nat.le_of_ble_eq_true rfl) rfl dX5_init_16 ?_
  have eW : (va_up (va_up (va_up (va_up f (t + 1) (eChars cy 60 (fun _ => 0))) (t) (.inr (5, [.ref (w2.2 (t + 1)), .null, .int 0, .int 0, .int 0, .int 0, .int 0]))) (t + 2) (eInts cy 3 (fun _ => 0))) (t) (.inr (5, [.ref (w2.2 (t + 1)), .ref (w2.2 (t + 2)), .int 0, .int 0, .int 0, .int 0, .int 0]))) = (va_up (va_up (va_up f (t + 1) (eChars cy 60 (fun _ => 0))) (t + 2) (eInts cy 3 (fun _ => 0))) (t) (.inr (5, [.ref (w2.2 (t + 1)), .ref (w2.2 (t + 2)), .int 0, .int 0, .int 0, .int 0, .int 0]))) := by
    funext u
    by_cases et1 : u = t + 1
    · subst et1; exact (((va_up_ne _ _ (by omega)).trans ((va_up_ne _ _ (by omega)).trans ((va_up_ne _ _ (by omega)).trans (va_up_self _ _ _))))).trans (((va_up_ne _ _ (by omega)).trans ((va_up_ne _ _ (by omega)).trans (va_up_self _ _ _)))).symm
    by_cases et2 : u = t + 2
    · subst et2; exact (((va_up_ne _ _ (by omega)).trans (va_up_self _ _ _))).trans (((va_up_ne _ _ (by omega)).trans (va_up_self _ _ _))).symm
    by_cases et : u = t
    · subst et; exact ((va_up_self _ _ _)).trans ((va_up_self _ _ _)).symm
    exact ((va_up_ne _ _ (by omega)).trans ((va_up_ne _ _ (by omega)).trans ((va_up_ne _ _ (by omega)).trans ((va_up_ne _ _ (by omega)).trans rfl)))).trans ((va_up_ne _ _ (by omega)).trans ((va_up_ne _ _ (by omega)).trans ((va_up_ne _ _ (by omega)).trans rfl))).symm
  rw [eW]
  exact E.2.1 (w2, 2, 63) _ _ _ rfl dX5_init_19 (Nat.le_of_ble_eq_true rfl) (Nat.le_of_ble_eq_true rfl) ⟨by show w.1 ≤ w2.1; omega, fun i hi => z2 i (by omega)⟩ ⟨rfl, by show w2.1 = w.1 + 2; omega, fun i hi => z2 i (by omega), rfl⟩