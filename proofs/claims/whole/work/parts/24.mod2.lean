def dGoS (k : Nat) (n : Nat) (s : Nat → Int32) : Nat → Int32 := upd s (55 + 6 * k + n) (s (55 + 6 * k + n + 6))
def dGoL (s : Nat → Int32) (k b n : Nat) : Nat → Int32 := zfold (dGoS k) (upd s 1 (nI b)) n
def dGo (s : Nat → Int32) (k b : Nat) : Nat → Int32 := dGoL s k b (6 * (b - k))
theorem dGoL_s {s : Nat → Int32} {k b n : Nat} : dGoL s k b (n + 1) = dGoS k n (dGoL s k b n) := rfl
theorem dGoL_lo {s : Nat → Int32} {k b : Nat} {i : Nat} (h : i < 55) : ∀ n, dGoL s k b n i = upd s 1 (nI b) i
  | 0 => rfl
  | n + 1 => (upd_ne (by omega)).trans (dGoL_lo h n)
theorem dGoL_1 {s : Nat → Int32} {k b n : Nat} : dGoL s k b n 1 = nI b := (dGoL_lo (by decide) n).trans upd_eq
theorem dGo_lo {s : Nat → Int32} {k b i : Nat} (h : i < 55) (h1 : i ≠ 1) : dGo s k b i = s i := (dGoL_lo h _).trans (upd_ne h1)
theorem dGo_1 {s : Nat → Int32} {k b : Nat} : dGo s k b 1 = nI b := dGoL_1
theorem zlt_s {b : Nat} {x : Int32} (hx : x = nI b) : (55 : Int32) + 6 * x = nI (55 + 6 * b) := zi9' (c := 55) (n := 6) hx
set_option maxHeartbeats 4000000 in
set_option maxRecDepth 100000 in
theorem k_goes {l : Launch} {D : va_G} {cy : Nat → ClassId} {w : zW} {f : zF} {v s nu : Nat → Int32} {x : Int32} {k b : Nat} (hw : w.1 = 139) (hx : x = nI k) (hg : s 1 = nI (b + 1)) (hk : k ≤ b) (hb : b < 10) : zSd l D cy yX9_goes cX9_goes 3 none 0 0 [.ref (w.2 (132)), .int (x)] w (mW w cy f v s nu) none (mW w cy f v (dGo s k b) nu) := by
  refine zSd.intro (by decide) (Nat.le_of_ble_eq_true rfl) (fun G X E => ?_)
  show G (w, 0, 0) (mW w cy f v s nu) [(0, .ref (w.2 (132))), (1, .int (x))] 0 []
  refine zr_aload_n X 0 dX9_goes_0 rfl rfl ?_
  refine zr_get X zfd_RX9_7 (132) (show 132 < w.1 by rw [hw]; omega) mW_132 (v := .ref (w.2 (133))) rfl dX9_goes_1 ?_
  refine zr_iconst X (v := 1) dX9_goes_4 (by decide) ?_
  refine zr_dup2 X dX9_goes_5 rfl rfl ?_
  refine zr_iald X (133) (show 133 < w.1 by rw [hw]; omega) mW_133 (1) (rfl) (by decide) (by decide) dX9_goes_6 ?_
  refine zr_iconst X (v := 1) dX9_goes_7 (by decide) ?_
  refine zr_isub X dX9_goes_8 ?_
  refine zr_iast X (133) (show 133 < w.1 by rw [hw]; omega) mW_133 (1) (rfl) (by decide) (by decide) dX9_goes_9 ?_
  refine zcw (f2 := mW w cy f v (dGoL s k b 0) nu) (mu_133.trans (by rw [hg, nI_pred9]; rfl)) ?_
  refine zr_bipush X (v := 55) dX9_goes_10 (by decide) ?_
  refine zr_bipush X (v := 6) dX9_goes_12 (by decide) ?_
  refine zr_iload_n X 1 dX9_goes_14 rfl rfl ?_
  refine zr_imul X dX9_goes_15 ?_
  refine zr_iadd X dX9_goes_16 ?_
  refine zr_istore_n X (ls' := [(2, .int (55 + (6 * x))), (0, .ref (w.2 (132))), (1, .int (x))]) dX9_goes_17 rfl (by decide) rfl ?_
  refine zr_loc X (ls' := [(0, .ref (w.2 (132))), (1, .int (x)), (2, .int (55 + (6 * x)))]) [1, 2, 0] rfl ?_
  refine zcast (f2 := mW w cy f v (dGoL s k b (0)) nu) (ls2 := [(0, .ref (w.2 (132))), (1, .int (x)), (2, .int (nI (55 + 6 * k + (0))))]) rfl (by rw [zlt_s hx]; rfl) ?_
  refine zdown (P := fun n => G (w, 0, 0) (mW w cy f v (dGoL s k b (n)) nu) [(0, .ref (w.2 (132))), (1, .int (x)), (2, .int (nI (55 + 6 * k + (n))))] 18 []) (B := 6 * (b - k)) ?_ (fun n hn18 ih18 => ?_) 0 (Nat.zero_le _) 
  · show G (w, 0, 0) (mW w cy f v (dGoL s k b (6 * (b - k))) nu) [(0, .ref (w.2 (132))), (1, .int (x)), (2, .int (nI (55 + 6 * k + (6 * (b - k)))))] 18 []
    refine zr_iload_n X 2 dX9_goes_18 rfl rfl ?_
    refine zr_bipush X (v := 55) dX9_goes_19 (by decide) ?_
    refine zr_bipush X (v := 6) dX9_goes_21 (by decide) ?_
    refine zr_aload_n X 0 dX9_goes_23 rfl rfl ?_
    refine zr_get X zfd_RX9_7 (132) (show 132 < w.1 by rw [hw]; omega) mW_132 (v := .ref (w.2 (133))) rfl dX9_goes_24 ?_
    refine zr_iconst X (v := 1) dX9_goes_27 (by decide) ?_
    refine zr_iald X (133) (show 133 < w.1 by rw [hw]; omega) mW_133 (1) (rfl) (by decide) (by decide) dX9_goes_28 ?_
    refine zr_imul X dX9_goes_29 ?_
    refine zr_iadd X dX9_goes_30 ?_
    refine zr_icmp_ge X (tgt := 55) dX9_goes_31 (by decide) (fun _ => ?_) (fun h => False.elim (h (by rw [zlt_s dGoL_1, show 55 + 6 * k + 6 * (b - k) = 55 + 6 * b by omega]; exact Int32.le_refl _)))
    exact zret_v E rfl dX9_goes_55 rfl
  · show G (w, 0, 0) (mW w cy f v (dGoL s k b (n)) nu) [(0, .ref (w.2 (132))), (1, .int (x)), (2, .int (nI (55 + 6 * k + (n))))] 18 []
    refine zr_iload_n X 2 dX9_goes_18 rfl rfl ?_
    refine zr_bipush X (v := 55) dX9_goes_19 (by decide) ?_
    refine zr_bipush X (v := 6) dX9_goes_21 (by decide) ?_
    refine zr_aload_n X 0 dX9_goes_23 rfl rfl ?_
    refine zr_get X zfd_RX9_7 (132) (show 132 < w.1 by rw [hw]; omega) mW_132 (v := .ref (w.2 (133))) rfl dX9_goes_24 ?_
    refine zr_iconst X (v := 1) dX9_goes_27 (by decide) ?_
    refine zr_iald X (133) (show 133 < w.1 by rw [hw]; omega) mW_133 (1) (rfl) (by decide) (by decide) dX9_goes_28 ?_
    refine zr_imul X dX9_goes_29 ?_
    refine zr_iadd X dX9_goes_30 ?_
    refine zr_icmp_ge X (tgt := 55) dX9_goes_31 (by decide) (fun h => False.elim (nI_ge (show 55 + 6 * k + n < 55 + 6 * b by omega) (by omega) (by rw [← zlt_s (dGoL_1 (s := s) (k := k) (n := n))]; exact h))) (fun _ => ?_)
    refine zr_aload_n X 0 dX9_goes_34 rfl rfl ?_
    refine zr_get X zfd_RX9_7 (132) (show 132 < w.1 by rw [hw]; omega) mW_132 (v := .ref (w.2 (133))) rfl dX9_goes_35 ?_
    refine zr_iload_n X 2 dX9_goes_38 rfl rfl ?_
    refine zr_aload_n X 0 dX9_goes_39 rfl rfl ?_
    refine zr_get X zfd_RX9_7 (132) (show 132 < w.1 by rw [hw]; omega) mW_132 (v := .ref (w.2 (133))) rfl dX9_goes_40 ?_
    refine zr_iload_n X 2 dX9_goes_43 rfl rfl ?_
    refine zr_bipush X (v := 6) dX9_goes_44 (by decide) ?_
    refine zr_iadd X dX9_goes_46 ?_
    refine zr_iald X (133) (show 133 < w.1 by rw [hw]; omega) mW_133 (55 + 6 * k + n + 6) (nI_add _ 6) (by omega) (by decide) dX9_goes_47 ?_
    refine zr_iast X (133) (show 133 < w.1 by rw [hw]; omega) mW_133 (55 + 6 * k + n) (rfl) (by omega) (by decide) dX9_goes_48 ?_
    refine zcw (f2 := mW w cy f v (dGoL s k b (n + 1)) nu) mu_133 ?_
    refine zr_iinc X (v := nI (55 + 6 * k + (n) + 1)) (ls' := [(2, .int (nI (55 + 6 * k + (n) + 1))), (0, .ref (w.2 (132))), (1, .int (x))]) 2 dX9_goes_49 rfl (zinc1 _) (by decide) rfl ?_
    refine zr_goto X (tgt := 18) dX9_goes_52 (by decide) ?_
    refine zr_loc X (ls' := [(0, .ref (w.2 (132))), (1, .int (x)), (2, .int (nI (55 + 6 * k + (n) + 1)))]) [1, 2, 0] rfl ?_
    exact zcast (f2 := mW w cy f v (dGoL s k b (n + 1)) nu) (ls2 := [(0, .ref (w.2 (132))), (1, .int (x)), (2, .int (nI (55 + 6 * k + (n + 1))))]) rfl rfl ih18
theorem dTk_lo {s : Nat → Int32} {g : Nat} {x : Int32} {i : Nat} (h : i < 115) : ∀ n, (dTk s g x n).1 i = s i
  | 0 => rfl
  | n + 1 => (upd_ne (by omega)).trans (dTk_lo h n)
theorem dTake_lo {s : Nat → Int32} {g e : Nat} {x : Int32} {i : Nat} (h : i < 115) (h2 : i ≠ 8) : dTake s g e x i = s i := (upd_ne h2).trans (dTk_lo h _)
def dWh (s : Nat → Int32) (k fr : Nat) : Int32 := zmin ((s (55 + 6 * k + 1) + 1) / 2) (dLF s 0 (fr + 1 - 0))
def dE1 (s : Nat → Int32) (k fr : Nat) : Nat → Int32 := dTake s fr 0 (dWh s k fr)
def dSo (s : Nat → Int32) (k fr : Nat) : Int32 := zmin ((s (55 + 6 * k + 1) + 1) / 2 - dWh s k fr) (dLF (dE1 s k fr) (fr + 1) (20 + 1 - (fr + 1)) / 2)
def dE2 (s : Nat → Int32) (k fr : Nat) : Nat → Int32 := dTake (dE1 s k fr) 20 (fr + 1) (2 * dSo s k fr)
def dE3 (t : Nat → Int32) (k : Nat) (pays hungry : Int32) : Nat → Int32 :=
  let t1 := upd t (55 + 6 * k + 4) (t (55 + 6 * k + 4) + pays)
  let t2 := upd t1 (55 + 6 * k + 5) (t1 (55 + 6 * k + 5) + hungry)
  let t3 := upd t2 12 (t2 12 + hungry)
  let t4 := upd t3 5 (t3 5 + pays)
  upd t4 13 (t4 13 + pays)
def dEat (s : Nat → Int32) (k fr : Nat) : Nat → Int32 := if (s (55 + 6 * k + 1) + 1) / 2 ≤ dWh s k fr + dSo s k fr then (if dSo s k fr ≤ 0 then dE3 (dE2 s k fr) k (s (55 + 6 * k + 1) * 3) 0 else dE3 (dE2 s k fr) k (s (55 + 6 * k + 1) * 2) 0) else dE3 (dE2 s k fr) k (s (55 + 6 * k + 1) * 1) 1
theorem dE1_lo {s : Nat → Int32} {k fr i : Nat} (h : i < 115) (h2 : i ≠ 8) : dE1 s k fr i = s i := dTake_lo h h2
theorem dE2_lo {s : Nat → Int32} {k fr i : Nat} (h : i < 115) (h2 : i ≠ 8) : dE2 s k fr i = s i := (dTake_lo h h2).trans (dE1_lo h h2)
set_option maxHeartbeats 4000000 in
set_option maxRecDepth 100000 in
theorem k_eats {l : Launch} {D : va_G} {cy : Nat → ClassId} {w : zW} {f : zF} {v s nu : Nat → Int32} {x : Int32} {k fr : Nat} (hw : w.1 = 139) (hx : x = nI k) (hk : k < 10) (hf : s 17 = nI fr) (hfr : fr ≤ 15) : zSd l D cy yX9_eats cX9_eats 8 none 2 47 [.ref (w.2 (132)), .int (x)] w (mW w cy f v s nu) none (mW w cy f v (dEat s k fr) nu) := by
  refine zSd.intro (by decide) (Nat.le_of_ble_eq_true rfl) (fun G X E => ?_)
  show G (w, 0, 0) (mW w cy f v s nu) [(0, .ref (w.2 (132))), (1, .int (x))] 0 []
  refine zr_aload_n X 0 dX9_eats_0 rfl rfl ?_
  refine zr_iload_n X 1 dX9_eats_1 rfl rfl ?_
  refine zr_iconst X (v := 1) dX9_eats_2 (by decide) ?_
  refine zr_cV X (As := [.int (x), .int (1)]) (rest := []) (f' := mW w cy f v s nu) (st' := [.int (s (55 + 6 * k + 1))]) zc_X9_ofGroup (132) (show 132 < w.1 by rw [hw]; omega) mW_132 (q9 := _) rfl rfl (k_ofGroup (k := k) (i := 1) hw hx rfl (by omega) (by omega)) ⟨Nat.le_of_ble_eq_true rfl, Nat.le_of_ble_eq_true rfl⟩ ⟨Nat.le_refl _, Nat.le_refl _⟩ rfl (Nat.le_of_ble_eq_true rfl) zm_4_37 rfl dX9_eats_3 rfl ?_
  refine zr_istore_n X (ls' := [(2, .int (s (55 + 6 * k + 1))), (0, .ref (w.2 (132))), (1, .int (x))]) dX9_eats_6 rfl (by decide) rfl ?_
  refine zr_iload_n X 0 dX9_eats_7 rfl rfl ?_
  have kwants9 := k_wants (l := l) (D := D) (cy := cy) (w := w) (f := f) (v := v) (s := s) (nu := nu) (x := s (55 + 6 * k + 1)) hw
  refine zr_cS X (As := [.int (s (55 + 6 * k + 1))]) (rest := []) (f' := mW w cy f v s nu) (st' := [.int (((s (55 + 6 * k + 1)) + 1) / 2)]) zc_X9_wants kwants9 ⟨Nat.le_of_ble_eq_true rfl, Nat.le_of_ble_eq_true rfl⟩ ⟨Nat.le_refl _, Nat.le_refl _⟩ rfl (Nat.le_of_ble_eq_true rfl) zm_4_89 rfl dX9_eats_8 rfl ?_
  refine zr_istore_n X (ls' := [(3, .int (((s (55 + 6 * k + 1)) + 1) / 2)), (2, .int (s (55 + 6 * k + 1))), (0, .ref (w.2 (132))), (1, .int (x))]) dX9_eats_11 rfl (by decide) rfl ?_
  refine zr_iload_n X 0 dX9_eats_12 rfl rfl ?_
  refine zr_aload_n X 2 dX9_eats_13 rfl rfl ?_
  refine zr_iconst X (v := 0) dX9_eats_14 (by decide) ?_
  refine zr_aload_n X 2 dX9_eats_15 rfl rfl ?_
  refine zr_get X zfd_RX9_7 (132) (show 132 < w.1 by rw [hw]; omega) mW_132 (v := .ref (w.2 (133))) rfl dX9_eats_16 ?_
  refine zr_bipush X (v := 17) dX9_eats_19 (by decide) ?_
  refine zr_iald X (133) (show 133 < w.1 by rw [hw]; omega) mW_133 (17) (rfl) (by decide) (by decide) dX9_eats_21 ?_
  refine zr_cV X (As := [.int (0), .int (s 17)]) (rest := [.int (((s (55 + 6 * k + 1)) + 1) / 2)]) (f' := mW w cy f v s nu) (st' := [.int (dLF s 0 (fr + 1 - 0)), .int (((s (55 + 6 * k + 1)) + 1) / 2)]) zc_X9_loavesFrom (132) (show 132 < w.1 by rw [hw]; omega) mW_132 (q9 := _) rfl rfl (k_loavesFrom (a := 0) (b := fr) hw rfl hf (by decide) (by omega)) ⟨Nat.le_of_ble_eq_true rfl, Nat.le_of_ble_eq_true rfl⟩ ⟨Nat.le_refl _, Nat.le_refl _⟩ rfl (Nat.le_of_ble_eq_true rfl) zm_4_70 rfl dX9_eats_22 rfl ?_
  have kl9 := k_lesser (l := l) (D := D) (cy := cy) (w := w) (f := mW w cy f v s nu) (a := (s (55 + 6 * k + 1) + 1) / 2) (b := dLF s 0 (fr + 1 - 0))
  refine zr_cS X (As := [.int (((s (55 + 6 * k + 1)) + 1) / 2), .int (dLF s 0 (fr + 1 - 0))]) (rest := []) (f' := mW w cy f v s nu) (st' := [.int (dWh s k fr)]) zc_X9_lesser kl9 ⟨Nat.le_of_ble_eq_true rfl, Nat.le_of_ble_eq_true rfl⟩ ⟨Nat.le_refl _, Nat.le_refl _⟩ rfl (Nat.le_of_ble_eq_true rfl) zm_4_74 rfl dX9_eats_25 rfl ?_
  refine zr_istore X (ls' := [(4, .int (dWh s k fr)), (3, .int (((s (55 + 6 * k + 1)) + 1) / 2)), (2, .int (s (55 + 6 * k + 1))), (0, .ref (w.2 (132))), (1, .int (x))]) dX9_eats_28 (by decide) rfl ?_
  refine zr_aload_n X 3 dX9_eats_30 rfl rfl ?_
  refine zr_iload X 0 dX9_eats_31 rfl ?_
  refine zr_aload_n X 3 dX9_eats_33 rfl rfl ?_
  refine zr_get X zfd_RX9_7 (132) (show 132 < w.1 by rw [hw]; omega) mW_132 (v := .ref (w.2 (133))) rfl dX9_eats_34 ?_
  refine zr_bipush X (v := 17) dX9_eats_37 (by decide) ?_
  refine zr_iald X (133) (show 133 < w.1 by rw [hw]; omega) mW_133 (17) (rfl) (by decide) (by decide) dX9_eats_39 ?_
  refine zr_iconst X (v := 0) dX9_eats_40 (by decide) ?_
  refine zr_cV X (As := [.int (dWh s k fr), .int (s 17), .int (0)]) (rest := []) (f' := mW w cy f v (dE1 s k fr) nu) (st' := []) zc_X9_takes (132) (show 132 < w.1 by rw [hw]; omega) mW_132 (q9 := _) rfl rfl (k_takes (g := fr) (e := 0) hw hf rfl (by omega) (by omega)) ⟨Nat.le_of_ble_eq_true rfl, Nat.le_of_ble_eq_true rfl⟩ ⟨Nat.le_refl _, Nat.le_refl _⟩ rfl (Nat.le_of_ble_eq_true rfl) zm_4_92 rfl dX9_eats_41 rfl ?_
  refine zr_iload_n X 1 dX9_eats_44 rfl rfl ?_
  refine zr_iload X 0 dX9_eats_45 rfl ?_
  refine zr_isub X dX9_eats_47 ?_
  refine zr_aload_n X 3 dX9_eats_48 rfl rfl ?_
  refine zr_cV X (As := []) (rest := [.int ((((s (55 + 6 * k + 1)) + 1) / 2) - (dWh s k fr))]) (f' := mW w cy f v (dE1 s k fr) nu) (st' := [.int (dLF (dE1 s k fr) (fr + 1) (20 + 1 - (fr + 1))), .int ((((s (55 + 6 * k + 1)) + 1) / 2) - (dWh s k fr))]) zc_X9_stale (132) (show 132 < w.1 by rw [hw]; omega) mW_132 (q9 := _) rfl rfl (k_stale hw ((dE1_lo (by decide) (by decide)).trans hf) hfr) ⟨Nat.le_of_ble_eq_true rfl, Nat.le_of_ble_eq_true rfl⟩ ⟨Nat.le_refl _, Nat.le_refl _⟩ rfl (Nat.le_of_ble_eq_true rfl) zm_4_96 rfl dX9_eats_49 rfl ?_
  refine zr_iconst X (v := 2) dX9_eats_52 (by decide) ?_
  refine zr_idiv X dX9_eats_53 (by decide) ?_
  have kl9 := k_lesser (l := l) (D := D) (cy := cy) (w := w) (f := mW w cy f v (dE1 s k fr) nu) (a := (s (55 + 6 * k + 1) + 1) / 2 - dWh s k fr) (b := dLF (dE1 s k fr) (fr + 1) (20 + 1 - (fr + 1)) / 2)
  refine zr_cS X (As := [.int ((((s (55 + 6 * k + 1)) + 1) / 2) - (dWh s k fr)), .int ((dLF (dE1 s k fr) (fr + 1) (20 + 1 - (fr + 1))) / 2)]) (rest := []) (f' := mW w cy f v (dE1 s k fr) nu) (st' := [.int (dSo s k fr)]) zc_X9_lesser kl9 ⟨Nat.le_of_ble_eq_true rfl, Nat.le_of_ble_eq_true rfl⟩ ⟨Nat.le_refl _, Nat.le_refl _⟩ rfl (Nat.le_of_ble_eq_true rfl) zm_4_74 rfl dX9_eats_54 rfl ?_
  refine zr_istore X (ls' := [(5, .int (dSo s k fr)), (4, .int (dWh s k fr)), (3, .int (((s (55 + 6 * k + 1)) + 1) / 2)), (2, .int (s (55 + 6 * k + 1))), (0, .ref (w.2 (132))), (1, .int (x))]) dX9_eats_57 (by decide) rfl ?_
  refine zr_aload_n X 4 dX9_eats_59 rfl rfl ?_
  refine zr_iconst X (v := 2) dX9_eats_60 (by decide) ?_
  refine zr_iload X 0 dX9_eats_61 rfl ?_
  refine zr_imul X dX9_eats_63 ?_
  refine zr_bipush X (v := 20) dX9_eats_64 (by decide) ?_
  refine zr_aload_n X 4 dX9_eats_66 rfl rfl ?_
  refine zr_get X zfd_RX9_7 (132) (show 132 < w.1 by rw [hw]; omega) mW_132 (v := .ref (w.2 (133))) rfl dX9_eats_67 ?_
  refine zr_bipush X (v := 17) dX9_eats_70 (by decide) ?_
  refine zr_iald X (133) (show 133 < w.1 by rw [hw]; omega) mW_133 (17) (rfl) (by decide) (by decide) dX9_eats_72 ?_
  refine zr_iconst X (v := 1) dX9_eats_73 (by decide) ?_
  refine zr_iadd X dX9_eats_74 ?_
  refine zr_cV X (As := [.int (2 * (dSo s k fr)), .int (20), .int (((dE1 s k fr) 17) + 1)]) (rest := []) (f' := mW w cy f v (dE2 s k fr) nu) (st' := []) zc_X9_takes (132) (show 132 < w.1 by rw [hw]; omega) mW_132 (q9 := _) rfl rfl (k_takes (g := 20) (e := fr + 1) hw rfl (by rw [dE1_lo (by decide) (by decide), hf]; exact nI_1 fr) (by decide) (by omega)) ⟨Nat.le_of_ble_eq_true rfl, Nat.le_of_ble_eq_true rfl⟩ ⟨Nat.le_refl _, Nat.le_refl _⟩ rfl (Nat.le_of_ble_eq_true rfl) zm_4_92 rfl dX9_eats_75 rfl ?_
  refine zr_iload X 1 dX9_eats_78 rfl ?_
  refine zr_iload X 0 dX9_eats_80 rfl ?_
  refine zr_iadd X dX9_eats_82 ?_
  refine zr_iload_n X 2 dX9_eats_83 rfl rfl ?_
  refine zr_icmp_ge X (tgt := 91) dX9_eats_84 (by decide) (fun h1 => ?_) (fun h2 => ?_)
  · refine zr_iconst X (v := 0) dX9_eats_91 (by decide) ?_
    refine zr_istore X (ls' := [(6, .int (0)), (5, .int (dSo s k fr)), (4, .int (dWh s k fr)), (3, .int (((s (55 + 6 * k + 1)) + 1) / 2)), (2, .int (s (55 + 6 * k + 1))), (0, .ref (w.2 (132))), (1, .int (x))]) dX9_eats_92 (by decide) rfl ?_
    refine zr_iload_n X 4 dX9_eats_94 rfl rfl ?_
    refine zr_iload X 0 dX9_eats_95 rfl ?_
    refine zr_if_eq X (tgt := 104) dX9_eats_97 (by decide) (fun _ => ?_) (fun h => absurd rfl h)
    refine zr_iload X 1 dX9_eats_104 rfl ?_
    refine zr_if_le X (tgt := 113) dX9_eats_106 (by decide) (fun h3 => ?_) (fun h4 => ?_)
    · refine zr_iconst X (v := 3) dX9_eats_113 (by decide) ?_
      refine zr_imul X dX9_eats_114 ?_
      refine zr_istore X (ls' := [(7, .int ((s (55 + 6 * k + 1)) * 3)), (6, .int (0)), (5, .int (dSo s k fr)), (4, .int (dWh s k fr)), (3, .int (((s (55 + 6 * k + 1)) + 1) / 2)), (2, .int (s (55 + 6 * k + 1))), (0, .ref (w.2 (132))), (1, .int (x))]) dX9_eats_115 (by decide) rfl ?_
      refine zr_aload_n X 6 dX9_eats_117 rfl rfl ?_
      refine zr_get X zfd_RX9_7 (132) (show 132 < w.1 by rw [hw]; omega) mW_132 (v := .ref (w.2 (133))) rfl dX9_eats_118 ?_
      refine zr_bipush X (v := 55) dX9_eats_121 (by decide) ?_
      refine zr_bipush X (v := 6) dX9_eats_123 (by decide) ?_
      refine zr_iload_n X 7 dX9_eats_125 rfl rfl ?_
      refine zr_imul X dX9_eats_126 ?_
      refine zr_iadd X dX9_eats_127 ?_
      refine zr_iconst X (v := 4) dX9_eats_128 (by decide) ?_
      refine zr_iadd X dX9_eats_129 ?_
      refine zr_dup2 X dX9_eats_130 rfl rfl ?_
      refine zr_iald X (133) (show 133 < w.1 by rw [hw]; omega) mW_133 (55 + 6 * k + 4) (zi9 (c := 55) (n := 6) hx (show (4 : Int32) = nI 4 from rfl)) (by omega) (by decide) dX9_eats_131 ?_
      refine zr_iload X 0 dX9_eats_132 rfl ?_
      refine zr_iadd X dX9_eats_134 ?_
      refine zr_iast X (133) (show 133 < w.1 by rw [hw]; omega) mW_133 (55 + 6 * k + 4) (zi9 (c := 55) (n := 6) hx (show (4 : Int32) = nI 4 from rfl)) (by omega) (by decide) dX9_eats_135 ?_
      refine zcw (f2 := mW w cy f v (upd (dE2 s k fr) (55 + 6 * k + 4) (((dE2 s k fr) (55 + 6 * k + 4)) + ((s (55 + 6 * k + 1)) * 3))) nu) mu_133 ?_
      refine zr_aload_n X 6 dX9_eats_136 rfl rfl ?_
      refine zr_get X zfd_RX9_7 (132) (show 132 < w.1 by rw [hw]; omega) mW_132 (v := .ref (w.2 (133))) rfl dX9_eats_137 ?_
      refine zr_bipush X (v := 55) dX9_eats_140 (by decide) ?_
      refine zr_bipush X (v := 6) dX9_eats_142 (by decide) ?_
      refine zr_iload_n X 7 dX9_eats_144 rfl rfl ?_
      refine zr_imul X dX9_eats_145 ?_
      refine zr_iadd X dX9_eats_146 ?_
      refine zr_iconst X (v := 5) dX9_eats_147 (by decide) ?_
      refine zr_iadd X dX9_eats_148 ?_
      refine zr_dup2 X dX9_eats_149 rfl rfl ?_
      refine zr_iald X (133) (show 133 < w.1 by rw [hw]; omega) mW_133 (55 + 6 * k + 5) (zi9 (c := 55) (n := 6) hx (show (5 : Int32) = nI 5 from rfl)) (by omega) (by decide) dX9_eats_150 ?_
      refine zr_iload X 1 dX9_eats_151 rfl ?_
      refine zr_if_eq X (tgt := 160) dX9_eats_153 (by decide) (fun _ => ?_) (fun h => absurd rfl h)
      refine zr_iconst X (v := 0) dX9_eats_160 (by decide) ?_
      refine zr_iadd X dX9_eats_161 ?_
      refine zr_iast X (133) (show 133 < w.1 by rw [hw]; omega) mW_133 (55 + 6 * k + 5) (zi9 (c := 55) (n := 6) hx (show (5 : Int32) = nI 5 from rfl)) (by omega) (by decide) dX9_eats_162 ?_
      refine zcw (f2 := mW w cy f v (upd (upd (dE2 s k fr) (55 + 6 * k + 4) (((dE2 s k fr) (55 + 6 * k + 4)) + ((s (55 + 6 * k + 1)) * 3))) (55 + 6 * k + 5) (((upd (dE2 s k fr) (55 + 6 * k + 4) (((dE2 s k fr) (55 + 6 * k + 4)) + ((s (55 + 6 * k + 1)) * 3))) (55 + 6 * k + 5)) + 0)) nu) mu_133 ?_
      refine zr_aload_n X 6 dX9_eats_163 rfl rfl ?_
      refine zr_get X zfd_RX9_7 (132) (show 132 < w.1 by rw [hw]; omega) mW_132 (v := .ref (w.2 (133))) rfl dX9_eats_164 ?_
      refine zr_bipush X (v := 12) dX9_eats_167 (by decide) ?_
      refine zr_dup2 X dX9_eats_169 rfl rfl ?_
      refine zr_iald X (133) (show 133 < w.1 by rw [hw]; omega) mW_133 (12) (rfl) (by decide) (by decide) dX9_eats_170 ?_
      refine zr_iload X 1 dX9_eats_171 rfl ?_
      refine zr_if_eq X (tgt := 180) dX9_eats_173 (by decide) (fun _ => ?_) (fun h => absurd rfl h)
      refine zr_iconst X (v := 0) dX9_eats_180 (by decide) ?_
      refine zr_iadd X dX9_eats_181 ?_
      refine zr_iast X (133) (show 133 < w.1 by rw [hw]; omega) mW_133 (12) (rfl) (by decide) (by decide) dX9_eats_182 ?_
      refine zcw (f2 := mW w cy f v (upd (upd (upd (dE2 s k fr) (55 + 6 * k + 4) (((dE2 s k fr) (55 + 6 * k + 4)) + ((s (55 + 6 * k + 1)) * 3))) (55 + 6 * k + 5) (((upd (dE2 s k fr) (55 + 6 * k + 4) (((dE2 s k fr) (55 + 6 * k + 4)) + ((s (55 + 6 * k + 1)) * 3))) (55 + 6 * k + 5)) + 0)) 12 (((upd (upd (dE2 s k fr) (55 + 6 * k + 4) (((dE2 s k fr) (55 + 6 * k + 4)) + ((s (55 + 6 * k + 1)) * 3))) (55 + 6 * k + 5) (((upd (dE2 s k fr) (55 + 6 * k + 4) (((dE2 s k fr) (55 + 6 * k + 4)) + ((s (55 + 6 * k + 1)) * 3))) (55 + 6 * k + 5)) + 0)) 12) + 0)) nu) mu_133 ?_
      refine zr_aload_n X 6 dX9_eats_183 rfl rfl ?_
      refine zr_get X zfd_RX9_7 (132) (show 132 < w.1 by rw [hw]; omega) mW_132 (v := .ref (w.2 (133))) rfl dX9_eats_184 ?_
      refine zr_iconst X (v := 5) dX9_eats_187 (by decide) ?_
      refine zr_dup2 X dX9_eats_188 rfl rfl ?_
      refine zr_iald X (133) (show 133 < w.1 by rw [hw]; omega) mW_133 (5) (rfl) (by decide) (by decide) dX9_eats_189 ?_
      refine zr_iload X 0 dX9_eats_190 rfl ?_
      refine zr_iadd X dX9_eats_192 ?_
      refine zr_iast X (133) (show 133 < w.1 by rw [hw]; omega) mW_133 (5) (rfl) (by decide) (by decide) dX9_eats_193 ?_
      refine zcw (f2 := mW w cy f v (upd (upd (upd (upd (dE2 s k fr) (55 + 6 * k + 4) (((dE2 s k fr) (55 + 6 * k + 4)) + ((s (55 + 6 * k + 1)) * 3))) (55 + 6 * k + 5) (((upd (dE2 s k fr) (55 + 6 * k + 4) (((dE2 s k fr) (55 + 6 * k + 4)) + ((s (55 + 6 * k + 1)) * 3))) (55 + 6 * k + 5)) + 0)) 12 (((upd (upd (dE2 s k fr) (55 + 6 * k + 4) (((dE2 s k fr) (55 + 6 * k + 4)) + ((s (55 + 6 * k + 1)) * 3))) (55 + 6 * k + 5) (((upd (dE2 s k fr) (55 + 6 * k + 4) (((dE2 s k fr) (55 + 6 * k + 4)) + ((s (55 + 6 * k + 1)) * 3))) (55 + 6 * k + 5)) + 0)) 12) + 0)) 5 (((upd (upd (upd (dE2 s k fr) (55 + 6 * k + 4) (((dE2 s k fr) (55 + 6 * k + 4)) + ((s (55 + 6 * k + 1)) * 3))) (55 + 6 * k + 5) (((upd (dE2 s k fr) (55 + 6 * k + 4) (((dE2 s k fr) (55 + 6 * k + 4)) + ((s (55 + 6 * k + 1)) * 3))) (55 + 6 * k + 5)) + 0)) 12 (((upd (upd (dE2 s k fr) (55 + 6 * k + 4) (((dE2 s k fr) (55 + 6 * k + 4)) + ((s (55 + 6 * k + 1)) * 3))) (55 + 6 * k + 5) (((upd (dE2 s k fr) (55 + 6 * k + 4) (((dE2 s k fr) (55 + 6 * k + 4)) + ((s (55 + 6 * k + 1)) * 3))) (55 + 6 * k + 5)) + 0)) 12) + 0)) 5) + ((s (55 + 6 * k + 1)) * 3))) nu) mu_133 ?_
      refine zr_aload_n X 6 dX9_eats_194 rfl rfl ?_
      refine zr_get X zfd_RX9_7 (132) (show 132 < w.1 by rw [hw]; omega) mW_132 (v := .ref (w.2 (133))) rfl dX9_eats_195 ?_
      refine zr_bipush X (v := 13) dX9_eats_198 (by decide) ?_
      refine zr_dup2 X dX9_eats_200 rfl rfl ?_
      refine zr_iald X (133) (show 133 < w.1 by rw [hw]; omega) mW_133 (13) (rfl) (by decide) (by decide) dX9_eats_201 ?_
      refine zr_iload X 0 dX9_eats_202 rfl ?_
      refine zr_iadd X dX9_eats_204 ?_
      refine zr_iast X (133) (show 133 < w.1 by rw [hw]; omega) mW_133 (13) (rfl) (by decide) (by decide) dX9_eats_205 ?_
      refine zcw (f2 := mW w cy f v (upd (upd (upd (upd (upd (dE2 s k fr) (55 + 6 * k + 4) (((dE2 s k fr) (55 + 6 * k + 4)) + ((s (55 + 6 * k + 1)) * 3))) (55 + 6 * k + 5) (((upd (dE2 s k fr) (55 + 6 * k + 4) (((dE2 s k fr) (55 + 6 * k + 4)) + ((s (55 + 6 * k + 1)) * 3))) (55 + 6 * k + 5)) + 0)) 12 (((upd (upd (dE2 s k fr) (55 + 6 * k + 4) (((dE2 s k fr) (55 + 6 * k + 4)) + ((s (55 + 6 * k + 1)) * 3))) (55 + 6 * k + 5) (((upd (dE2 s k fr) (55 + 6 * k + 4) (((dE2 s k fr) (55 + 6 * k + 4)) + ((s (55 + 6 * k + 1)) * 3))) (55 + 6 * k + 5)) + 0)) 12) + 0)) 5 (((upd (upd (upd (dE2 s k fr) (55 + 6 * k + 4) (((dE2 s k fr) (55 + 6 * k + 4)) + ((s (55 + 6 * k + 1)) * 3))) (55 + 6 * k + 5) (((upd (dE2 s k fr) (55 + 6 * k + 4) (((dE2 s k fr) (55 + 6 * k + 4)) + ((s (55 + 6 * k + 1)) * 3))) (55 + 6 * k + 5)) + 0)) 12 (((upd (upd (dE2 s k fr) (55 + 6 * k + 4) (((dE2 s k fr) (55 + 6 * k + 4)) + ((s (55 + 6 * k + 1)) * 3))) (55 + 6 * k + 5) (((upd (dE2 s k fr) (55 + 6 * k + 4) (((dE2 s k fr) (55 + 6 * k + 4)) + ((s (55 + 6 * k + 1)) * 3))) (55 + 6 * k + 5)) + 0)) 12) + 0)) 5) + ((s (55 + 6 * k + 1)) * 3))) 13 (((upd (upd (upd (upd (dE2 s k fr) (55 + 6 * k + 4) (((dE2 s k fr) (55 + 6 * k + 4)) + ((s (55 + 6 * k + 1)) * 3))) (55 + 6 * k + 5) (((upd (dE2 s k fr) (55 + 6 * k + 4) (((dE2 s k fr) (55 + 6 * k + 4)) + ((s (55 + 6 * k + 1)) * 3))) (55 + 6 * k + 5)) + 0)) 12 (((upd (upd (dE2 s k fr) (55 + 6 * k + 4) (((dE2 s k fr) (55 + 6 * k + 4)) + ((s (55 + 6 * k + 1)) * 3))) (55 + 6 * k + 5) (((upd (dE2 s k fr) (55 + 6 * k + 4) (((dE2 s k fr) (55 + 6 * k + 4)) + ((s (55 + 6 * k + 1)) * 3))) (55 + 6 * k + 5)) + 0)) 12) + 0)) 5 (((upd (upd (upd (dE2 s k fr) (55 + 6 * k + 4) (((dE2 s k fr) (55 + 6 * k + 4)) + ((s (55 + 6 * k + 1)) * 3))) (55 + 6 * k + 5) (((upd (dE2 s k fr) (55 + 6 * k + 4) (((dE2 s k fr) (55 + 6 * k + 4)) + ((s (55 + 6 * k + 1)) * 3))) (55 + 6 * k + 5)) + 0)) 12 (((upd (upd (dE2 s k fr) (55 + 6 * k + 4) (((dE2 s k fr) (55 + 6 * k + 4)) + ((s (55 + 6 * k + 1)) * 3))) (55 + 6 * k + 5) (((upd (dE2 s k fr) (55 + 6 * k + 4) (((dE2 s k fr) (55 + 6 * k + 4)) + ((s (55 + 6 * k + 1)) * 3))) (55 + 6 * k + 5)) + 0)) 12) + 0)) 5) + ((s (55 + 6 * k + 1)) * 3))) 13) + ((s (55 + 6 * k + 1)) * 3))) nu) mu_133 ?_
      exact zret_v E rfl dX9_eats_206 (by unfold dEat; rw [if_pos h1, if_pos h3]; rfl)
    · refine zr_iconst X (v := 2) dX9_eats_109 (by decide) ?_
      refine zr_goto X (tgt := 114) dX9_eats_110 (by decide) ?_
      refine zr_imul X dX9_eats_114 ?_
      refine zr_istore X (ls' := [(7, .int ((s (55 + 6 * k + 1)) * 2)), (6, .int (0)), (5, .int (dSo s k fr)), (4, .int (dWh s k fr)), (3, .int (((s (55 + 6 * k + 1)) + 1) / 2)), (2, .int (s (55 + 6 * k + 1))), (0, .ref (w.2 (132))), (1, .int (x))]) dX9_eats_115 (by decide) rfl ?_
      refine zr_aload_n X 6 dX9_eats_117 rfl rfl ?_
      refine zr_get X zfd_RX9_7 (132) (show 132 < w.1 by rw [hw]; omega) mW_132 (v := .ref (w.2 (133))) rfl dX9_eats_118 ?_
      refine zr_bipush X (v := 55) dX9_eats_121 (by decide) ?_
      refine zr_bipush X (v := 6) dX9_eats_123 (by decide) ?_
      refine zr_iload_n X 7 dX9_eats_125 rfl rfl ?_
      refine zr_imul X dX9_eats_126 ?_
      refine zr_iadd X dX9_eats_127 ?_
      refine zr_iconst X (v := 4) dX9_eats_128 (by decide) ?_
      refine zr_iadd X dX9_eats_129 ?_
      refine zr_dup2 X dX9_eats_130 rfl rfl ?_
      refine zr_iald X (133) (show 133 < w.1 by rw [hw]; omega) mW_133 (55 + 6 * k + 4) (zi9 (c := 55) (n := 6) hx (show (4 : Int32) = nI 4 from rfl)) (by omega) (by decide) dX9_eats_131 ?_
      refine zr_iload X 0 dX9_eats_132 rfl ?_
      refine zr_iadd X dX9_eats_134 ?_
      refine zr_iast X (133) (show 133 < w.1 by rw [hw]; omega) mW_133 (55 + 6 * k + 4) (zi9 (c := 55) (n := 6) hx (show (4 : Int32) = nI 4 from rfl)) (by omega) (by decide) dX9_eats_135 ?_
      refine zcw (f2 := mW w cy f v (upd (dE2 s k fr) (55 + 6 * k + 4) (((dE2 s k fr) (55 + 6 * k + 4)) + ((s (55 + 6 * k + 1)) * 2))) nu) mu_133 ?_
      refine zr_aload_n X 6 dX9_eats_136 rfl rfl ?_
      refine zr_get X zfd_RX9_7 (132) (show 132 < w.1 by rw [hw]; omega) mW_132 (v := .ref (w.2 (133))) rfl dX9_eats_137 ?_
      refine zr_bipush X (v := 55) dX9_eats_140 (by decide) ?_
      refine zr_bipush X (v := 6) dX9_eats_142 (by decide) ?_
      refine zr_iload_n X 7 dX9_eats_144 rfl rfl ?_
      refine zr_imul X dX9_eats_145 ?_
      refine zr_iadd X dX9_eats_146 ?_
      refine zr_iconst X (v := 5) dX9_eats_147 (by decide) ?_
      refine zr_iadd X dX9_eats_148 ?_
      refine zr_dup2 X dX9_eats_149 rfl rfl ?_
      refine zr_iald X (133) (show 133 < w.1 by rw [hw]; omega) mW_133 (55 + 6 * k + 5) (zi9 (c := 55) (n := 6) hx (show (5 : Int32) = nI 5 from rfl)) (by omega) (by decide) dX9_eats_150 ?_
      refine zr_iload X 1 dX9_eats_151 rfl ?_
      refine zr_if_eq X (tgt := 160) dX9_eats_153 (by decide) (fun _ => ?_) (fun h => absurd rfl h)
      refine zr_iconst X (v := 0) dX9_eats_160 (by decide) ?_
      refine zr_iadd X dX9_eats_161 ?_
      refine zr_iast X (133) (show 133 < w.1 by rw [hw]; omega) mW_133 (55 + 6 * k + 5) (zi9 (c := 55) (n := 6) hx (show (5 : Int32) = nI 5 from rfl)) (by omega) (by decide) dX9_eats_162 ?_
      refine zcw (f2 := mW w cy f v (upd (upd (dE2 s k fr) (55 + 6 * k + 4) (((dE2 s k fr) (55 + 6 * k + 4)) + ((s (55 + 6 * k + 1)) * 2))) (55 + 6 * k + 5) (((upd (dE2 s k fr) (55 + 6 * k + 4) (((dE2 s k fr) (55 + 6 * k + 4)) + ((s (55 + 6 * k + 1)) * 2))) (55 + 6 * k + 5)) + 0)) nu) mu_133 ?_
      refine zr_aload_n X 6 dX9_eats_163 rfl rfl ?_
      refine zr_get X zfd_RX9_7 (132) (show 132 < w.1 by rw [hw]; omega) mW_132 (v := .ref (w.2 (133))) rfl dX9_eats_164 ?_
      refine zr_bipush X (v := 12) dX9_eats_167 (by decide) ?_
      refine zr_dup2 X dX9_eats_169 rfl rfl ?_
      refine zr_iald X (133) (show 133 < w.1 by rw [hw]; omega) mW_133 (12) (rfl) (by decide) (by decide) dX9_eats_170 ?_
      refine zr_iload X 1 dX9_eats_171 rfl ?_
      refine zr_if_eq X (tgt := 180) dX9_eats_173 (by decide) (fun _ => ?_) (fun h => absurd rfl h)
      refine zr_iconst X (v := 0) dX9_eats_180 (by decide) ?_
      refine zr_iadd X dX9_eats_181 ?_
      refine zr_iast X (133) (show 133 < w.1 by rw [hw]; omega) mW_133 (12) (rfl) (by decide) (by decide) dX9_eats_182 ?_
      refine zcw (f2 := mW w cy f v (upd (upd (upd (dE2 s k fr) (55 + 6 * k + 4) (((dE2 s k fr) (55 + 6 * k + 4)) + ((s (55 + 6 * k + 1)) * 2))) (55 + 6 * k + 5) (((upd (dE2 s k fr) (55 + 6 * k + 4) (((dE2 s k fr) (55 + 6 * k + 4)) + ((s (55 + 6 * k + 1)) * 2))) (55 + 6 * k + 5)) + 0)) 12 (((upd (upd (dE2 s k fr) (55 + 6 * k + 4) (((dE2 s k fr) (55 + 6 * k + 4)) + ((s (55 + 6 * k + 1)) * 2))) (55 + 6 * k + 5) (((upd (dE2 s k fr) (55 + 6 * k + 4) (((dE2 s k fr) (55 + 6 * k + 4)) + ((s (55 + 6 * k + 1)) * 2))) (55 + 6 * k + 5)) + 0)) 12) + 0)) nu) mu_133 ?_
      refine zr_aload_n X 6 dX9_eats_183 rfl rfl ?_
      refine zr_get X zfd_RX9_7 (132) (show 132 < w.1 by rw [hw]; omega) mW_132 (v := .ref (w.2 (133))) rfl dX9_eats_184 ?_
      refine zr_iconst X (v := 5) dX9_eats_187 (by decide) ?_
      refine zr_dup2 X dX9_eats_188 rfl rfl ?_
      refine zr_iald X (133) (show 133 < w.1 by rw [hw]; omega) mW_133 (5) (rfl) (by decide) (by decide) dX9_eats_189 ?_
      refine zr_iload X 0 dX9_eats_190 rfl ?_
      refine zr_iadd X dX9_eats_192 ?_
      refine zr_iast X (133) (show 133 < w.1 by rw [hw]; omega) mW_133 (5) (rfl) (by decide) (by decide) dX9_eats_193 ?_
      refine zcw (f2 := mW w cy f v (upd (upd (upd (upd (dE2 s k fr) (55 + 6 * k + 4) (((dE2 s k fr) (55 + 6 * k + 4)) + ((s (55 + 6 * k + 1)) * 2))) (55 + 6 * k + 5) (((upd (dE2 s k fr) (55 + 6 * k + 4) (((dE2 s k fr) (55 + 6 * k + 4)) + ((s (55 + 6 * k + 1)) * 2))) (55 + 6 * k + 5)) + 0)) 12 (((upd (upd (dE2 s k fr) (55 + 6 * k + 4) (((dE2 s k fr) (55 + 6 * k + 4)) + ((s (55 + 6 * k + 1)) * 2))) (55 + 6 * k + 5) (((upd (dE2 s k fr) (55 + 6 * k + 4) (((dE2 s k fr) (55 + 6 * k + 4)) + ((s (55 + 6 * k + 1)) * 2))) (55 + 6 * k + 5)) + 0)) 12) + 0)) 5 (((upd (upd (upd (dE2 s k fr) (55 + 6 * k + 4) (((dE2 s k fr) (55 + 6 * k + 4)) + ((s (55 + 6 * k + 1)) * 2))) (55 + 6 * k + 5) (((upd (dE2 s k fr) (55 + 6 * k + 4) (((dE2 s k fr) (55 + 6 * k + 4)) + ((s (55 + 6 * k + 1)) * 2))) (55 + 6 * k + 5)) + 0)) 12 (((upd (upd (dE2 s k fr) (55 + 6 * k + 4) (((dE2 s k fr) (55 + 6 * k + 4)) + ((s (55 + 6 * k + 1)) * 2))) (55 + 6 * k + 5) (((upd (dE2 s k fr) (55 + 6 * k + 4) (((dE2 s k fr) (55 + 6 * k + 4)) + ((s (55 + 6 * k + 1)) * 2))) (55 + 6 * k + 5)) + 0)) 12) + 0)) 5) + ((s (55 + 6 * k + 1)) * 2))) nu) mu_133 ?_
      refine zr_aload_n X 6 dX9_eats_194 rfl rfl ?_
      refine zr_get X zfd_RX9_7 (132) (show 132 < w.1 by rw [hw]; omega) mW_132 (v := .ref (w.2 (133))) rfl dX9_eats_195 ?_
      refine zr_bipush X (v := 13) dX9_eats_198 (by decide) ?_
      refine zr_dup2 X dX9_eats_200 rfl rfl ?_
      refine zr_iald X (133) (show 133 < w.1 by rw [hw]; omega) mW_133 (13) (rfl) (by decide) (by decide) dX9_eats_201 ?_
      refine zr_iload X 0 dX9_eats_202 rfl ?_
      refine zr_iadd X dX9_eats_204 ?_
      refine zr_iast X (133) (show 133 < w.1 by rw [hw]; omega) mW_133 (13) (rfl) (by decide) (by decide) dX9_eats_205 ?_
      refine zcw (f2 := mW w cy f v (upd (upd (upd (upd (upd (dE2 s k fr) (55 + 6 * k + 4) (((dE2 s k fr) (55 + 6 * k + 4)) + ((s (55 + 6 * k + 1)) * 2))) (55 + 6 * k + 5) (((upd (dE2 s k fr) (55 + 6 * k + 4) (((dE2 s k fr) (55 + 6 * k + 4)) + ((s (55 + 6 * k + 1)) * 2))) (55 + 6 * k + 5)) + 0)) 12 (((upd (upd (dE2 s k fr) (55 + 6 * k + 4) (((dE2 s k fr) (55 + 6 * k + 4)) + ((s (55 + 6 * k + 1)) * 2))) (55 + 6 * k + 5) (((upd (dE2 s k fr) (55 + 6 * k + 4) (((dE2 s k fr) (55 + 6 * k + 4)) + ((s (55 + 6 * k + 1)) * 2))) (55 + 6 * k + 5)) + 0)) 12) + 0)) 5 (((upd (upd (upd (dE2 s k fr) (55 + 6 * k + 4) (((dE2 s k fr) (55 + 6 * k + 4)) + ((s (55 + 6 * k + 1)) * 2))) (55 + 6 * k + 5) (((upd (dE2 s k fr) (55 + 6 * k + 4) (((dE2 s k fr) (55 + 6 * k + 4)) + ((s (55 + 6 * k + 1)) * 2))) (55 + 6 * k + 5)) + 0)) 12 (((upd (upd (dE2 s k fr) (55 + 6 * k + 4) (((dE2 s k fr) (55 + 6 * k + 4)) + ((s (55 + 6 * k + 1)) * 2))) (55 + 6 * k + 5) (((upd (dE2 s k fr) (55 + 6 * k + 4) (((dE2 s k fr) (55 + 6 * k + 4)) + ((s (55 + 6 * k + 1)) * 2))) (55 + 6 * k + 5)) + 0)) 12) + 0)) 5) + ((s (55 + 6 * k + 1)) * 2))) 13 (((upd (upd (upd (upd (dE2 s k fr) (55 + 6 * k + 4) (((dE2 s k fr) (55 + 6 * k + 4)) + ((s (55 + 6 * k + 1)) * 2))) (55 + 6 * k + 5) (((upd (dE2 s k fr) (55 + 6 * k + 4) (((dE2 s k fr) (55 + 6 * k + 4)) + ((s (55 + 6 * k + 1)) * 2))) (55 + 6 * k + 5)) + 0)) 12 (((upd (upd (dE2 s k fr) (55 + 6 * k + 4) (((dE2 s k fr) (55 + 6 * k + 4)) + ((s (55 + 6 * k + 1)) * 2))) (55 + 6 * k + 5) (((upd (dE2 s k fr) (55 + 6 * k + 4) (((dE2 s k fr) (55 + 6 * k + 4)) + ((s (55 + 6 * k + 1)) * 2))) (55 + 6 * k + 5)) + 0)) 12) + 0)) 5 (((upd (upd (upd (dE2 s k fr) (55 + 6 * k + 4) (((dE2 s k fr) (55 + 6 * k + 4)) + ((s (55 + 6 * k + 1)) * 2))) (55 + 6 * k + 5) (((upd (dE2 s k fr) (55 + 6 * k + 4) (((dE2 s k fr) (55 + 6 * k + 4)) + ((s (55 + 6 * k + 1)) * 2))) (55 + 6 * k + 5)) + 0)) 12 (((upd (upd (dE2 s k fr) (55 + 6 * k + 4) (((dE2 s k fr) (55 + 6 * k + 4)) + ((s (55 + 6 * k + 1)) * 2))) (55 + 6 * k + 5) (((upd (dE2 s k fr) (55 + 6 * k + 4) (((dE2 s k fr) (55 + 6 * k + 4)) + ((s (55 + 6 * k + 1)) * 2))) (55 + 6 * k + 5)) + 0)) 12) + 0)) 5) + ((s (55 + 6 * k + 1)) * 2))) 13) + ((s (55 + 6 * k + 1)) * 2))) nu) mu_133 ?_
      exact zret_v E rfl dX9_eats_206 (by unfold dEat; rw [if_pos h1, if_neg h4]; rfl)
  · refine zr_iconst X (v := 1) dX9_eats_87 (by decide) ?_
    refine zr_goto X (tgt := 92) dX9_eats_88 (by decide) ?_
    refine zr_istore X (ls' := [(6, .int (1)), (5, .int (dSo s k fr)), (4, .int (dWh s k fr)), (3, .int (((s (55 + 6 * k + 1)) + 1) / 2)), (2, .int (s (55 + 6 * k + 1))), (0, .ref (w.2 (132))), (1, .int (x))]) dX9_eats_92 (by decide) rfl ?_
    refine zr_iload_n X 4 dX9_eats_94 rfl rfl ?_
    refine zr_iload X 0 dX9_eats_95 rfl ?_
    refine zr_if_eq X (tgt := 104) dX9_eats_97 (by decide) (fun h => absurd h (by decide)) (fun _ => ?_)
    refine zr_iconst X (v := 1) dX9_eats_100 (by decide) ?_
    refine zr_goto X (tgt := 114) dX9_eats_101 (by decide) ?_
    refine zr_imul X dX9_eats_114 ?_
    refine zr_istore X (ls' := [(7, .int ((s (55 + 6 * k + 1)) * 1)), (6, .int (1)), (5, .int (dSo s k fr)), (4, .int (dWh s k fr)), (3, .int (((s (55 + 6 * k + 1)) + 1) / 2)), (2, .int (s (55 + 6 * k + 1))), (0, .ref (w.2 (132))), (1, .int (x))]) dX9_eats_115 (by decide) rfl ?_
    refine zr_aload_n X 6 dX9_eats_117 rfl rfl ?_
    refine zr_get X zfd_RX9_7 (132) (show 132 < w.1 by rw [hw]; omega) mW_132 (v := .ref (w.2 (133))) rfl dX9_eats_118 ?_
    refine zr_bipush X (v := 55) dX9_eats_121 (by decide) ?_
    refine zr_bipush X (v := 6) dX9_eats_123 (by decide) ?_
    refine zr_iload_n X 7 dX9_eats_125 rfl rfl ?_
    refine zr_imul X dX9_eats_126 ?_
    refine zr_iadd X dX9_eats_127 ?_
    refine zr_iconst X (v := 4) dX9_eats_128 (by decide) ?_
    refine zr_iadd X dX9_eats_129 ?_
    refine zr_dup2 X dX9_eats_130 rfl rfl ?_
    refine zr_iald X (133) (show 133 < w.1 by rw [hw]; omega) mW_133 (55 + 6 * k + 4) (zi9 (c := 55) (n := 6) hx (show (4 : Int32) = nI 4 from rfl)) (by omega) (by decide) dX9_eats_131 ?_
    refine zr_iload X 0 dX9_eats_132 rfl ?_
    refine zr_iadd X dX9_eats_134 ?_
    refine zr_iast X (133) (show 133 < w.1 by rw [hw]; omega) mW_133 (55 + 6 * k + 4) (zi9 (c := 55) (n := 6) hx (show (4 : Int32) = nI 4 from rfl)) (by omega) (by decide) dX9_eats_135 ?_
    refine zcw (f2 := mW w cy f v (upd (dE2 s k fr) (55 + 6 * k + 4) (((dE2 s k fr) (55 + 6 * k + 4)) + ((s (55 + 6 * k + 1)) * 1))) nu) mu_133 ?_
    refine zr_aload_n X 6 dX9_eats_136 rfl rfl ?_
    refine zr_get X zfd_RX9_7 (132) (show 132 < w.1 by rw [hw]; omega) mW_132 (v := .ref (w.2 (133))) rfl dX9_eats_137 ?_
    refine zr_bipush X (v := 55) dX9_eats_140 (by decide) ?_
    refine zr_bipush X (v := 6) dX9_eats_142 (by decide) ?_
    refine zr_iload_n X 7 dX9_eats_144 rfl rfl ?_
    refine zr_imul X dX9_eats_145 ?_
    refine zr_iadd X dX9_eats_146 ?_
    refine zr_iconst X (v := 5) dX9_eats_147 (by decide) ?_
    refine zr_iadd X dX9_eats_148 ?_
    refine zr_dup2 X dX9_eats_149 rfl rfl ?_
    refine zr_iald X (133) (show 133 < w.1 by rw [hw]; omega) mW_133 (55 + 6 * k + 5) (zi9 (c := 55) (n := 6) hx (show (5 : Int32) = nI 5 from rfl)) (by omega) (by decide) dX9_eats_150 ?_
    refine zr_iload X 1 dX9_eats_151 rfl ?_
    refine zr_if_eq X (tgt := 160) dX9_eats_153 (by decide) (fun h => absurd h (by decide)) (fun _ => ?_)
    refine zr_iconst X (v := 1) dX9_eats_156 (by decide) ?_
    refine zr_goto X (tgt := 161) dX9_eats_157 (by decide) ?_
    refine zr_iadd X dX9_eats_161 ?_
    refine zr_iast X (133) (show 133 < w.1 by rw [hw]; omega) mW_133 (55 + 6 * k + 5) (zi9 (c := 55) (n := 6) hx (show (5 : Int32) = nI 5 from rfl)) (by omega) (by decide) dX9_eats_162 ?_
    refine zcw (f2 := mW w cy f v (upd (upd (dE2 s k fr) (55 + 6 * k + 4) (((dE2 s k fr) (55 + 6 * k + 4)) + ((s (55 + 6 * k + 1)) * 1))) (55 + 6 * k + 5) (((upd (dE2 s k fr) (55 + 6 * k + 4) (((dE2 s k fr) (55 + 6 * k + 4)) + ((s (55 + 6 * k + 1)) * 1))) (55 + 6 * k + 5)) + 1)) nu) mu_133 ?_
    refine zr_aload_n X 6 dX9_eats_163 rfl rfl ?_
    refine zr_get X zfd_RX9_7 (132) (show 132 < w.1 by rw [hw]; omega) mW_132 (v := .ref (w.2 (133))) rfl dX9_eats_164 ?_
    refine zr_bipush X (v := 12) dX9_eats_167 (by decide) ?_
    refine zr_dup2 X dX9_eats_169 rfl rfl ?_
    refine zr_iald X (133) (show 133 < w.1 by rw [hw]; omega) mW_133 (12) (rfl) (by decide) (by decide) dX9_eats_170 ?_
    refine zr_iload X 1 dX9_eats_171 rfl ?_
    refine zr_if_eq X (tgt := 180) dX9_eats_173 (by decide) (fun h => absurd h (by decide)) (fun _ => ?_)
    refine zr_iconst X (v := 1) dX9_eats_176 (by decide) ?_
    refine zr_goto X (tgt := 181) dX9_eats_177 (by decide) ?_
    refine zr_iadd X dX9_eats_181 ?_
    refine zr_iast X (133) (show 133 < w.1 by rw [hw]; omega) mW_133 (12) (rfl) (by decide) (by decide) dX9_eats_182 ?_
    refine zcw (f2 := mW w cy f v (upd (upd (upd (dE2 s k fr) (55 + 6 * k + 4) (((dE2 s k fr) (55 + 6 * k + 4)) + ((s (55 + 6 * k + 1)) * 1))) (55 + 6 * k + 5) (((upd (dE2 s k fr) (55 + 6 * k + 4) (((dE2 s k fr) (55 + 6 * k + 4)) + ((s (55 + 6 * k + 1)) * 1))) (55 + 6 * k + 5)) + 1)) 12 (((upd (upd (dE2 s k fr) (55 + 6 * k + 4) (((dE2 s k fr) (55 + 6 * k + 4)) + ((s (55 + 6 * k + 1)) * 1))) (55 + 6 * k + 5) (((upd (dE2 s k fr) (55 + 6 * k + 4) (((dE2 s k fr) (55 + 6 * k + 4)) + ((s (55 + 6 * k + 1)) * 1))) (55 + 6 * k + 5)) + 1)) 12) + 1)) nu) mu_133 ?_
    refine zr_aload_n X 6 dX9_eats_183 rfl rfl ?_
    refine zr_get X zfd_RX9_7 (132) (show 132 < w.1 by rw [hw]; omega) mW_132 (v := .ref (w.2 (133))) rfl dX9_eats_184 ?_
    refine zr_iconst X (v := 5) dX9_eats_187 (by decide) ?_
    refine zr_dup2 X dX9_eats_188 rfl rfl ?_
    refine zr_iald X (133) (show 133 < w.1 by rw [hw]; omega) mW_133 (5) (rfl) (by decide) (by decide) dX9_eats_189 ?_
    refine zr_iload X 0 dX9_eats_190 rfl ?_
    refine zr_iadd X dX9_eats_192 ?_
    refine zr_iast X (133) (show 133 < w.1 by rw [hw]; omega) mW_133 (5) (rfl) (by decide) (by decide) dX9_eats_193 ?_
    refine zcw (f2 := mW w cy f v (upd (upd (upd (upd (dE2 s k fr) (55 + 6 * k + 4) (((dE2 s k fr) (55 + 6 * k + 4)) + ((s (55 + 6 * k + 1)) * 1))) (55 + 6 * k + 5) (((upd (dE2 s k fr) (55 + 6 * k + 4) (((dE2 s k fr) (55 + 6 * k + 4)) + ((s (55 + 6 * k + 1)) * 1))) (55 + 6 * k + 5)) + 1)) 12 (((upd (upd (dE2 s k fr) (55 + 6 * k + 4) (((dE2 s k fr) (55 + 6 * k + 4)) + ((s (55 + 6 * k + 1)) * 1))) (55 + 6 * k + 5) (((upd (dE2 s k fr) (55 + 6 * k + 4) (((dE2 s k fr) (55 + 6 * k + 4)) + ((s (55 + 6 * k + 1)) * 1))) (55 + 6 * k + 5)) + 1)) 12) + 1)) 5 (((upd (upd (upd (dE2 s k fr) (55 + 6 * k + 4) (((dE2 s k fr) (55 + 6 * k + 4)) + ((s (55 + 6 * k + 1)) * 1))) (55 + 6 * k + 5) (((upd (dE2 s k fr) (55 + 6 * k + 4) (((dE2 s k fr) (55 + 6 * k + 4)) + ((s (55 + 6 * k + 1)) * 1))) (55 + 6 * k + 5)) + 1)) 12 (((upd (upd (dE2 s k fr) (55 + 6 * k + 4) (((dE2 s k fr) (55 + 6 * k + 4)) + ((s (55 + 6 * k + 1)) * 1))) (55 + 6 * k + 5) (((upd (dE2 s k fr) (55 + 6 * k + 4) (((dE2 s k fr) (55 + 6 * k + 4)) + ((s (55 + 6 * k + 1)) * 1))) (55 + 6 * k + 5)) + 1)) 12) + 1)) 5) + ((s (55 + 6 * k + 1)) * 1))) nu) mu_133 ?_
    refine zr_aload_n X 6 dX9_eats_194 rfl rfl ?_
    refine zr_get X zfd_RX9_7 (132) (show 132 < w.1 by rw [hw]; omega) mW_132 (v := .ref (w.2 (133))) rfl dX9_eats_195 ?_
    refine zr_bipush X (v := 13) dX9_eats_198 (by decide) ?_
    refine zr_dup2 X dX9_eats_200 rfl rfl ?_
    refine zr_iald X (133) (show 133 < w.1 by rw [hw]; omega) mW_133 (13) (rfl) (by decide) (by decide) dX9_eats_201 ?_
    refine zr_iload X 0 dX9_eats_202 rfl ?_
    refine zr_iadd X dX9_eats_204 ?_
    refine zr_iast X (133) (show 133 < w.1 by rw [hw]; omega) mW_133 (13) (rfl) (by decide) (by decide) dX9_eats_205 ?_
    refine zcw (f2 := mW w cy f v (upd (upd (upd (upd (upd (dE2 s k fr) (55 + 6 * k + 4) (((dE2 s k fr) (55 + 6 * k + 4)) + ((s (55 + 6 * k + 1)) * 1))) (55 + 6 * k + 5) (((upd (dE2 s k fr) (55 + 6 * k + 4) (((dE2 s k fr) (55 + 6 * k + 4)) + ((s (55 + 6 * k + 1)) * 1))) (55 + 6 * k + 5)) + 1)) 12 (((upd (upd (dE2 s k fr) (55 + 6 * k + 4) (((dE2 s k fr) (55 + 6 * k + 4)) + ((s (55 + 6 * k + 1)) * 1))) (55 + 6 * k + 5) (((upd (dE2 s k fr) (55 + 6 * k + 4) (((dE2 s k fr) (55 + 6 * k + 4)) + ((s (55 + 6 * k + 1)) * 1))) (55 + 6 * k + 5)) + 1)) 12) + 1)) 5 (((upd (upd (upd (dE2 s k fr) (55 + 6 * k + 4) (((dE2 s k fr) (55 + 6 * k + 4)) + ((s (55 + 6 * k + 1)) * 1))) (55 + 6 * k + 5) (((upd (dE2 s k fr) (55 + 6 * k + 4) (((dE2 s k fr) (55 + 6 * k + 4)) + ((s (55 + 6 * k + 1)) * 1))) (55 + 6 * k + 5)) + 1)) 12 (((upd (upd (dE2 s k fr) (55 + 6 * k + 4) (((dE2 s k fr) (55 + 6 * k + 4)) + ((s (55 + 6 * k + 1)) * 1))) (55 + 6 * k + 5) (((upd (dE2 s k fr) (55 + 6 * k + 4) (((dE2 s k fr) (55 + 6 * k + 4)) + ((s (55 + 6 * k + 1)) * 1))) (55 + 6 * k + 5)) + 1)) 12) + 1)) 5) + ((s (55 + 6 * k + 1)) * 1))) 13 (((upd (upd (upd (upd (dE2 s k fr) (55 + 6 * k + 4) (((dE2 s k fr) (55 + 6 * k + 4)) + ((s (55 + 6 * k + 1)) * 1))) (55 + 6 * k + 5) (((upd (dE2 s k fr) (55 + 6 * k + 4) (((dE2 s k fr) (55 + 6 * k + 4)) + ((s (55 + 6 * k + 1)) * 1))) (55 + 6 * k + 5)) + 1)) 12 (((upd (upd (dE2 s k fr) (55 + 6 * k + 4) (((dE2 s k fr) (55 + 6 * k + 4)) + ((s (55 + 6 * k + 1)) * 1))) (55 + 6 * k + 5) (((upd (dE2 s k fr) (55 + 6 * k + 4) (((dE2 s k fr) (55 + 6 * k + 4)) + ((s (55 + 6 * k + 1)) * 1))) (55 + 6 * k + 5)) + 1)) 12) + 1)) 5 (((upd (upd (upd (dE2 s k fr) (55 + 6 * k + 4) (((dE2 s k fr) (55 + 6 * k + 4)) + ((s (55 + 6 * k + 1)) * 1))) (55 + 6 * k + 5) (((upd (dE2 s k fr) (55 + 6 * k + 4) (((dE2 s k fr) (55 + 6 * k + 4)) + ((s (55 + 6 * k + 1)) * 1))) (55 + 6 * k + 5)) + 1)) 12 (((upd (upd (dE2 s k fr) (55 + 6 * k + 4) (((dE2 s k fr) (55 + 6 * k + 4)) + ((s (55 + 6 * k + 1)) * 1))) (55 + 6 * k + 5) (((upd (dE2 s k fr) (55 + 6 * k + 4) (((dE2 s k fr) (55 + 6 * k + 4)) + ((s (55 + 6 * k + 1)) * 1))) (55 + 6 * k + 5)) + 1)) 12) + 1)) 5) + ((s (55 + 6 * k + 1)) * 1))) 13) + ((s (55 + 6 * k + 1)) * 1))) nu) mu_133 ?_
    exact zret_v E rfl dX9_eats_206 (by unfold dEat; rw [if_neg h2]; rfl)
