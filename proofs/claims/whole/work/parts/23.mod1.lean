def eModL (w : zW) (v : Nat → Int32) : List Value := [.ref (w.2 133), .ref (w.2 134), .ref (w.2 135), .ref (w.2 136), .int (v 0), .int (v 1), .ref (w.2 137), .int (v 2), .int (v 3), .int (v 4), .int (v 5), .int (v 6), .int (v 7), .int (v 8), .ref (w.2 138)]
abbrev eMod (w : zW) (v : Nat → Int32) : va_E := .inr (9, eModL w v)
theorem eMod_s4 {w : zW} {v : Nat → Int32} {x : Int32} : (eModL w v).set 4 (.int x) = eModL w (upd v 0 x) := rfl
theorem eMod_s5 {w : zW} {v : Nat → Int32} {x : Int32} : (eModL w v).set 5 (.int x) = eModL w (upd v 1 x) := rfl
theorem eMod_s7 {w : zW} {v : Nat → Int32} {x : Int32} : (eModL w v).set 7 (.int x) = eModL w (upd v 2 x) := rfl
theorem eMod_s8 {w : zW} {v : Nat → Int32} {x : Int32} : (eModL w v).set 8 (.int x) = eModL w (upd v 3 x) := rfl
theorem eMod_s9 {w : zW} {v : Nat → Int32} {x : Int32} : (eModL w v).set 9 (.int x) = eModL w (upd v 4 x) := rfl
theorem eMod_s10 {w : zW} {v : Nat → Int32} {x : Int32} : (eModL w v).set 10 (.int x) = eModL w (upd v 5 x) := rfl
theorem eMod_s11 {w : zW} {v : Nat → Int32} {x : Int32} : (eModL w v).set 11 (.int x) = eModL w (upd v 6 x) := rfl
theorem eMod_s12 {w : zW} {v : Nat → Int32} {x : Int32} : (eModL w v).set 12 (.int x) = eModL w (upd v 7 x) := rfl
theorem eMod_s13 {w : zW} {v : Nat → Int32} {x : Int32} : (eModL w v).set 13 (.int x) = eModL w (upd v 8 x) := rfl
/-- the world f, but for the model's object, its row and its numbers -/
def mW (w : zW) (cy : Nat → ClassId) (f : zF) (v s nu : Nat → Int32) : zF := va_up (va_up (va_up f 132 (eMod w v)) 133 (eInts cy 136 s)) 138 (eInts cy 3 nu)
section ZM9
variable {w : zW} {cy : Nat → ClassId} {f : zF} {v s nu v' s' nu' : Nat → Int32}
theorem mW_132 : mW w cy f v s nu 132 = eMod w v := (va_up_ne _ _ (by decide)).trans ((va_up_ne _ _ (by decide)).trans (va_up_self _ _ _))
theorem mW_133 : mW w cy f v s nu 133 = eInts cy 136 s := (va_up_ne _ _ (by decide)).trans (va_up_self _ _ _)
theorem mW_138 : mW w cy f v s nu 138 = eInts cy 3 nu := va_up_self _ _ _
theorem mW_out {t : Nat} (h : t ≠ 132) (h2 : t ≠ 133) (h3 : t ≠ 138) : mW w cy f v s nu t = f t := (va_up_ne _ _ h3).trans ((va_up_ne _ _ h2).trans (va_up_ne _ _ h))
theorem mu_132 : va_up (mW w cy f v s nu) 132 (eMod w v') = mW w cy f v' s nu := by
  funext t
  unfold mW va_up
  by_cases h1 : t = 132
  · subst h1; rfl
  · by_cases h2 : t = 133
    · subst h2; rfl
    · by_cases h3 : t = 138
      · subst h3; rfl
      · simp only [if_neg h1, if_neg h2, if_neg h3]
theorem mu_133 : va_up (mW w cy f v s nu) 133 (eInts cy 136 s') = mW w cy f v s' nu := by
  funext t
  unfold mW va_up
  by_cases h1 : t = 132
  · subst h1; rfl
  · by_cases h2 : t = 133
    · subst h2; rfl
    · by_cases h3 : t = 138
      · subst h3; rfl
      · simp only [if_neg h1, if_neg h2, if_neg h3]
theorem mu_138 : va_up (mW w cy f v s nu) 138 (eInts cy 3 nu') = mW w cy f v s nu' := va_up_up
theorem mu_out {t : Nat} {e : va_E} (h : t ≠ 132) (h2 : t ≠ 133) (h3 : t ≠ 138) : va_up (mW w cy f v s nu) t e = mW w cy (va_up f t e) v s nu := by
  funext j
  unfold mW va_up
  by_cases h1 : j = t
  · subst h1; simp only [if_neg h, if_neg h2, if_neg h3, if_pos]
  · simp only [if_neg h1]
theorem mW_self (h1 : f 132 = eMod w v) (h2 : f 133 = eInts cy 136 s) (h3 : f 138 = eInts cy 3 nu) : mW w cy f v s nu = f := by
  funext t
  unfold mW va_up
  by_cases h4 : t = 138
  · rw [if_pos h4, h4, h3]
  · rw [if_neg h4]
    by_cases h5 : t = 133
    · rw [if_pos h5, h5, h2]
    · rw [if_neg h5]
      by_cases h6 : t = 132
      · rw [if_pos h6, h6, h1]
      · rw [if_neg h6]
end ZM9
theorem zi9 {c : Nat} {x y : Int32} {k i n : Nat} (hx : x = nI k) (hy : y = nI i) : nI c + nI n * x + y = nI (c + n * k + i) := by
  rw [hx, hy, show nI n * nI k = nI (n * k) from (Int32.ofNat_mul n k).symm, nI_add, nI_add]
theorem zwin_01 {x a b : Int32} : zwin x a b = 0 ∨ zwin x a b = 1 := by
  unfold zwin
  split
  · exact .inl rfl
  · split
    · exact .inl rfl
    · exact .inr rfl
theorem zi9' {c : Nat} {x : Int32} {k n : Nat} (hx : x = nI k) : nI c + nI n * x = nI (c + n * k) := by
  rw [hx, show nI n * nI k = nI (n * k) from (Int32.ofNat_mul n k).symm, nI_add]
set_option maxHeartbeats 4000000 in
set_option maxRecDepth 100000 in
theorem k_of {l : Launch} {D : va_G} {cy : Nat → ClassId} {w : zW} {f : zF} {v s nu : Nat → Int32} {x y : Int32} {k i : Nat} (hw : w.1 = 139) (hx : x = nI k) (hy : y = nI i) (hk : k < 4) (hi : i < 9) : zSd l D cy yX9_of cX9_of 3 (some .int) 0 0 [.ref (w.2 (132)), .int (x), .int (y)] w (mW w cy f v s nu) (some (.int (s (19 + 9 * k + i)))) (mW w cy f v s nu) := by
  refine zSd.intro (by decide) (Nat.le_of_ble_eq_true rfl) (fun G X E => ?_)
  show G (w, 0, 0) (mW w cy f v s nu) [(0, .ref (w.2 (132))), (1, .int (x)), (2, .int (y))] 0 []
  refine zr_aload_n X 0 dX9_of_0 rfl rfl ?_
  refine zr_get X zfd_RX9_7 (132) (show 132 < w.1 by rw [hw]; omega) mW_132 (v := .ref (w.2 (133))) rfl dX9_of_1 ?_
  refine zr_bipush X (v := 19) dX9_of_4 (by decide) ?_
  refine zr_bipush X (v := 9) dX9_of_6 (by decide) ?_
  refine zr_iload_n X 1 dX9_of_8 rfl rfl ?_
  refine zr_imul X dX9_of_9 ?_
  refine zr_iadd X dX9_of_10 ?_
  refine zr_iload_n X 2 dX9_of_11 rfl rfl ?_
  refine zr_iadd X dX9_of_12 ?_
  refine zr_iald X (133) (show 133 < w.1 by rw [hw]; omega) mW_133 (19 + 9 * k + i) (zi9 (c := 19) (n := 9) hx hy) (by omega) (by decide) dX9_of_13 ?_
  exact zret_i E rfl dX9_of_14 rfl rfl
set_option maxHeartbeats 4000000 in
set_option maxRecDepth 100000 in
theorem k_sets {l : Launch} {D : va_G} {cy : Nat → ClassId} {w : zW} {f : zF} {v s nu : Nat → Int32} {x y z : Int32} {k i : Nat} (hw : w.1 = 139) (hx : x = nI k) (hy : y = nI i) (hk : k < 4) (hi : i < 9) : zSd l D cy yX9_sets cX9_sets 4 none 0 0 [.ref (w.2 (132)), .int (x), .int (y), .int (z)] w (mW w cy f v s nu) none (mW w cy f v (upd s (19 + 9 * k + i) z) nu) := by
  refine zSd.intro (by decide) (Nat.le_of_ble_eq_true rfl) (fun G X E => ?_)
  show G (w, 0, 0) (mW w cy f v s nu) [(0, .ref (w.2 (132))), (1, .int (x)), (2, .int (y)), (3, .int (z))] 0 []
  refine zr_aload_n X 0 dX9_sets_0 rfl rfl ?_
  refine zr_get X zfd_RX9_7 (132) (show 132 < w.1 by rw [hw]; omega) mW_132 (v := .ref (w.2 (133))) rfl dX9_sets_1 ?_
  refine zr_bipush X (v := 19) dX9_sets_4 (by decide) ?_
  refine zr_bipush X (v := 9) dX9_sets_6 (by decide) ?_
  refine zr_iload_n X 1 dX9_sets_8 rfl rfl ?_
  refine zr_imul X dX9_sets_9 ?_
  refine zr_iadd X dX9_sets_10 ?_
  refine zr_iload_n X 2 dX9_sets_11 rfl rfl ?_
  refine zr_iadd X dX9_sets_12 ?_
  refine zr_iload_n X 3 dX9_sets_13 rfl rfl ?_
  refine zr_iast X (133) (show 133 < w.1 by rw [hw]; omega) mW_133 (19 + 9 * k + i) (zi9 (c := 19) (n := 9) hx hy) (by omega) (by decide) dX9_sets_14 ?_
  refine zcw (f2 := mW w cy f v (upd s (19 + 9 * k + i) z) nu) mu_133 ?_
  exact zret_v E rfl dX9_sets_15 rfl
set_option maxHeartbeats 4000000 in
set_option maxRecDepth 100000 in
theorem k_ofGroup {l : Launch} {D : va_G} {cy : Nat → ClassId} {w : zW} {f : zF} {v s nu : Nat → Int32} {x y : Int32} {k i : Nat} (hw : w.1 = 139) (hx : x = nI k) (hy : y = nI i) (hk : k < 10) (hi : i < 6) : zSd l D cy yX9_ofGroup cX9_ofGroup 3 (some .int) 0 0 [.ref (w.2 (132)), .int (x), .int (y)] w (mW w cy f v s nu) (some (.int (s (55 + 6 * k + i)))) (mW w cy f v s nu) := by
  refine zSd.intro (by decide) (Nat.le_of_ble_eq_true rfl) (fun G X E => ?_)
  show G (w, 0, 0) (mW w cy f v s nu) [(0, .ref (w.2 (132))), (1, .int (x)), (2, .int (y))] 0 []
  refine zr_aload_n X 0 dX9_ofGroup_0 rfl rfl ?_
  refine zr_get X zfd_RX9_7 (132) (show 132 < w.1 by rw [hw]; omega) mW_132 (v := .ref (w.2 (133))) rfl dX9_ofGroup_1 ?_
  refine zr_bipush X (v := 55) dX9_ofGroup_4 (by decide) ?_
  refine zr_bipush X (v := 6) dX9_ofGroup_6 (by decide) ?_
  refine zr_iload_n X 1 dX9_ofGroup_8 rfl rfl ?_
  refine zr_imul X dX9_ofGroup_9 ?_
  refine zr_iadd X dX9_ofGroup_10 ?_
  refine zr_iload_n X 2 dX9_ofGroup_11 rfl rfl ?_
  refine zr_iadd X dX9_ofGroup_12 ?_
  refine zr_iald X (133) (show 133 < w.1 by rw [hw]; omega) mW_133 (55 + 6 * k + i) (zi9 (c := 55) (n := 6) hx hy) (by omega) (by decide) dX9_ofGroup_13 ?_
  exact zret_i E rfl dX9_ofGroup_14 rfl rfl
def dIs (s : Nat → Int32) (x : Int32) : Int32 := if x < 0 then 0 else if s 0 ≤ x then 0 else 1
set_option maxHeartbeats 4000000 in
set_option maxRecDepth 100000 in
theorem k_isMule {l : Launch} {D : va_G} {cy : Nat → ClassId} {w : zW} {f : zF} {v s nu : Nat → Int32} {x : Int32} (hw : w.1 = 139)  : zSd l D cy yX9_isMule cX9_isMule 2 (some .boolean) 0 0 [.ref (w.2 (132)), .int (x)] w (mW w cy f v s nu) (some (.int (dIs s x))) (mW w cy f v s nu) := by
  refine zSd.intro (by decide) (Nat.le_of_ble_eq_true rfl) (fun G X E => ?_)
  show G (w, 0, 0) (mW w cy f v s nu) [(0, .ref (w.2 (132))), (1, .int (x))] 0 []
  refine zr_iload_n X 1 dX9_isMule_0 rfl rfl ?_
  refine zr_if_lt X (tgt := 18) dX9_isMule_1 (by decide) (fun h1 => ?_) (fun h2 => ?_)
  · refine zr_iconst X (v := 0) dX9_isMule_18 (by decide) ?_
    exact zret_z E rfl (Or.inl rfl) dX9_isMule_19 (by simp only [dIs, if_pos h1]) rfl
  · refine zr_iload_n X 1 dX9_isMule_4 rfl rfl ?_
    refine zr_aload_n X 0 dX9_isMule_5 rfl rfl ?_
    refine zr_get X zfd_RX9_7 (132) (show 132 < w.1 by rw [hw]; omega) mW_132 (v := .ref (w.2 (133))) rfl dX9_isMule_6 ?_
    refine zr_iconst X (v := 0) dX9_isMule_9 (by decide) ?_
    refine zr_iald X (133) (show 133 < w.1 by rw [hw]; omega) mW_133 (0) (rfl) (by decide) (by decide) dX9_isMule_10 ?_
    refine zr_icmp_ge X (tgt := 18) dX9_isMule_11 (by decide) (fun h3 => ?_) (fun h4 => ?_)
    · refine zr_iconst X (v := 0) dX9_isMule_18 (by decide) ?_
      exact zret_z E rfl (Or.inl rfl) dX9_isMule_19 (by simp only [dIs, if_neg h2, if_pos h3]) rfl
    · refine zr_iconst X (v := 1) dX9_isMule_14 (by decide) ?_
      refine zr_goto X (tgt := 19) dX9_isMule_15 (by decide) ?_
      exact zret_z E rfl (Or.inr rfl) dX9_isMule_19 (by simp only [dIs, if_neg h2, if_neg h4]) rfl
def dPl (s : Nat → Int32) (g : Int32) : Nat → Nat → Int32
  | 0, _ => -1000004
  | m + 1, k => if s (55 + 6 * k + 0) = g then nI k else dPl s g m (k + 1)
set_option maxHeartbeats 4000000 in
set_option maxRecDepth 100000 in
theorem k_placeOf {l : Launch} {D : va_G} {cy : Nat → ClassId} {w : zW} {f : zF} {v s nu : Nat → Int32} {x : Int32} {bk : Nat} (hw : w.1 = 139) (hg : s 1 = nI bk) (hbk : bk ≤ 10) : zSd l D cy yX9_placeOf cX9_placeOf 3 (some .int) 1 22 [.ref (w.2 (132)), .int (x)] w (mW w cy f v s nu) (some (.int (dPl s x bk 0))) (mW w cy f v s nu) := by
  refine zSd.intro (by decide) (Nat.le_of_ble_eq_true rfl) (fun G X E => ?_)
  show G (w, 0, 0) (mW w cy f v s nu) [(0, .ref (w.2 (132))), (1, .int (x))] 0 []
  refine zr_iconst X (v := 0) dX9_placeOf_0 (by decide) ?_
  refine zr_istore_n X (ls' := [(2, .int (0)), (0, .ref (w.2 (132))), (1, .int (x))]) dX9_placeOf_1 rfl (by decide) rfl ?_
  refine zr_loc X (ls' := [(0, .ref (w.2 (132))), (1, .int (x)), (2, .int (0))]) [1, 2, 0] rfl ?_
  refine zcast (f2 := mW w cy f v s nu) (ls2 := [(0, .ref (w.2 (132))), (1, .int (x)), (2, .int (nI (0)))]) rfl rfl ?_
  refine zdown (P := fun n => dPl s x (bk - (n)) (n) = dPl s x bk 0 → G (w, 0, 0) (mW w cy f v s nu) [(0, .ref (w.2 (132))), (1, .int (x)), (2, .int (nI (n)))] 2 []) (B := bk) ?_ (fun n hn2 ih2 => ?_) 0 (Nat.zero_le _) rfl
  · show dPl s x (bk - (bk)) (bk) = dPl s x bk 0 → G (w, 0, 0) (mW w cy f v s nu) [(0, .ref (w.2 (132))), (1, .int (x)), (2, .int (nI (bk)))] 2 []
    intro q
    rw [Nat.sub_self] at q
    refine zr_iload_n X 2 dX9_placeOf_2 rfl rfl ?_
    refine zr_aload_n X 0 dX9_placeOf_3 rfl rfl ?_
    refine zr_get X zfd_RX9_7 (132) (show 132 < w.1 by rw [hw]; omega) mW_132 (v := .ref (w.2 (133))) rfl dX9_placeOf_4 ?_
    refine zr_iconst X (v := 1) dX9_placeOf_7 (by decide) ?_
    refine zr_iald X (133) (show 133 < w.1 by rw [hw]; omega) mW_133 (1) (rfl) (by decide) (by decide) dX9_placeOf_8 ?_
    refine zr_icmp_ge X (tgt := 30) dX9_placeOf_9 (by decide) (fun _ => ?_) (fun h => False.elim (h (by rw [hg]; exact Int32.le_refl _)))
    refine zr_ldc X zm_4_41 dX9_placeOf_30 ?_
    exact zret_i E rfl dX9_placeOf_32 (by rw [← q]; simp only [dPl]) rfl
  · show dPl s x (bk - (n)) (n) = dPl s x bk 0 → G (w, 0, 0) (mW w cy f v s nu) [(0, .ref (w.2 (132))), (1, .int (x)), (2, .int (nI (n)))] 2 []
    intro q
    rw [show bk - n = (bk - (n + 1)) + 1 by omega] at q
    refine zr_iload_n X 2 dX9_placeOf_2 rfl rfl ?_
    refine zr_aload_n X 0 dX9_placeOf_3 rfl rfl ?_
    refine zr_get X zfd_RX9_7 (132) (show 132 < w.1 by rw [hw]; omega) mW_132 (v := .ref (w.2 (133))) rfl dX9_placeOf_4 ?_
    refine zr_iconst X (v := 1) dX9_placeOf_7 (by decide) ?_
    refine zr_iald X (133) (show 133 < w.1 by rw [hw]; omega) mW_133 (1) (rfl) (by decide) (by decide) dX9_placeOf_8 ?_
    refine zr_icmp_ge X (tgt := 30) dX9_placeOf_9 (by decide) (fun h => False.elim (nI_ge hn2 (by omega) (by rw [← hg]; exact h))) (fun _ => ?_)
    refine zr_aload_n X 0 dX9_placeOf_12 rfl rfl ?_
    refine zr_iload_n X 2 dX9_placeOf_13 rfl rfl ?_
    refine zr_iconst X (v := 0) dX9_placeOf_14 (by decide) ?_
    refine zr_cV X (As := [.int (nI (n)), .int (0)]) (rest := []) (f' := mW w cy f v s nu) (st' := [.int (s (55 + 6 * (n) + 0))]) zc_X9_ofGroup (132) (show 132 < w.1 by rw [hw]; omega) mW_132 (q9 := _) rfl rfl (k_ofGroup (k := (n)) (i := 0) hw rfl rfl (by omega) (by omega)) ⟨Nat.le_of_ble_eq_true rfl, Nat.le_of_ble_eq_true rfl⟩ ⟨Nat.le_refl _, Nat.le_refl _⟩ rfl (Nat.le_of_ble_eq_true rfl) zm_4_37 rfl dX9_placeOf_15 rfl ?_
    refine zr_iload_n X 1 dX9_placeOf_18 rfl rfl ?_
    refine zr_icmp_ne X (tgt := 24) dX9_placeOf_19 (by decide) (fun h1 => ?_) (fun h2 => ?_)
    · refine zr_iinc X (v := nI (n + 1)) (ls' := [(2, .int (nI (n + 1))), (0, .ref (w.2 (132))), (1, .int (x))]) 2 dX9_placeOf_24 rfl (zinc1 _) (by decide) rfl ?_
      refine zr_goto X (tgt := 2) dX9_placeOf_27 (by decide) ?_
      refine zr_loc X (ls' := [(0, .ref (w.2 (132))), (1, .int (x)), (2, .int (nI (n + 1)))]) [1, 2, 0] rfl ?_
      exact zcast (f2 := mW w cy f v s nu) (ls2 := [(0, .ref (w.2 (132))), (1, .int (x)), (2, .int (nI (n + 1)))]) rfl rfl (ih2 (by rw [← q]; simp only [if_neg h1, dPl]))
    · refine zr_iload_n X 2 dX9_placeOf_22 rfl rfl ?_
      exact zret_i E rfl dX9_placeOf_23 (by rw [← q]; simp only [if_pos h2, dPl]) rfl
def dLF (s : Nat → Int32) (a n : Nat) : Int32 := zfold (fun k m => m + s (115 + (a + k))) 0 n
set_option maxHeartbeats 4000000 in
set_option maxRecDepth 100000 in
theorem k_loavesFrom {l : Launch} {D : va_G} {cy : Nat → ClassId} {w : zW} {f : zF} {v s nu : Nat → Int32} {x y : Int32} {a b : Nat} (hw : w.1 = 139) (hx : x = nI a) (hy : y = nI b) (ha : a ≤ 21) (hb : b ≤ 20) : zSd l D cy yX9_loavesFrom cX9_loavesFrom 5 (some .int) 0 0 [.ref (w.2 (132)), .int (x), .int (y)] w (mW w cy f v s nu) (some (.int (dLF s a (b + 1 - a)))) (mW w cy f v s nu) := by
  refine zSd.intro (by decide) (Nat.le_of_ble_eq_true rfl) (fun G X E => ?_)
  show G (w, 0, 0) (mW w cy f v s nu) [(0, .ref (w.2 (132))), (1, .int (x)), (2, .int (y))] 0 []
  refine zr_iconst X (v := 0) dX9_loavesFrom_0 (by decide) ?_
  refine zr_istore_n X (ls' := [(3, .int (0)), (0, .ref (w.2 (132))), (1, .int (x)), (2, .int (y))]) dX9_loavesFrom_1 rfl (by decide) rfl ?_
  refine zr_iload_n X 2 dX9_loavesFrom_2 rfl rfl ?_
  refine zr_istore X (ls' := [(4, .int (x)), (3, .int (0)), (0, .ref (w.2 (132))), (1, .int (x)), (2, .int (y))]) dX9_loavesFrom_3 (by decide) rfl ?_
  refine zr_loc X (ls' := [(0, .ref (w.2 (132))), (1, .int (x)), (2, .int (y)), (3, .int (0)), (4, .int (x))]) [2, 3, 4, 1, 0] rfl ?_
  refine zcast (f2 := mW w cy f v s nu) (ls2 := [(0, .ref (w.2 (132))), (1, .int (x)), (2, .int (y)), (3, .int (dLF s a (0))), (4, .int (nI (a + (0))))]) rfl (by rw [hx]; rfl) ?_
  refine zdown (P := fun n => G (w, 0, 0) (mW w cy f v s nu) [(0, .ref (w.2 (132))), (1, .int (x)), (2, .int (y)), (3, .int (dLF s a (n))), (4, .int (nI (a + (n))))] 5 []) (B := b + 1 - a) ?_ (fun n hn5 ih5 => ?_) 0 (Nat.zero_le _) 
  · show G (w, 0, 0) (mW w cy f v s nu) [(0, .ref (w.2 (132))), (1, .int (x)), (2, .int (y)), (3, .int (dLF s a (b + 1 - a))), (4, .int (nI (a + (b + 1 - a))))] 5 []
    refine zr_iload X 4 dX9_loavesFrom_5 rfl ?_
    refine zr_iload_n X 2 dX9_loavesFrom_7 rfl rfl ?_
    refine zr_icmp_gt X (tgt := 30) dX9_loavesFrom_8 (by decide) (fun _ => ?_) (fun h => False.elim (h (by rw [hy]; exact nI_lt (by omega) (by omega))))
    refine zr_iload_n X 3 dX9_loavesFrom_30 rfl rfl ?_
    exact zret_i E rfl dX9_loavesFrom_31 rfl rfl
  · show G (w, 0, 0) (mW w cy f v s nu) [(0, .ref (w.2 (132))), (1, .int (x)), (2, .int (y)), (3, .int (dLF s a (n))), (4, .int (nI (a + (n))))] 5 []
    refine zr_iload X 4 dX9_loavesFrom_5 rfl ?_
    refine zr_iload_n X 2 dX9_loavesFrom_7 rfl rfl ?_
    refine zr_icmp_gt X (tgt := 30) dX9_loavesFrom_8 (by decide) (fun h => False.elim (nI_nlt (show a + n ≤ b by omega) (by omega) (by rw [← hy]; exact h))) (fun _ => ?_)
    refine zr_iload_n X 3 dX9_loavesFrom_11 rfl rfl ?_
    refine zr_aload_n X 0 dX9_loavesFrom_12 rfl rfl ?_
    refine zr_get X zfd_RX9_7 (132) (show 132 < w.1 by rw [hw]; omega) mW_132 (v := .ref (w.2 (133))) rfl dX9_loavesFrom_13 ?_
    refine zr_bipush X (v := 115) dX9_loavesFrom_16 (by decide) ?_
    refine zr_iload X 4 dX9_loavesFrom_18 rfl ?_
    refine zr_iadd X dX9_loavesFrom_20 ?_
    refine zr_iald X (133) (show 133 < w.1 by rw [hw]; omega) mW_133 (115 + (a + (n))) (nI_add 115 _) (by omega) (by decide) dX9_loavesFrom_21 ?_
    refine zr_iadd X dX9_loavesFrom_22 ?_
    refine zr_istore_n X (ls' := [(3, .int ((dLF s a (n)) + (s (115 + (a + (n)))))), (0, .ref (w.2 (132))), (1, .int (x)), (2, .int (y)), (4, .int (nI (a + (n))))]) dX9_loavesFrom_23 rfl (by decide) rfl ?_
    refine zr_iinc X (v := nI (a + (n) + 1)) (ls' := [(4, .int (nI (a + (n) + 1))), (3, .int ((dLF s a (n)) + (s (115 + (a + (n)))))), (0, .ref (w.2 (132))), (1, .int (x)), (2, .int (y))]) 4 dX9_loavesFrom_24 rfl (zinc1 _) (by decide) rfl ?_
    refine zr_goto X (tgt := 5) dX9_loavesFrom_27 (by decide) ?_
    refine zr_loc X (ls' := [(0, .ref (w.2 (132))), (1, .int (x)), (2, .int (y)), (3, .int ((dLF s a (n)) + (s (115 + (a + (n)))))), (4, .int (nI (a + (n) + 1)))]) [2, 3, 4, 1, 0] rfl ?_
    exact zcast (f2 := mW w cy f v s nu) (ls2 := [(0, .ref (w.2 (132))), (1, .int (x)), (2, .int (y)), (3, .int (dLF s a (n + 1))), (4, .int (nI (a + (n + 1))))]) rfl rfl ih5
set_option maxHeartbeats 4000000 in
set_option maxRecDepth 100000 in
theorem k_allLoaves {l : Launch} {D : va_G} {cy : Nat → ClassId} {w : zW} {f : zF} {v s nu : Nat → Int32}  (hw : w.1 = 139)  : zSd l D cy yX9_allLoaves cX9_allLoaves 1 (some .int) 1 24 [.ref (w.2 (132))] w (mW w cy f v s nu) (some (.int (dLF s 0 (20 + 1 - 0)))) (mW w cy f v s nu) := by
  refine zSd.intro (by decide) (Nat.le_of_ble_eq_true rfl) (fun G X E => ?_)
  show G (w, 0, 0) (mW w cy f v s nu) [(0, .ref (w.2 (132)))] 0 []
  refine zr_aload_n X 0 dX9_allLoaves_0 rfl rfl ?_
  refine zr_iconst X (v := 0) dX9_allLoaves_1 (by decide) ?_
  refine zr_bipush X (v := 20) dX9_allLoaves_2 (by decide) ?_
  refine zr_cV X (As := [.int (0), .int (20)]) (rest := []) (f' := mW w cy f v s nu) (st' := [.int (dLF s 0 (20 + 1 - 0))]) zc_X9_loavesFrom (132) (show 132 < w.1 by rw [hw]; omega) mW_132 (q9 := _) rfl rfl (k_loavesFrom (a := 0) (b := 20) hw rfl rfl (by omega) (by omega)) ⟨Nat.le_of_ble_eq_true rfl, Nat.le_of_ble_eq_true rfl⟩ ⟨Nat.le_refl _, Nat.le_refl _⟩ rfl (Nat.le_of_ble_eq_true rfl) zm_4_70 rfl dX9_allLoaves_4 rfl ?_
  exact zret_i E rfl dX9_allLoaves_7 rfl rfl
set_option maxHeartbeats 4000000 in
set_option maxRecDepth 100000 in
theorem k_stale {l : Launch} {D : va_G} {cy : Nat → ClassId} {w : zW} {f : zF} {v s nu : Nat → Int32} {fr : Nat} (hw : w.1 = 139) (hf : s 17 = nI fr) (hfr : fr ≤ 15) : zSd l D cy yX9_stale cX9_stale 1 (some .int) 1 24 [.ref (w.2 (132))] w (mW w cy f v s nu) (some (.int (dLF s (fr + 1) (20 + 1 - (fr + 1))))) (mW w cy f v s nu) := by
  refine zSd.intro (by decide) (Nat.le_of_ble_eq_true rfl) (fun G X E => ?_)
  show G (w, 0, 0) (mW w cy f v s nu) [(0, .ref (w.2 (132)))] 0 []
  refine zr_aload_n X 0 dX9_stale_0 rfl rfl ?_
  refine zr_aload_n X 0 dX9_stale_1 rfl rfl ?_
  refine zr_get X zfd_RX9_7 (132) (show 132 < w.1 by rw [hw]; omega) mW_132 (v := .ref (w.2 (133))) rfl dX9_stale_2 ?_
  refine zr_bipush X (v := 17) dX9_stale_5 (by decide) ?_
  refine zr_iald X (133) (show 133 < w.1 by rw [hw]; omega) mW_133 (17) (rfl) (by decide) (by decide) dX9_stale_7 ?_
  refine zr_iconst X (v := 1) dX9_stale_8 (by decide) ?_
  refine zr_iadd X dX9_stale_9 ?_
  refine zr_bipush X (v := 20) dX9_stale_10 (by decide) ?_
  refine zr_cV X (As := [.int ((s 17) + 1), .int (20)]) (rest := []) (f' := mW w cy f v s nu) (st' := [.int (dLF s (fr + 1) (20 + 1 - (fr + 1)))]) zc_X9_loavesFrom (132) (show 132 < w.1 by rw [hw]; omega) mW_132 (q9 := _) rfl rfl (k_loavesFrom (a := fr + 1) (b := 20) hw (by rw [hf]; exact nI_1 fr) rfl (by omega) (by omega)) ⟨Nat.le_of_ble_eq_true rfl, Nat.le_of_ble_eq_true rfl⟩ ⟨Nat.le_refl _, Nat.le_refl _⟩ rfl (Nat.le_of_ble_eq_true rfl) zm_4_70 rfl dX9_stale_12 rfl ?_
  exact zret_i E rfl dX9_stale_15 rfl rfl
set_option maxHeartbeats 4000000 in
set_option maxRecDepth 100000 in
theorem k_isThere {l : Launch} {D : va_G} {cy : Nat → ClassId} {w : zW} {f : zF} {v s nu : Nat → Int32} {x d : Int32} {k : Nat} (hw : w.1 = 139) (hx : x = nI k) (hk : k < 10) : zSd l D cy yX9_isThere cX9_isThere 3 (some .boolean) 1 22 [.ref (w.2 (132)), .int (x), .int (d)] w (mW w cy f v s nu) (some (.int (zwin (d - (s (55 + 6 * k + 2))) 0 ((s (55 + 6 * k + 3)) - 1)))) (mW w cy f v s nu) := by
  refine zSd.intro (by decide) (Nat.le_of_ble_eq_true rfl) (fun G X E => ?_)
  show G (w, 0, 0) (mW w cy f v s nu) [(0, .ref (w.2 (132))), (1, .int (x)), (2, .int (d))] 0 []
  refine zr_iload_n X 2 dX9_isThere_0 rfl rfl ?_
  refine zr_aload_n X 0 dX9_isThere_1 rfl rfl ?_
  refine zr_iload_n X 1 dX9_isThere_2 rfl rfl ?_
  refine zr_iconst X (v := 2) dX9_isThere_3 (by decide) ?_
  refine zr_cV X (As := [.int (x), .int (2)]) (rest := [.int (d)]) (f' := mW w cy f v s nu) (st' := [.int (s (55 + 6 * k + 2)), .int (d)]) zc_X9_ofGroup (132) (show 132 < w.1 by rw [hw]; omega) mW_132 (q9 := _) rfl rfl (k_ofGroup (k := k) (i := 2) hw hx rfl (by omega) (by omega)) ⟨Nat.le_of_ble_eq_true rfl, Nat.le_of_ble_eq_true rfl⟩ ⟨Nat.le_refl _, Nat.le_refl _⟩ rfl (Nat.le_of_ble_eq_true rfl) zm_4_37 rfl dX9_isThere_4 rfl ?_
  refine zr_isub X dX9_isThere_7 ?_
  refine zr_iconst X (v := 0) dX9_isThere_8 (by decide) ?_
  refine zr_aload_n X 0 dX9_isThere_9 rfl rfl ?_
  refine zr_iload_n X 1 dX9_isThere_10 rfl rfl ?_
  refine zr_iconst X (v := 3) dX9_isThere_11 (by decide) ?_
  refine zr_cV X (As := [.int (x), .int (3)]) (rest := [.int (0), .int (d - (s (55 + 6 * k + 2)))]) (f' := mW w cy f v s nu) (st' := [.int (s (55 + 6 * k + 3)), .int (0), .int (d - (s (55 + 6 * k + 2)))]) zc_X9_ofGroup (132) (show 132 < w.1 by rw [hw]; omega) mW_132 (q9 := _) rfl rfl (k_ofGroup (k := k) (i := 3) hw hx rfl (by omega) (by omega)) ⟨Nat.le_of_ble_eq_true rfl, Nat.le_of_ble_eq_true rfl⟩ ⟨Nat.le_refl _, Nat.le_refl _⟩ rfl (Nat.le_of_ble_eq_true rfl) zm_4_37 rfl dX9_isThere_12 rfl ?_
  refine zr_iconst X (v := 1) dX9_isThere_15 (by decide) ?_
  refine zr_isub X dX9_isThere_16 ?_
  refine zr_cS X (As := [.int (d - (s (55 + 6 * k + 2))), .int (0), .int ((s (55 + 6 * k + 3)) - 1)]) (rest := []) (f' := mW w cy f v s nu) (st' := [.int (zwin (d - (s (55 + 6 * k + 2))) 0 ((s (55 + 6 * k + 3)) - 1))]) zc_X9_in k_in ⟨Nat.le_of_ble_eq_true rfl, Nat.le_of_ble_eq_true rfl⟩ ⟨Nat.le_refl _, Nat.le_refl _⟩ rfl (Nat.le_of_ble_eq_true rfl) zm_3_227 rfl dX9_isThere_17 rfl ?_
  exact zret_z E rfl (zwin_01) dX9_isThere_20 rfl rfl
set_option maxHeartbeats 4000000 in
set_option maxRecDepth 100000 in
theorem k_wants {l : Launch} {D : va_G} {cy : Nat → ClassId} {w : zW} {f : zF} {v s nu : Nat → Int32} {x : Int32} (hw : w.1 = 139)  : zSd l D cy yX9_wants cX9_wants 1 (some .int) 0 0 [.int (x)] w (mW w cy f v s nu) (some (.int ((x + 1) / 2))) (mW w cy f v s nu) := by
  refine zSd.intro (by decide) (Nat.le_of_ble_eq_true rfl) (fun G X E => ?_)
  show G (w, 0, 0) (mW w cy f v s nu) [(0, .int (x))] 0 []
  refine zr_iload_n X 0 dX9_wants_0 rfl rfl ?_
  refine zr_iconst X (v := 1) dX9_wants_1 (by decide) ?_
  refine zr_iadd X dX9_wants_2 ?_
  refine zr_iconst X (v := 2) dX9_wants_3 (by decide) ?_
  refine zr_idiv X dX9_wants_4 (by decide) ?_
  exact zret_i E rfl dX9_wants_5 rfl rfl
theorem zia {c : Nat} {x : Int32} (h : ¬ x < 0) : nI c + x = nI (c + x.toNatClampNeg) := (congrArg (fun z => nI c + z) (zix1 h)).trans (nI_add c _)
theorem zle_nat {x : Int32} {N : Nat} (h : ¬ x < 0) (hN : N < 2147483648) (h2 : x ≤ nI N) : x.toNatClampNeg ≤ N := by
  obtain ⟨j, hj, rfl⟩ := nI_of h
  rw [nI_clamp hj]
  exact (nI_leI hj hN).mp h2
def dSt1 (s : Nat → Int32) (k : Nat) : Nat → Int32 := upd (upd s (19 + 9 * k + 4) 0) (19 + 9 * k + 7) ((upd s (19 + 9 * k + 4) 0) (19 + 9 * k + 7) + s (19 + 9 * k + 4))
def dSt (s : Nat → Int32) (k : Nat) : Nat → Int32 := if s 3 - s (19 + 9 * k + 5) ≤ 20 then upd (upd (dSt1 s k) (115 + (s 3 - s (19 + 9 * k + 5)).toNatClampNeg) ((dSt1 s k) (115 + (s 3 - s (19 + 9 * k + 5)).toNatClampNeg) + zmin (s (19 + 9 * k + 4)) (80 - dLF (dSt1 s k) 0 21))) 10 ((upd (dSt1 s k) (115 + (s 3 - s (19 + 9 * k + 5)).toNatClampNeg) ((dSt1 s k) (115 + (s 3 - s (19 + 9 * k + 5)).toNatClampNeg) + zmin (s (19 + 9 * k + 4)) (80 - dLF (dSt1 s k) 0 21))) 10 + (s (19 + 9 * k + 4) - zmin (s (19 + 9 * k + 4)) (80 - dLF (dSt1 s k) 0 21))) else upd (dSt1 s k) 9 ((dSt1 s k) 9 + s (19 + 9 * k + 4))
set_option maxHeartbeats 4000000 in
set_option maxRecDepth 100000 in
theorem k_stores {l : Launch} {D : va_G} {cy : Nat → ClassId} {w : zW} {f : zF} {v s nu : Nat → Int32} {x : Int32} {k : Nat} (hw : w.1 = 139) (hx : x = nI k) (hk : k < 4) (hA : ¬ (s 3 - s (19 + 9 * k + 5)) < 0) : zSd l D cy yX9_stores cX9_stores 5 none 2 44 [.ref (w.2 (132)), .int (x)] w (mW w cy f v s nu) none (mW w cy f v (dSt s k) nu) := by
  refine zSd.intro (by decide) (Nat.le_of_ble_eq_true rfl) (fun G X E => ?_)
  show G (w, 0, 0) (mW w cy f v s nu) [(0, .ref (w.2 (132))), (1, .int (x))] 0 []
  refine zr_aload_n X 0 dX9_stores_0 rfl rfl ?_
  refine zr_iload_n X 1 dX9_stores_1 rfl rfl ?_
  refine zr_iconst X (v := 4) dX9_stores_2 (by decide) ?_
  refine zr_cV X (As := [.int (x), .int (4)]) (rest := []) (f' := mW w cy f v s nu) (st' := [.int (s (19 + 9 * k + 4))]) zc_X9_of (132) (show 132 < w.1 by rw [hw]; omega) mW_132 (q9 := _) rfl rfl (k_of (k := k) (i := 4) hw hx rfl (by omega) (by omega)) ⟨Nat.le_of_ble_eq_true rfl, Nat.le_of_ble_eq_true rfl⟩ ⟨Nat.le_refl _, Nat.le_refl _⟩ rfl (Nat.le_of_ble_eq_true rfl) zm_4_12 rfl dX9_stores_3 rfl ?_
  refine zr_istore_n X (ls' := [(2, .int (s (19 + 9 * k + 4))), (0, .ref (w.2 (132))), (1, .int (x))]) dX9_stores_6 rfl (by decide) rfl ?_
  refine zr_aload_n X 1 dX9_stores_7 rfl rfl ?_
  refine zr_get X zfd_RX9_7 (132) (show 132 < w.1 by rw [hw]; omega) mW_132 (v := .ref (w.2 (133))) rfl dX9_stores_8 ?_
  refine zr_iconst X (v := 3) dX9_stores_11 (by decide) ?_
  refine zr_iald X (133) (show 133 < w.1 by rw [hw]; omega) mW_133 (3) (rfl) (by decide) (by decide) dX9_stores_12 ?_
  refine zr_aload_n X 1 dX9_stores_13 rfl rfl ?_
  refine zr_iload_n X 2 dX9_stores_14 rfl rfl ?_
  refine zr_iconst X (v := 5) dX9_stores_15 (by decide) ?_
  refine zr_cV X (As := [.int (x), .int (5)]) (rest := [.int (s 3)]) (f' := mW w cy f v s nu) (st' := [.int (s (19 + 9 * k + 5)), .int (s 3)]) zc_X9_of (132) (show 132 < w.1 by rw [hw]; omega) mW_132 (q9 := _) rfl rfl (k_of (k := k) (i := 5) hw hx rfl (by omega) (by omega)) ⟨Nat.le_of_ble_eq_true rfl, Nat.le_of_ble_eq_true rfl⟩ ⟨Nat.le_refl _, Nat.le_refl _⟩ rfl (Nat.le_of_ble_eq_true rfl) zm_4_12 rfl dX9_stores_16 rfl ?_
  refine zr_isub X dX9_stores_19 ?_
  refine zr_istore_n X (ls' := [(3, .int ((s 3) - (s (19 + 9 * k + 5)))), (2, .int (s (19 + 9 * k + 4))), (0, .ref (w.2 (132))), (1, .int (x))]) dX9_stores_20 rfl (by decide) rfl ?_
  refine zr_aload_n X 2 dX9_stores_21 rfl rfl ?_
  refine zr_iload_n X 3 dX9_stores_22 rfl rfl ?_
  refine zr_iconst X (v := 4) dX9_stores_23 (by decide) ?_
  refine zr_iconst X (v := 0) dX9_stores_24 (by decide) ?_
  refine zr_cV X (As := [.int (x), .int (4), .int (0)]) (rest := []) (f' := mW w cy f v (upd s (19 + 9 * k + 4) 0) nu) (st' := []) zc_X9_sets (132) (show 132 < w.1 by rw [hw]; omega) mW_132 (q9 := _) rfl rfl (k_sets (k := k) (i := 4) hw hx rfl (by omega) (by decide)) ⟨Nat.le_of_ble_eq_true rfl, Nat.le_of_ble_eq_true rfl⟩ ⟨Nat.le_refl _, Nat.le_refl _⟩ rfl (Nat.le_of_ble_eq_true rfl) zm_3_236 rfl dX9_stores_25 rfl ?_
  refine zr_aload_n X 2 dX9_stores_28 rfl rfl ?_
  refine zr_iload_n X 3 dX9_stores_29 rfl rfl ?_
  refine zr_bipush X (v := 7) dX9_stores_30 (by decide) ?_
  refine zr_aload_n X 2 dX9_stores_32 rfl rfl ?_
  refine zr_iload_n X 3 dX9_stores_33 rfl rfl ?_
  refine zr_bipush X (v := 7) dX9_stores_34 (by decide) ?_
  refine zr_cV X (As := [.int (x), .int (7)]) (rest := [.int (7), .int (x), .ref (w.2 (132))]) (f' := mW w cy f v (upd s (19 + 9 * k + 4) 0) nu) (st' := [.int ((upd s (19 + 9 * k + 4) 0) (19 + 9 * k + 7)), .int (7), .int (x), .ref (w.2 (132))]) zc_X9_of (132) (show 132 < w.1 by rw [hw]; omega) mW_132 (q9 := _) rfl rfl (k_of (k := k) (i := 7) hw hx rfl (by omega) (by omega)) ⟨Nat.le_of_ble_eq_true rfl, Nat.le_of_ble_eq_true rfl⟩ ⟨Nat.le_refl _, Nat.le_refl _⟩ rfl (Nat.le_of_ble_eq_true rfl) zm_4_12 rfl dX9_stores_36 rfl ?_
  refine zr_iload_n X 1 dX9_stores_39 rfl rfl ?_
  refine zr_iadd X dX9_stores_40 ?_
  refine zr_cV X (As := [.int (x), .int (7), .int (((upd s (19 + 9 * k + 4) 0) (19 + 9 * k + 7)) + (s (19 + 9 * k + 4)))]) (rest := []) (f' := mW w cy f v (dSt1 s k) nu) (st' := []) zc_X9_sets (132) (show 132 < w.1 by rw [hw]; omega) mW_132 (q9 := _) rfl rfl (k_sets (k := k) (i := 7) hw hx rfl (by omega) (by decide)) ⟨Nat.le_of_ble_eq_true rfl, Nat.le_of_ble_eq_true rfl⟩ ⟨Nat.le_refl _, Nat.le_refl _⟩ rfl (Nat.le_of_ble_eq_true rfl) zm_3_236 rfl dX9_stores_41 rfl ?_
  refine zr_iload_n X 0 dX9_stores_44 rfl rfl ?_
  refine zr_bipush X (v := 20) dX9_stores_45 (by decide) ?_
  refine zr_icmp_le X (tgt := 62) dX9_stores_47 (by decide) (fun h1 => ?_) (fun h2 => ?_)
  · refine zr_iload_n X 1 dX9_stores_62 rfl rfl ?_
    refine zr_bipush X (v := 80) dX9_stores_63 (by decide) ?_
    refine zr_aload_n X 2 dX9_stores_65 rfl rfl ?_
    refine zr_cV X (As := []) (rest := [.int (80), .int (s (19 + 9 * k + 4))]) (f' := mW w cy f v (dSt1 s k) nu) (st' := [.int (dLF (dSt1 s k) 0 21), .int (80), .int (s (19 + 9 * k + 4))]) zc_X9_allLoaves (132) (show 132 < w.1 by rw [hw]; omega) mW_132 (q9 := _) rfl rfl (k_allLoaves hw) ⟨Nat.le_of_ble_eq_true rfl, Nat.le_of_ble_eq_true rfl⟩ ⟨Nat.le_refl _, Nat.le_refl _⟩ rfl (Nat.le_of_ble_eq_true rfl) zm_4_66 rfl dX9_stores_66 rfl ?_
    refine zr_isub X dX9_stores_69 ?_
    refine zr_cS X (As := [.int (s (19 + 9 * k + 4)), .int (80 - (dLF (dSt1 s k) 0 21))]) (rest := []) (f' := mW w cy f v (dSt1 s k) nu) (st' := [.int (zmin (s (19 + 9 * k + 4)) (80 - (dLF (dSt1 s k) 0 21)))]) zc_X9_lesser k_lesser ⟨Nat.le_of_ble_eq_true rfl, Nat.le_of_ble_eq_true rfl⟩ ⟨Nat.le_refl _, Nat.le_refl _⟩ rfl (Nat.le_of_ble_eq_true rfl) zm_4_74 rfl dX9_stores_70 rfl ?_
    refine zr_istore X (ls' := [(4, .int (zmin (s (19 + 9 * k + 4)) (80 - (dLF (dSt1 s k) 0 21)))), (3, .int ((s 3) - (s (19 + 9 * k + 5)))), (2, .int (s (19 + 9 * k + 4))), (0, .ref (w.2 (132))), (1, .int (x))]) dX9_stores_73 (by decide) rfl ?_
    refine zr_aload_n X 3 dX9_stores_75 rfl rfl ?_
    refine zr_get X zfd_RX9_7 (132) (show 132 < w.1 by rw [hw]; omega) mW_132 (v := .ref (w.2 (133))) rfl dX9_stores_76 ?_
    refine zr_bipush X (v := 115) dX9_stores_79 (by decide) ?_
    refine zr_iload_n X 1 dX9_stores_81 rfl rfl ?_
    refine zr_iadd X dX9_stores_82 ?_
    refine zr_dup2 X dX9_stores_83 rfl rfl ?_
    refine zr_iald X (133) (show 133 < w.1 by rw [hw]; omega) mW_133 (115 + (s 3 - s (19 + 9 * k + 5)).toNatClampNeg) (zia (c := 115) hA) (by have := zle_nat (N := 20) hA (by decide) h1; omega) (by decide) dX9_stores_84 ?_
    refine zr_iload X 0 dX9_stores_85 rfl ?_
    refine zr_iadd X dX9_stores_87 ?_
    refine zr_iast X (133) (show 133 < w.1 by rw [hw]; omega) mW_133 (115 + (s 3 - s (19 + 9 * k + 5)).toNatClampNeg) (zia (c := 115) hA) (by have := zle_nat (N := 20) hA (by decide) h1; omega) (by decide) dX9_stores_88 ?_
    refine zcw (f2 := mW w cy f v (upd (dSt1 s k) (115 + (s 3 - s (19 + 9 * k + 5)).toNatClampNeg) (((dSt1 s k) (115 + (s 3 - s (19 + 9 * k + 5)).toNatClampNeg)) + (zmin (s (19 + 9 * k + 4)) (80 - (dLF (dSt1 s k) 0 21))))) nu) mu_133 ?_
    refine zr_aload_n X 3 dX9_stores_89 rfl rfl ?_
    refine zr_get X zfd_RX9_7 (132) (show 132 < w.1 by rw [hw]; omega) mW_132 (v := .ref (w.2 (133))) rfl dX9_stores_90 ?_
    refine zr_bipush X (v := 10) dX9_stores_93 (by decide) ?_
    refine zr_dup2 X dX9_stores_95 rfl rfl ?_
    refine zr_iald X (133) (show 133 < w.1 by rw [hw]; omega) mW_133 (10) (rfl) (by decide) (by decide) dX9_stores_96 ?_
    refine zr_iload_n X 2 dX9_stores_97 rfl rfl ?_
    refine zr_iload X 0 dX9_stores_98 rfl ?_
    refine zr_isub X dX9_stores_100 ?_
    refine zr_iadd X dX9_stores_101 ?_
    refine zr_iast X (133) (show 133 < w.1 by rw [hw]; omega) mW_133 (10) (rfl) (by decide) (by decide) dX9_stores_102 ?_
    refine zcw (f2 := mW w cy f v (upd (upd (dSt1 s k) (115 + (s 3 - s (19 + 9 * k + 5)).toNatClampNeg) (((dSt1 s k) (115 + (s 3 - s (19 + 9 * k + 5)).toNatClampNeg)) + (zmin (s (19 + 9 * k + 4)) (80 - (dLF (dSt1 s k) 0 21))))) 10 (((upd (dSt1 s k) (115 + (s 3 - s (19 + 9 * k + 5)).toNatClampNeg) (((dSt1 s k) (115 + (s 3 - s (19 + 9 * k + 5)).toNatClampNeg)) + (zmin (s (19 + 9 * k + 4)) (80 - (dLF (dSt1 s k) 0 21))))) 10) + ((s (19 + 9 * k + 4)) - (zmin (s (19 + 9 * k + 4)) (80 - (dLF (dSt1 s k) 0 21)))))) nu) mu_133 ?_
    exact zret_v E rfl dX9_stores_103 (by unfold dSt; rw [if_pos h1])
  · refine zr_aload_n X 2 dX9_stores_50 rfl rfl ?_
    refine zr_get X zfd_RX9_7 (132) (show 132 < w.1 by rw [hw]; omega) mW_132 (v := .ref (w.2 (133))) rfl dX9_stores_51 ?_
    refine zr_bipush X (v := 9) dX9_stores_54 (by decide) ?_
    refine zr_dup2 X dX9_stores_56 rfl rfl ?_
    refine zr_iald X (133) (show 133 < w.1 by rw [hw]; omega) mW_133 (9) (rfl) (by decide) (by decide) dX9_stores_57 ?_
    refine zr_iload_n X 1 dX9_stores_58 rfl rfl ?_
    refine zr_iadd X dX9_stores_59 ?_
    refine zr_iast X (133) (show 133 < w.1 by rw [hw]; omega) mW_133 (9) (rfl) (by decide) (by decide) dX9_stores_60 ?_
    refine zcw (f2 := mW w cy f v (upd (dSt1 s k) 9 (((dSt1 s k) 9) + (s (19 + 9 * k + 4)))) nu) mu_133 ?_
    exact zret_v E rfl dX9_stores_61 (by unfold dSt; rw [if_neg h2])
def dHo (s : Nat → Int32) (k : Nat) : Nat → Int32 := if s (19 + 9 * k + 6) < s (19 + 9 * k + 1) then upd (upd (upd s (19 + 9 * k + 2) 0) (19 + 9 * k + 3) 0) (19 + 9 * k + 8) ((upd (upd s (19 + 9 * k + 2) 0) (19 + 9 * k + 3) 0) (19 + 9 * k + 8) + 0) else upd (upd (upd s (19 + 9 * k + 2) 3) (19 + 9 * k + 3) 5) (19 + 9 * k + 8) ((upd (upd s (19 + 9 * k + 2) 3) (19 + 9 * k + 3) 5) (19 + 9 * k + 8) + 1)
set_option maxHeartbeats 4000000 in
set_option maxRecDepth 100000 in
theorem k_comesHome {l : Launch} {D : va_G} {cy : Nat → ClassId} {w : zW} {f : zF} {v s nu : Nat → Int32} {x : Int32} {k : Nat} (hw : w.1 = 139) (hx : x = nI k) (hk : k < 4) : zSd l D cy yX9_comesHome cX9_comesHome 3 none 1 23 [.ref (w.2 (132)), .int (x)] w (mW w cy f v s nu) none (mW w cy f v (dHo s k) nu) := by
  refine zSd.intro (by decide) (Nat.le_of_ble_eq_true rfl) (fun G X E => ?_)
  show G (w, 0, 0) (mW w cy f v s nu) [(0, .ref (w.2 (132))), (1, .int (x))] 0 []
  refine zr_aload_n X 0 dX9_comesHome_0 rfl rfl ?_
  refine zr_iload_n X 1 dX9_comesHome_1 rfl rfl ?_
  refine zr_bipush X (v := 6) dX9_comesHome_2 (by decide) ?_
  refine zr_cV X (As := [.int (x), .int (6)]) (rest := []) (f' := mW w cy f v s nu) (st' := [.int (s (19 + 9 * k + 6))]) zc_X9_of (132) (show 132 < w.1 by rw [hw]; omega) mW_132 (q9 := _) rfl rfl (k_of (k := k) (i := 6) hw hx rfl (by omega) (by omega)) ⟨Nat.le_of_ble_eq_true rfl, Nat.le_of_ble_eq_true rfl⟩ ⟨Nat.le_refl _, Nat.le_refl _⟩ rfl (Nat.le_of_ble_eq_true rfl) zm_4_12 rfl dX9_comesHome_4 rfl ?_
  refine zr_aload_n X 0 dX9_comesHome_7 rfl rfl ?_
  refine zr_iload_n X 1 dX9_comesHome_8 rfl rfl ?_
  refine zr_iconst X (v := 1) dX9_comesHome_9 (by decide) ?_
  refine zr_cV X (As := [.int (x), .int (1)]) (rest := [.int (s (19 + 9 * k + 6))]) (f' := mW w cy f v s nu) (st' := [.int (s (19 + 9 * k + 1)), .int (s (19 + 9 * k + 6))]) zc_X9_of (132) (show 132 < w.1 by rw [hw]; omega) mW_132 (q9 := _) rfl rfl (k_of (k := k) (i := 1) hw hx rfl (by omega) (by omega)) ⟨Nat.le_of_ble_eq_true rfl, Nat.le_of_ble_eq_true rfl⟩ ⟨Nat.le_refl _, Nat.le_refl _⟩ rfl (Nat.le_of_ble_eq_true rfl) zm_4_12 rfl dX9_comesHome_10 rfl ?_
  refine zr_icmp_lt X (tgt := 20) dX9_comesHome_13 (by decide) (fun h1 => ?_) (fun h2 => ?_)
  · refine zr_iconst X (v := 0) dX9_comesHome_20 (by decide) ?_
    refine zr_istore_n X (ls' := [(2, .int (0)), (0, .ref (w.2 (132))), (1, .int (x))]) dX9_comesHome_21 rfl (by decide) rfl ?_
    refine zr_aload_n X 1 dX9_comesHome_22 rfl rfl ?_
    refine zr_iload_n X 2 dX9_comesHome_23 rfl rfl ?_
    refine zr_iconst X (v := 2) dX9_comesHome_24 (by decide) ?_
    refine zr_iload_n X 0 dX9_comesHome_25 rfl rfl ?_
    refine zr_if_eq X (tgt := 33) dX9_comesHome_26 (by decide) (fun _ => ?_) (fun h => absurd rfl h)
    refine zr_iconst X (v := 0) dX9_comesHome_33 (by decide) ?_
    refine zr_cV X (As := [.int (x), .int (2), .int (0)]) (rest := []) (f' := mW w cy f v (upd s (19 + 9 * k + 2) 0) nu) (st' := []) zc_X9_sets (132) (show 132 < w.1 by rw [hw]; omega) mW_132 (q9 := _) rfl rfl (k_sets (k := k) (i := 2) hw hx rfl (by omega) (by decide)) ⟨Nat.le_of_ble_eq_true rfl, Nat.le_of_ble_eq_true rfl⟩ ⟨Nat.le_refl _, Nat.le_refl _⟩ rfl (Nat.le_of_ble_eq_true rfl) zm_3_236 rfl dX9_comesHome_34 rfl ?_
    refine zr_aload_n X 1 dX9_comesHome_37 rfl rfl ?_
    refine zr_iload_n X 2 dX9_comesHome_38 rfl rfl ?_
    refine zr_iconst X (v := 3) dX9_comesHome_39 (by decide) ?_
    refine zr_iload_n X 0 dX9_comesHome_40 rfl rfl ?_
    refine zr_if_eq X (tgt := 48) dX9_comesHome_41 (by decide) (fun _ => ?_) (fun h => absurd rfl h)
    refine zr_iconst X (v := 0) dX9_comesHome_48 (by decide) ?_
    refine zr_cV X (As := [.int (x), .int (3), .int (0)]) (rest := []) (f' := mW w cy f v (upd (upd s (19 + 9 * k + 2) 0) (19 + 9 * k + 3) 0) nu) (st' := []) zc_X9_sets (132) (show 132 < w.1 by rw [hw]; omega) mW_132 (q9 := _) rfl rfl (k_sets (k := k) (i := 3) hw hx rfl (by omega) (by decide)) ⟨Nat.le_of_ble_eq_true rfl, Nat.le_of_ble_eq_true rfl⟩ ⟨Nat.le_refl _, Nat.le_refl _⟩ rfl (Nat.le_of_ble_eq_true rfl) zm_3_236 rfl dX9_comesHome_49 rfl ?_
    refine zr_aload_n X 1 dX9_comesHome_52 rfl rfl ?_
    refine zr_iload_n X 2 dX9_comesHome_53 rfl rfl ?_
    refine zr_bipush X (v := 8) dX9_comesHome_54 (by decide) ?_
    refine zr_aload_n X 1 dX9_comesHome_56 rfl rfl ?_
    refine zr_iload_n X 2 dX9_comesHome_57 rfl rfl ?_
    refine zr_bipush X (v := 8) dX9_comesHome_58 (by decide) ?_
    refine zr_cV X (As := [.int (x), .int (8)]) (rest := [.int (8), .int (x), .ref (w.2 (132))]) (f' := mW w cy f v (upd (upd s (19 + 9 * k + 2) 0) (19 + 9 * k + 3) 0) nu) (st' := [.int ((upd (upd s (19 + 9 * k + 2) 0) (19 + 9 * k + 3) 0) (19 + 9 * k + 8)), .int (8), .int (x), .ref (w.2 (132))]) zc_X9_of (132) (show 132 < w.1 by rw [hw]; omega) mW_132 (q9 := _) rfl rfl (k_of (k := k) (i := 8) hw hx rfl (by omega) (by omega)) ⟨Nat.le_of_ble_eq_true rfl, Nat.le_of_ble_eq_true rfl⟩ ⟨Nat.le_refl _, Nat.le_refl _⟩ rfl (Nat.le_of_ble_eq_true rfl) zm_4_12 rfl dX9_comesHome_60 rfl ?_
    refine zr_iload_n X 0 dX9_comesHome_63 rfl rfl ?_
    refine zr_if_eq X (tgt := 71) dX9_comesHome_64 (by decide) (fun _ => ?_) (fun h => absurd rfl h)
    refine zr_iconst X (v := 0) dX9_comesHome_71 (by decide) ?_
    refine zr_iadd X dX9_comesHome_72 ?_
    refine zr_cV X (As := [.int (x), .int (8), .int (((upd (upd s (19 + 9 * k + 2) 0) (19 + 9 * k + 3) 0) (19 + 9 * k + 8)) + 0)]) (rest := []) (f' := mW w cy f v (upd (upd (upd s (19 + 9 * k + 2) 0) (19 + 9 * k + 3) 0) (19 + 9 * k + 8) (((upd (upd s (19 + 9 * k + 2) 0) (19 + 9 * k + 3) 0) (19 + 9 * k + 8)) + 0)) nu) (st' := []) zc_X9_sets (132) (show 132 < w.1 by rw [hw]; omega) mW_132 (q9 := _) rfl rfl (k_sets (k := k) (i := 8) hw hx rfl (by omega) (by decide)) ⟨Nat.le_of_ble_eq_true rfl, Nat.le_of_ble_eq_true rfl⟩ ⟨Nat.le_refl _, Nat.le_refl _⟩ rfl (Nat.le_of_ble_eq_true rfl) zm_3_236 rfl dX9_comesHome_73 rfl ?_
    exact zret_v E rfl dX9_comesHome_76 (by unfold dHo; rw [if_pos h1])
  · refine zr_iconst X (v := 1) dX9_comesHome_16 (by decide) ?_
    refine zr_goto X (tgt := 21) dX9_comesHome_17 (by decide) ?_
    refine zr_istore_n X (ls' := [(2, .int (1)), (0, .ref (w.2 (132))), (1, .int (x))]) dX9_comesHome_21 rfl (by decide) rfl ?_
    refine zr_aload_n X 1 dX9_comesHome_22 rfl rfl ?_
    refine zr_iload_n X 2 dX9_comesHome_23 rfl rfl ?_
    refine zr_iconst X (v := 2) dX9_comesHome_24 (by decide) ?_
    refine zr_iload_n X 0 dX9_comesHome_25 rfl rfl ?_
    refine zr_if_eq X (tgt := 33) dX9_comesHome_26 (by decide) (fun h => absurd h (by decide)) (fun _ => ?_)
    refine zr_iconst X (v := 3) dX9_comesHome_29 (by decide) ?_
    refine zr_goto X (tgt := 34) dX9_comesHome_30 (by decide) ?_
    refine zr_cV X (As := [.int (x), .int (2), .int (3)]) (rest := []) (f' := mW w cy f v (upd s (19 + 9 * k + 2) 3) nu) (st' := []) zc_X9_sets (132) (show 132 < w.1 by rw [hw]; omega) mW_132 (q9 := _) rfl rfl (k_sets (k := k) (i := 2) hw hx rfl (by omega) (by decide)) ⟨Nat.le_of_ble_eq_true rfl, Nat.le_of_ble_eq_true rfl⟩ ⟨Nat.le_refl _, Nat.le_refl _⟩ rfl (Nat.le_of_ble_eq_true rfl) zm_3_236 rfl dX9_comesHome_34 rfl ?_
    refine zr_aload_n X 1 dX9_comesHome_37 rfl rfl ?_
    refine zr_iload_n X 2 dX9_comesHome_38 rfl rfl ?_
    refine zr_iconst X (v := 3) dX9_comesHome_39 (by decide) ?_
    refine zr_iload_n X 0 dX9_comesHome_40 rfl rfl ?_
    refine zr_if_eq X (tgt := 48) dX9_comesHome_41 (by decide) (fun h => absurd h (by decide)) (fun _ => ?_)
    refine zr_iconst X (v := 5) dX9_comesHome_44 (by decide) ?_
    refine zr_goto X (tgt := 49) dX9_comesHome_45 (by decide) ?_
    refine zr_cV X (As := [.int (x), .int (3), .int (5)]) (rest := []) (f' := mW w cy f v (upd (upd s (19 + 9 * k + 2) 3) (19 + 9 * k + 3) 5) nu) (st' := []) zc_X9_sets (132) (show 132 < w.1 by rw [hw]; omega) mW_132 (q9 := _) rfl rfl (k_sets (k := k) (i := 3) hw hx rfl (by omega) (by decide)) ⟨Nat.le_of_ble_eq_true rfl, Nat.le_of_ble_eq_true rfl⟩ ⟨Nat.le_refl _, Nat.le_refl _⟩ rfl (Nat.le_of_ble_eq_true rfl) zm_3_236 rfl dX9_comesHome_49 rfl ?_
    refine zr_aload_n X 1 dX9_comesHome_52 rfl rfl ?_
    refine zr_iload_n X 2 dX9_comesHome_53 rfl rfl ?_
    refine zr_bipush X (v := 8) dX9_comesHome_54 (by decide) ?_
    refine zr_aload_n X 1 dX9_comesHome_56 rfl rfl ?_
    refine zr_iload_n X 2 dX9_comesHome_57 rfl rfl ?_
    refine zr_bipush X (v := 8) dX9_comesHome_58 (by decide) ?_
    refine zr_cV X (As := [.int (x), .int (8)]) (rest := [.int (8), .int (x), .ref (w.2 (132))]) (f' := mW w cy f v (upd (upd s (19 + 9 * k + 2) 3) (19 + 9 * k + 3) 5) nu) (st' := [.int ((upd (upd s (19 + 9 * k + 2) 3) (19 + 9 * k + 3) 5) (19 + 9 * k + 8)), .int (8), .int (x), .ref (w.2 (132))]) zc_X9_of (132) (show 132 < w.1 by rw [hw]; omega) mW_132 (q9 := _) rfl rfl (k_of (k := k) (i := 8) hw hx rfl (by omega) (by omega)) ⟨Nat.le_of_ble_eq_true rfl, Nat.le_of_ble_eq_true rfl⟩ ⟨Nat.le_refl _, Nat.le_refl _⟩ rfl (Nat.le_of_ble_eq_true rfl) zm_4_12 rfl dX9_comesHome_60 rfl ?_
    refine zr_iload_n X 0 dX9_comesHome_63 rfl rfl ?_
    refine zr_if_eq X (tgt := 71) dX9_comesHome_64 (by decide) (fun h => absurd h (by decide)) (fun _ => ?_)
    refine zr_iconst X (v := 1) dX9_comesHome_67 (by decide) ?_
    refine zr_goto X (tgt := 72) dX9_comesHome_68 (by decide) ?_
    refine zr_iadd X dX9_comesHome_72 ?_
    refine zr_cV X (As := [.int (x), .int (8), .int (((upd (upd s (19 + 9 * k + 2) 3) (19 + 9 * k + 3) 5) (19 + 9 * k + 8)) + 1)]) (rest := []) (f' := mW w cy f v (upd (upd (upd s (19 + 9 * k + 2) 3) (19 + 9 * k + 3) 5) (19 + 9 * k + 8) (((upd (upd s (19 + 9 * k + 2) 3) (19 + 9 * k + 3) 5) (19 + 9 * k + 8)) + 1)) nu) (st' := []) zc_X9_sets (132) (show 132 < w.1 by rw [hw]; omega) mW_132 (q9 := _) rfl rfl (k_sets (k := k) (i := 8) hw hx rfl (by omega) (by decide)) ⟨Nat.le_of_ble_eq_true rfl, Nat.le_of_ble_eq_true rfl⟩ ⟨Nat.le_refl _, Nat.le_refl _⟩ rfl (Nat.le_of_ble_eq_true rfl) zm_3_236 rfl dX9_comesHome_73 rfl ?_
    exact zret_v E rfl dX9_comesHome_76 (by unfold dHo; rw [if_neg h2])
def dC1 (s : Nat → Int32) (k : Nat) : Nat → Int32 := upd s (19 + 9 * k + 3) (s (19 + 9 * k + 3) - 1)
def dCo (s : Nat → Int32) (k : Nat) : Nat → Int32 := if (dC1 s k) (19 + 9 * k + 3) ≤ 0 then (if s (19 + 9 * k + 2) = 1 then upd (upd (dSt (dC1 s k) k) (19 + 9 * k + 2) 2) (19 + 9 * k + 3) 2 else if s (19 + 9 * k + 2) = 2 then dHo (dC1 s k) k else upd (upd (dC1 s k) (19 + 9 * k + 2) 0) (19 + 9 * k + 6) 0) else dC1 s k
theorem dC1_ne {s : Nat → Int32} {k i : Nat} (h : i ≠ 19 + 9 * k + 3) : dC1 s k i = s i := upd_ne h
set_option maxHeartbeats 4000000 in
set_option maxRecDepth 100000 in
theorem k_comesOn {l : Launch} {D : va_G} {cy : Nat → ClassId} {w : zW} {f : zF} {v s nu : Nat → Int32} {x : Int32} {k : Nat} (hw : w.1 = 139) (hx : x = nI k) (hk : k < 4) (hA : s (19 + 9 * k + 2) = 1 → ¬ (s 3 - s (19 + 9 * k + 5)) < 0) : zSd l D cy yX9_comesOn cX9_comesOn 3 none 3 68 [.ref (w.2 (132)), .int (x)] w (mW w cy f v s nu) none (mW w cy f v (dCo s k) nu) := by
  refine zSd.intro (by decide) (Nat.le_of_ble_eq_true rfl) (fun G X E => ?_)
  show G (w, 0, 0) (mW w cy f v s nu) [(0, .ref (w.2 (132))), (1, .int (x))] 0 []
  refine zr_aload_n X 0 dX9_comesOn_0 rfl rfl ?_
  refine zr_iload_n X 1 dX9_comesOn_1 rfl rfl ?_
  refine zr_iconst X (v := 2) dX9_comesOn_2 (by decide) ?_
  refine zr_cV X (As := [.int (x), .int (2)]) (rest := []) (f' := mW w cy f v s nu) (st' := [.int (s (19 + 9 * k + 2))]) zc_X9_of (132) (show 132 < w.1 by rw [hw]; omega) mW_132 (q9 := _) rfl rfl (k_of (k := k) (i := 2) hw hx rfl (by omega) (by omega)) ⟨Nat.le_of_ble_eq_true rfl, Nat.le_of_ble_eq_true rfl⟩ ⟨Nat.le_refl _, Nat.le_refl _⟩ rfl (Nat.le_of_ble_eq_true rfl) zm_4_12 rfl dX9_comesOn_3 rfl ?_
  refine zr_istore_n X (ls' := [(2, .int (s (19 + 9 * k + 2))), (0, .ref (w.2 (132))), (1, .int (x))]) dX9_comesOn_6 rfl (by decide) rfl ?_
  refine zr_aload_n X 1 dX9_comesOn_7 rfl rfl ?_
  refine zr_iload_n X 2 dX9_comesOn_8 rfl rfl ?_
  refine zr_iconst X (v := 3) dX9_comesOn_9 (by decide) ?_
  refine zr_aload_n X 1 dX9_comesOn_10 rfl rfl ?_
  refine zr_iload_n X 2 dX9_comesOn_11 rfl rfl ?_
  refine zr_iconst X (v := 3) dX9_comesOn_12 (by decide) ?_
  refine zr_cV X (As := [.int (x), .int (3)]) (rest := [.int (3), .int (x), .ref (w.2 (132))]) (f' := mW w cy f v s nu) (st' := [.int (s (19 + 9 * k + 3)), .int (3), .int (x), .ref (w.2 (132))]) zc_X9_of (132) (show 132 < w.1 by rw [hw]; omega) mW_132 (q9 := _) rfl rfl (k_of (k := k) (i := 3) hw hx rfl (by omega) (by omega)) ⟨Nat.le_of_ble_eq_true rfl, Nat.le_of_ble_eq_true rfl⟩ ⟨Nat.le_refl _, Nat.le_refl _⟩ rfl (Nat.le_of_ble_eq_true rfl) zm_4_12 rfl dX9_comesOn_13 rfl ?_
  refine zr_iconst X (v := 1) dX9_comesOn_16 (by decide) ?_
  refine zr_isub X dX9_comesOn_17 ?_
  refine zr_cV X (As := [.int (x), .int (3), .int ((s (19 + 9 * k + 3)) - 1)]) (rest := []) (f' := mW w cy f v (dC1 s k) nu) (st' := []) zc_X9_sets (132) (show 132 < w.1 by rw [hw]; omega) mW_132 (q9 := _) rfl rfl (k_sets (k := k) (i := 3) hw hx rfl (by omega) (by decide)) ⟨Nat.le_of_ble_eq_true rfl, Nat.le_of_ble_eq_true rfl⟩ ⟨Nat.le_refl _, Nat.le_refl _⟩ rfl (Nat.le_of_ble_eq_true rfl) zm_3_236 rfl dX9_comesOn_18 rfl ?_
  refine zr_aload_n X 1 dX9_comesOn_21 rfl rfl ?_
  refine zr_iload_n X 2 dX9_comesOn_22 rfl rfl ?_
  refine zr_iconst X (v := 3) dX9_comesOn_23 (by decide) ?_
  refine zr_cV X (As := [.int (x), .int (3)]) (rest := []) (f' := mW w cy f v (dC1 s k) nu) (st' := [.int ((dC1 s k) (19 + 9 * k + 3))]) zc_X9_of (132) (show 132 < w.1 by rw [hw]; omega) mW_132 (q9 := _) rfl rfl (k_of (k := k) (i := 3) hw hx rfl (by omega) (by omega)) ⟨Nat.le_of_ble_eq_true rfl, Nat.le_of_ble_eq_true rfl⟩ ⟨Nat.le_refl _, Nat.le_refl _⟩ rfl (Nat.le_of_ble_eq_true rfl) zm_4_12 rfl dX9_comesOn_24 rfl ?_
  refine zr_if_le X (tgt := 31) dX9_comesOn_27 (by decide) (fun h1 => ?_) (fun h2 => ?_)
  · refine zr_iload_n X 0 dX9_comesOn_31 rfl rfl ?_
    refine zr_iconst X (v := 1) dX9_comesOn_32 (by decide) ?_
    refine zr_icmp_ne X (tgt := 58) dX9_comesOn_33 (by decide) (fun h3 => ?_) (fun h4 => ?_)
    · refine zr_iload_n X 0 dX9_comesOn_58 rfl rfl ?_
      refine zr_iconst X (v := 2) dX9_comesOn_59 (by decide) ?_
      refine zr_icmp_ne X (tgt := 71) dX9_comesOn_60 (by decide) (fun h5 => ?_) (fun h6 => ?_)
      · refine zr_aload_n X 1 dX9_comesOn_71 rfl rfl ?_
        refine zr_iload_n X 2 dX9_comesOn_72 rfl rfl ?_
        refine zr_iconst X (v := 2) dX9_comesOn_73 (by decide) ?_
        refine zr_iconst X (v := 0) dX9_comesOn_74 (by decide) ?_
        refine zr_cV X (As := [.int (x), .int (2), .int (0)]) (rest := []) (f' := mW w cy f v (upd (dC1 s k) (19 + 9 * k + 2) 0) nu) (st' := []) zc_X9_sets (132) (show 132 < w.1 by rw [hw]; omega) mW_132 (q9 := _) rfl rfl (k_sets (k := k) (i := 2) hw hx rfl (by omega) (by decide)) ⟨Nat.le_of_ble_eq_true rfl, Nat.le_of_ble_eq_true rfl⟩ ⟨Nat.le_refl _, Nat.le_refl _⟩ rfl (Nat.le_of_ble_eq_true rfl) zm_3_236 rfl dX9_comesOn_75 rfl ?_
        refine zr_aload_n X 1 dX9_comesOn_78 rfl rfl ?_
        refine zr_iload_n X 2 dX9_comesOn_79 rfl rfl ?_
        refine zr_bipush X (v := 6) dX9_comesOn_80 (by decide) ?_
        refine zr_iconst X (v := 0) dX9_comesOn_82 (by decide) ?_
        refine zr_cV X (As := [.int (x), .int (6), .int (0)]) (rest := []) (f' := mW w cy f v (upd (upd (dC1 s k) (19 + 9 * k + 2) 0) (19 + 9 * k + 6) 0) nu) (st' := []) zc_X9_sets (132) (show 132 < w.1 by rw [hw]; omega) mW_132 (q9 := _) rfl rfl (k_sets (k := k) (i := 6) hw hx rfl (by omega) (by decide)) ⟨Nat.le_of_ble_eq_true rfl, Nat.le_of_ble_eq_true rfl⟩ ⟨Nat.le_refl _, Nat.le_refl _⟩ rfl (Nat.le_of_ble_eq_true rfl) zm_3_236 rfl dX9_comesOn_83 rfl ?_
        exact zret_v E rfl dX9_comesOn_86 (by unfold dCo; rw [if_pos h1, if_neg h3, if_neg h5])
      · refine zr_aload_n X 1 dX9_comesOn_63 rfl rfl ?_
        refine zr_iload_n X 2 dX9_comesOn_64 rfl rfl ?_
        refine zr_cV X (As := [.int (x)]) (rest := []) (f' := mW w cy f v (dHo (dC1 s k) k) nu) (st' := []) zc_X9_comesHome (132) (show 132 < w.1 by rw [hw]; omega) mW_132 (q9 := _) rfl rfl (k_comesHome (k := k) hw hx hk) ⟨Nat.le_of_ble_eq_true rfl, Nat.le_of_ble_eq_true rfl⟩ ⟨Nat.le_refl _, Nat.le_refl _⟩ rfl (Nat.le_of_ble_eq_true rfl) zm_4_77 rfl dX9_comesOn_65 rfl ?_
        refine zr_goto X (tgt := 86) dX9_comesOn_68 (by decide) ?_
        exact zret_v E rfl dX9_comesOn_86 (by unfold dCo; rw [if_pos h1, if_neg h3, if_pos h6])
    · refine zr_aload_n X 1 dX9_comesOn_36 rfl rfl ?_
      refine zr_iload_n X 2 dX9_comesOn_37 rfl rfl ?_
      refine zr_cV X (As := [.int (x)]) (rest := []) (f' := mW w cy f v (dSt (dC1 s k) k) nu) (st' := []) zc_X9_stores (132) (show 132 < w.1 by rw [hw]; omega) mW_132 (q9 := _) rfl rfl (k_stores (k := k) hw hx hk (by rw [dC1_ne (by omega), dC1_ne (by omega)]; exact hA h4)) ⟨Nat.le_of_ble_eq_true rfl, Nat.le_of_ble_eq_true rfl⟩ ⟨Nat.le_refl _, Nat.le_refl _⟩ rfl (Nat.le_of_ble_eq_true rfl) zm_4_62 rfl dX9_comesOn_38 rfl ?_
      refine zr_aload_n X 1 dX9_comesOn_41 rfl rfl ?_
      refine zr_iload_n X 2 dX9_comesOn_42 rfl rfl ?_
      refine zr_iconst X (v := 2) dX9_comesOn_43 (by decide) ?_
      refine zr_iconst X (v := 2) dX9_comesOn_44 (by decide) ?_
      refine zr_cV X (As := [.int (x), .int (2), .int (2)]) (rest := []) (f' := mW w cy f v (upd (dSt (dC1 s k) k) (19 + 9 * k + 2) 2) nu) (st' := []) zc_X9_sets (132) (show 132 < w.1 by rw [hw]; omega) mW_132 (q9 := _) rfl rfl (k_sets (k := k) (i := 2) hw hx rfl (by omega) (by decide)) ⟨Nat.le_of_ble_eq_true rfl, Nat.le_of_ble_eq_true rfl⟩ ⟨Nat.le_refl _, Nat.le_refl _⟩ rfl (Nat.le_of_ble_eq_true rfl) zm_3_236 rfl dX9_comesOn_45 rfl ?_
      refine zr_aload_n X 1 dX9_comesOn_48 rfl rfl ?_
      refine zr_iload_n X 2 dX9_comesOn_49 rfl rfl ?_
      refine zr_iconst X (v := 3) dX9_comesOn_50 (by decide) ?_
      refine zr_iconst X (v := 2) dX9_comesOn_51 (by decide) ?_
      refine zr_cV X (As := [.int (x), .int (3), .int (2)]) (rest := []) (f' := mW w cy f v (upd (upd (dSt (dC1 s k) k) (19 + 9 * k + 2) 2) (19 + 9 * k + 3) 2) nu) (st' := []) zc_X9_sets (132) (show 132 < w.1 by rw [hw]; omega) mW_132 (q9 := _) rfl rfl (k_sets (k := k) (i := 3) hw hx rfl (by omega) (by decide)) ⟨Nat.le_of_ble_eq_true rfl, Nat.le_of_ble_eq_true rfl⟩ ⟨Nat.le_refl _, Nat.le_refl _⟩ rfl (Nat.le_of_ble_eq_true rfl) zm_3_236 rfl dX9_comesOn_52 rfl ?_
      refine zr_goto X (tgt := 86) dX9_comesOn_55 (by decide) ?_
      exact zret_v E rfl dX9_comesOn_86 (by unfold dCo; rw [if_pos h1, if_pos h4])
  · exact zret_v E rfl dX9_comesOn_30 (by unfold dCo; rw [if_neg h2])
def dTkS (g : Nat) (k : Nat) (p : (Nat → Int32) × Int32) : (Nat → Int32) × Int32 := (upd p.1 (115 + (g - k)) (p.1 (115 + (g - k)) - zmin p.2 (p.1 (115 + (g - k)))), p.2 - zmin p.2 (p.1 (115 + (g - k))))
def dTk (s : Nat → Int32) (g : Nat) (x : Int32) (n : Nat) : (Nat → Int32) × Int32 := zfold (dTkS g) (s, x) n
theorem dTk_s {s : Nat → Int32} {g : Nat} {x : Int32} {n : Nat} : dTk s g x (n + 1) = dTkS g n (dTk s g x n) := rfl
def dTake (s : Nat → Int32) (g e : Nat) (x : Int32) : Nat → Int32 := upd (dTk s g x (g + 1 - e)).1 8 ((dTk s g x (g + 1 - e)).1 8 + x)
theorem zpr_at {g n : Nat} (h : n ≤ g) : zpr (g + 1 - n) = nI (g - n) := by
  rw [show g + 1 - n = (g - n) + 1 by omega]
  rfl
theorem zpr_lt {e : Nat} (h : e ≤ 21) : zpr e < nI e := by
  rcases e with _ | e
  · decide
  · exact nI_lt (by omega) (by omega)
set_option maxHeartbeats 4000000 in
set_option maxRecDepth 100000 in
theorem k_takes {l : Launch} {D : va_G} {cy : Nat → ClassId} {w : zW} {f : zF} {v s nu : Nat → Int32} {x y z : Int32} {g e : Nat} (hw : w.1 = 139) (hy : y = nI g) (hz : z = nI e) (hg : g ≤ 20) (he : e ≤ g + 1) : zSd l D cy yX9_takes cX9_takes 7 none 1 21 [.ref (w.2 (132)), .int (x), .int (y), .int (z)] w (mW w cy f v s nu) none (mW w cy f v (dTake s g e x) nu) := by
  refine zSd.intro (by decide) (Nat.le_of_ble_eq_true rfl) (fun G X E => ?_)
  show G (w, 0, 0) (mW w cy f v s nu) [(0, .ref (w.2 (132))), (1, .int (x)), (2, .int (y)), (3, .int (z))] 0 []
  refine zr_iload_n X 1 dX9_takes_0 rfl rfl ?_
  refine zr_istore X (ls' := [(4, .int (x)), (0, .ref (w.2 (132))), (1, .int (x)), (2, .int (y)), (3, .int (z))]) dX9_takes_1 (by decide) rfl ?_
  refine zr_iload_n X 3 dX9_takes_3 rfl rfl ?_
  refine zr_istore X (ls' := [(5, .int (y)), (4, .int (x)), (0, .ref (w.2 (132))), (1, .int (x)), (2, .int (y)), (3, .int (z))]) dX9_takes_4 (by decide) rfl ?_
  refine zr_loc X (ls' := [(0, .ref (w.2 (132))), (1, .int (x)), (2, .int (y)), (3, .int (z)), (4, .int (x)), (5, .int (y))]) [2, 3, 4, 5, 1, 0] rfl ?_
  refine zcast (f2 := mW w cy f v ((dTk s g x (0)).1) nu) (ls2 := [(0, .ref (w.2 (132))), (1, .int (x)), (2, .int (y)), (3, .int (z)), (4, .int ((dTk s g x (0)).2)), (5, .int (zpr (g + 1 - (0))))]) rfl (by rw [hy]; rfl) ?_
  refine zdown (P := fun n => G (w, 0, 0) (mW w cy f v ((dTk s g x (n)).1) nu) [(0, .ref (w.2 (132))), (1, .int (x)), (2, .int (y)), (3, .int (z)), (4, .int ((dTk s g x (n)).2)), (5, .int (zpr (g + 1 - (n))))] 6 []) (B := g + 1 - e) ?_ (fun n hn6 ih6 => ?_) 0 (Nat.zero_le _) 
  · show G (w, 0, 0) (mW w cy f v ((dTk s g x (g + 1 - e)).1) nu) [(0, .ref (w.2 (132))), (1, .int (x)), (2, .int (y)), (3, .int (z)), (4, .int ((dTk s g x (g + 1 - e)).2)), (5, .int (zpr (g + 1 - (g + 1 - e))))] 6 []
    refine zr_iload X 5 dX9_takes_6 rfl ?_
    refine zr_iload_n X 3 dX9_takes_8 rfl rfl ?_
    refine zr_icmp_lt X (tgt := 57) dX9_takes_9 (by decide) (fun _ => ?_) (fun h => False.elim (h (by rw [hz, show g + 1 - (g + 1 - e) = e by omega]; exact zpr_lt (by omega))))
    refine zr_aload_n X 0 dX9_takes_57 rfl rfl ?_
    refine zr_get X zfd_RX9_7 (132) (show 132 < w.1 by rw [hw]; omega) mW_132 (v := .ref (w.2 (133))) rfl dX9_takes_58 ?_
    refine zr_bipush X (v := 8) dX9_takes_61 (by decide) ?_
    refine zr_dup2 X dX9_takes_63 rfl rfl ?_
    refine zr_iald X (133) (show 133 < w.1 by rw [hw]; omega) mW_133 (8) (rfl) (by decide) (by decide) dX9_takes_64 ?_
    refine zr_iload_n X 1 dX9_takes_65 rfl rfl ?_
    refine zr_iadd X dX9_takes_66 ?_
    refine zr_iast X (133) (show 133 < w.1 by rw [hw]; omega) mW_133 (8) (rfl) (by decide) (by decide) dX9_takes_67 ?_
    refine zcw (f2 := mW w cy f v (upd ((dTk s g x (g + 1 - e)).1) 8 ((((dTk s g x (g + 1 - e)).1) 8) + x)) nu) mu_133 ?_
    exact zret_v E rfl dX9_takes_68 rfl
  · show G (w, 0, 0) (mW w cy f v ((dTk s g x (n)).1) nu) [(0, .ref (w.2 (132))), (1, .int (x)), (2, .int (y)), (3, .int (z)), (4, .int ((dTk s g x (n)).2)), (5, .int (zpr (g + 1 - (n))))] 6 []
    rw [zpr_at (show n ≤ g by omega)]
    show G (w, 0, 0) (mW w cy f v ((dTk s g x (n)).1) nu) [(0, .ref (w.2 (132))), (1, .int (x)), (2, .int (y)), (3, .int (z)), (4, .int ((dTk s g x (n)).2)), (5, .int (nI (g - (n))))] 6 []
    refine zr_iload X 5 dX9_takes_6 rfl ?_
    refine zr_iload_n X 3 dX9_takes_8 rfl rfl ?_
    refine zr_icmp_lt X (tgt := 57) dX9_takes_9 (by decide) (fun h => False.elim (nI_nlt (show e ≤ g - n by omega) (by omega) (by rw [← hz]; exact h))) (fun _ => ?_)
    refine zr_iload X 4 dX9_takes_12 rfl ?_
    refine zr_aload_n X 0 dX9_takes_14 rfl rfl ?_
    refine zr_get X zfd_RX9_7 (132) (show 132 < w.1 by rw [hw]; omega) mW_132 (v := .ref (w.2 (133))) rfl dX9_takes_15 ?_
    refine zr_bipush X (v := 115) dX9_takes_18 (by decide) ?_
    refine zr_iload X 5 dX9_takes_20 rfl ?_
    refine zr_iadd X dX9_takes_22 ?_
    refine zr_iald X (133) (show 133 < w.1 by rw [hw]; omega) mW_133 (115 + (g - (n))) (nI_add 115 _) (by omega) (by decide) dX9_takes_23 ?_
    refine zr_cS X (As := [.int ((dTk s g x (n)).2), .int (((dTk s g x (n)).1) (115 + (g - (n))))]) (rest := []) (f' := mW w cy f v ((dTk s g x (n)).1) nu) (st' := [.int (zmin ((dTk s g x (n)).2) (((dTk s g x (n)).1) (115 + (g - (n)))))]) zc_X9_lesser k_lesser ⟨Nat.le_of_ble_eq_true rfl, Nat.le_of_ble_eq_true rfl⟩ ⟨Nat.le_refl _, Nat.le_refl _⟩ rfl (Nat.le_of_ble_eq_true rfl) zm_4_74 rfl dX9_takes_24 rfl ?_
    refine zr_istore X (ls' := [(6, .int (zmin ((dTk s g x (n)).2) (((dTk s g x (n)).1) (115 + (g - (n)))))), (0, .ref (w.2 (132))), (1, .int (x)), (2, .int (y)), (3, .int (z)), (4, .int ((dTk s g x (n)).2)), (5, .int (nI (g - (n))))]) dX9_takes_27 (by decide) rfl ?_
    refine zr_aload_n X 1 dX9_takes_29 rfl rfl ?_
    refine zr_get X zfd_RX9_7 (132) (show 132 < w.1 by rw [hw]; omega) mW_132 (v := .ref (w.2 (133))) rfl dX9_takes_30 ?_
    refine zr_bipush X (v := 115) dX9_takes_33 (by decide) ?_
    refine zr_iload X 6 dX9_takes_35 rfl ?_
    refine zr_iadd X dX9_takes_37 ?_
    refine zr_dup2 X dX9_takes_38 rfl rfl ?_
    refine zr_iald X (133) (show 133 < w.1 by rw [hw]; omega) mW_133 (115 + (g - (n))) (nI_add 115 _) (by omega) (by decide) dX9_takes_39 ?_
    refine zr_iload X 0 dX9_takes_40 rfl ?_
    refine zr_isub X dX9_takes_42 ?_
    refine zr_iast X (133) (show 133 < w.1 by rw [hw]; omega) mW_133 (115 + (g - (n))) (nI_add 115 _) (by omega) (by decide) dX9_takes_43 ?_
    refine zcw (f2 := mW w cy f v (upd ((dTk s g x (n)).1) (115 + (g - (n))) ((((dTk s g x (n)).1) (115 + (g - (n)))) - (zmin ((dTk s g x (n)).2) (((dTk s g x (n)).1) (115 + (g - (n))))))) nu) mu_133 ?_
    refine zr_iload X 5 dX9_takes_44 rfl ?_
    refine zr_iload X 0 dX9_takes_46 rfl ?_
    refine zr_isub X dX9_takes_48 ?_
    refine zr_istore X (ls' := [(4, .int (((dTk s g x (n)).2) - (zmin ((dTk s g x (n)).2) (((dTk s g x (n)).1) (115 + (g - (n))))))), (6, .int (zmin ((dTk s g x (n)).2) (((dTk s g x (n)).1) (115 + (g - (n)))))), (0, .ref (w.2 (132))), (1, .int (x)), (2, .int (y)), (3, .int (z)), (5, .int (nI (g - (n))))]) dX9_takes_49 (by decide) rfl ?_
    refine zr_iinc X (v := zpr (g - (n))) (ls' := [(5, .int (zpr (g - (n)))), (4, .int (((dTk s g x (n)).2) - (zmin ((dTk s g x (n)).2) (((dTk s g x (n)).1) (115 + (g - (n))))))), (6, .int (zmin ((dTk s g x (n)).2) (((dTk s g x (n)).1) (115 + (g - (n)))))), (0, .ref (w.2 (132))), (1, .int (x)), (2, .int (y)), (3, .int (z))]) 6 dX9_takes_51 rfl (zdec1 _) (by decide) rfl ?_
    refine zr_goto X (tgt := 6) dX9_takes_54 (by decide) ?_
    refine zr_loc X (ls' := [(0, .ref (w.2 (132))), (1, .int (x)), (2, .int (y)), (3, .int (z)), (4, .int (((dTk s g x (n)).2) - (zmin ((dTk s g x (n)).2) (((dTk s g x (n)).1) (115 + (g - (n))))))), (5, .int (zpr (g - (n))))]) [3, 4, 5, 6, 1, 0] rfl ?_
    exact zcast (f2 := mW w cy f v ((dTk s g x (n + 1)).1) nu) (ls2 := [(0, .ref (w.2 (132))), (1, .int (x)), (2, .int (y)), (3, .int (z)), (4, .int ((dTk s g x (n + 1)).2)), (5, .int (zpr (g + 1 - (n + 1))))]) rfl (by rw [show g + 1 - (n + 1) = g - n by omega]; rfl) ih6
