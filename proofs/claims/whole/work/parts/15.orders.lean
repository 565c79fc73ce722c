def eOrdL (w : zW) (v : Nat → Int32) : List Value := [.ref (w.2 130), .ref (w.2 131), .int (v 0), .int (v 1), .int (v 2), .int (v 3), .int (v 4)]
abbrev eOrd (w : zW) (v : Nat → Int32) : va_E := .inr (5, eOrdL w v)
theorem eOrd_set (w : zW) (v : Nat → Int32) (x : Int32) : ∀ i, i < 5 → (eOrdL w v).set (2 + i) (.int x) = eOrdL w (upd v i x)
  | 0, _ => rfl
  | 1, _ => rfl
  | 2, _ => rfl
  | 3, _ => rfl
  | 4, _ => rfl
  | i + 5, h => absurd h (by omega)
/-- the world f, but for the orders' object and its numbers -/
def oW (w : zW) (cy : Nat → ClassId) (f : zF) (v nu : Nat → Int32) : zF := va_up (va_up f 129 (eOrd w v)) 131 (eInts cy 3 nu)
section ZO
variable {w : zW} {cy : Nat → ClassId} {f : zF} {v nu v' nu' : Nat → Int32}
theorem oW_129 : oW w cy f v nu 129 = eOrd w v := (va_up_ne _ _ (by decide)).trans (va_up_self _ _ _)
theorem oW_131 : oW w cy f v nu 131 = eInts cy 3 nu := va_up_self _ _ _
theorem oW_out {t : Nat} (h : t ≠ 129) (h2 : t ≠ 131) : oW w cy f v nu t = f t := (va_up_ne _ _ h2).trans (va_up_ne _ _ h)
theorem ou_129 : va_up (oW w cy f v nu) 129 (eOrd w v') = oW w cy f v' nu := by
  funext t
  unfold oW va_up
  by_cases h1 : t = 129
  · subst h1; rfl
  · by_cases h2 : t = 131
    · subst h2; rfl
    · rw [if_neg h1, if_neg h2, if_neg h1, if_neg h2, if_neg h1]
theorem ou_131 : va_up (oW w cy f v nu) 131 (eInts cy 3 nu') = oW w cy f v nu' := va_up_up
theorem oW_self (h1 : f 129 = eOrd w v) (h2 : f 131 = eInts cy 3 nu) : oW w cy f v nu = f := by
  funext t
  unfold oW va_up
  by_cases h3 : t = 131
  · rw [if_pos h3, h3, h2]
  · rw [if_neg h3]
    by_cases h4 : t = 129
    · rw [if_pos h4, h4, h1]
    · rw [if_neg h4]
theorem oW_put {h : Nat → va_E} : zPut (oW w cy f v nu) 22 h = oW w cy (zPut f 22 h) v nu := by
  funext t
  unfold zPut oW va_up
  by_cases h1 : t = 131
  · subst h1; rfl
  · by_cases h2 : t = 129
    · subst h2; rfl
    · simp only [if_neg h1, if_neg h2]
theorem pu_hut {h h' : Nat → va_E} : zPut (oW w cy (zPut f 22 h) v nu) 22 h' = oW w cy (zPut f 22 h') v nu := by
  rw [oW_put, zPut_put]
theorem pW_hut {h : Nat → va_E} {o : Nat} (ho : o < 21) : oW w cy (zPut f 22 h) v nu (22 + o) = h o :=
  (oW_out (by omega) (by omega)).trans (zPut_in ho)
end ZO
def oSign (tx : Nat → Int32) (n p : Int32) : Int32 := if p < 0 then -1 else if n ≤ p then -1 else if 60 ≤ p then -1 else tx p.toNatClampNeg
def oNumAt (nu : Nat → Int32) (p : Int32) : Int32 := if p < 0 then 0 else if 3 ≤ p then 0 else nu p.toNatClampNeg
set_option maxHeartbeats 4000000 in
set_option maxRecDepth 100000 in
theorem k_signAt {l : Launch} {D : va_G} {cy : Nat → ClassId} {w : zW} {f : zF} {tx v nu : Nat → Int32} {p : Int32} (hw : w.1 = 139) (htx : f 130 = eChars cy 60 tx)  : zSd l D cy yX5_signAt cX5_signAt 2 (some .int) 0 0 [.ref (w.2 (129)), .int (p)] w (oW w cy f v nu) (some (.int (oSign tx (v 0) p))) (oW w cy f v nu) := by
  refine zSd.intro (by decide) (Nat.le_of_ble_eq_true rfl) (fun G X E => ?_)
  show G (w, 0, 0) (oW w cy f v nu) [(0, .ref (w.2 (129))), (1, .int (p))] 0 []
  refine zr_iload_n X 1 dX5_signAt_0 rfl rfl ?_
  refine zr_if_lt X (tgt := 30) dX5_signAt_1 (by decide) (fun h1 => ?_) (fun h2 => ?_)
  · refine zr_iconst X (v := (-1)) dX5_signAt_30 (by decide) ?_
    exact zret_i E rfl dX5_signAt_31 (by simp only [oSign, if_pos h1]) rfl
  · refine zr_iload_n X 1 dX5_signAt_4 rfl rfl ?_
    refine zr_aload_n X 0 dX5_signAt_5 rfl rfl ?_
    refine zr_get X zfd_RX5_19 (129) (show 129 < w.1 by rw [hw]; decide) oW_129 (v := .int (v 0)) rfl dX5_signAt_6 ?_
    refine zr_icmp_ge X (tgt := 30) dX5_signAt_9 (by decide) (fun h3 => ?_) (fun h4 => ?_)
    · refine zr_iconst X (v := (-1)) dX5_signAt_30 (by decide) ?_
      exact zret_i E rfl dX5_signAt_31 (by simp only [oSign, if_neg h2, if_pos h3]) rfl
    · refine zr_iload_n X 1 dX5_signAt_12 rfl rfl ?_
      refine zr_aload_n X 0 dX5_signAt_13 rfl rfl ?_
      refine zr_get X zfd_RX5_9 (129) (show 129 < w.1 by rw [hw]; decide) oW_129 (v := .ref (w.2 (130))) rfl dX5_signAt_14 ?_
      refine zr_alen X (130) (show 130 < w.1 by rw [hw]; decide) (b := 1) rfl ((oW_out (by decide) (by decide)).trans htx) (v := 60) rfl dX5_signAt_17 ?_
      refine zr_icmp_ge X (tgt := 30) dX5_signAt_18 (by decide) (fun h5 => ?_) (fun h6 => ?_)
      · refine zr_iconst X (v := (-1)) dX5_signAt_30 (by decide) ?_
        exact zret_i E rfl dX5_signAt_31 (by simp only [oSign, if_neg h2, if_neg h4, if_pos h5]) rfl
      · refine zr_aload_n X 0 dX5_signAt_21 rfl rfl ?_
        refine zr_get X zfd_RX5_9 (129) (show 129 < w.1 by rw [hw]; decide) oW_129 (v := .ref (w.2 (130))) rfl dX5_signAt_22 ?_
        refine zr_iload_n X 1 dX5_signAt_25 rfl rfl ?_
        refine zr_cald X (130) (show 130 < w.1 by rw [hw]; decide) ((oW_out (by decide) (by decide)).trans htx) (p.toNatClampNeg) (zix1 h2) (zix2 h2 (by decide) h6) (by decide) dX5_signAt_26 ?_
        refine zr_goto X (tgt := 31) dX5_signAt_27 (by decide) ?_
        exact zret_i E rfl dX5_signAt_31 (by simp only [oSign, if_neg h2, if_neg h4, if_neg h6]) rfl
set_option maxHeartbeats 4000000 in
set_option maxRecDepth 100000 in
theorem k_numberAt {l : Launch} {D : va_G} {cy : Nat → ClassId} {w : zW} {f : zF} {tx v nu : Nat → Int32} {p : Int32} (hw : w.1 = 139) (htx : f 130 = eChars cy 60 tx)  : zSd l D cy yX5_numberAt cX5_numberAt 2 (some .int) 0 0 [.ref (w.2 (129)), .int (p)] w (oW w cy f v nu) (some (.int (oNumAt nu p))) (oW w cy f v nu) := by
  refine zSd.intro (by decide) (Nat.le_of_ble_eq_true rfl) (fun G X E => ?_)
  show G (w, 0, 0) (oW w cy f v nu) [(0, .ref (w.2 (129))), (1, .int (p))] 0 []
  refine zr_iload_n X 1 dX5_numberAt_0 rfl rfl ?_
  refine zr_if_lt X (tgt := 22) dX5_numberAt_1 (by decide) (fun h1 => ?_) (fun h2 => ?_)
  · refine zr_iconst X (v := 0) dX5_numberAt_22 (by decide) ?_
    exact zret_i E rfl dX5_numberAt_23 (by simp only [oNumAt, if_pos h1]) rfl
  · refine zr_iload_n X 1 dX5_numberAt_4 rfl rfl ?_
    refine zr_aload_n X 0 dX5_numberAt_5 rfl rfl ?_
    refine zr_get X zfd_RX5_15 (129) (show 129 < w.1 by rw [hw]; decide) oW_129 (v := .ref (w.2 (131))) rfl dX5_numberAt_6 ?_
    refine zr_alen X (131) (show 131 < w.1 by rw [hw]; decide) (b := 0) rfl oW_131 (v := 3) rfl dX5_numberAt_9 ?_
    refine zr_icmp_ge X (tgt := 22) dX5_numberAt_10 (by decide) (fun h3 => ?_) (fun h4 => ?_)
    · refine zr_iconst X (v := 0) dX5_numberAt_22 (by decide) ?_
      exact zret_i E rfl dX5_numberAt_23 (by simp only [oNumAt, if_neg h2, if_pos h3]) rfl
    · refine zr_aload_n X 0 dX5_numberAt_13 rfl rfl ?_
      refine zr_get X zfd_RX5_15 (129) (show 129 < w.1 by rw [hw]; decide) oW_129 (v := .ref (w.2 (131))) rfl dX5_numberAt_14 ?_
      refine zr_iload_n X 1 dX5_numberAt_17 rfl rfl ?_
      refine zr_iald X (131) (show 131 < w.1 by rw [hw]; decide) oW_131 (p.toNatClampNeg) (zix1 h2) (zix2 h2 (by decide) h4) (by decide) dX5_numberAt_18 ?_
      refine zr_goto X (tgt := 23) dX5_numberAt_19 (by decide) ?_
      exact zret_i E rfl dX5_numberAt_23 (by simp only [oNumAt, if_neg h2, if_neg h4]) rfl
def oNum (g : Int32 → Int32) : Nat → Int32 → Int32 → Nat → Int32 × Int32 × Nat
  | 0, a, p, n => (a, p, n)
  | m + 1, a, p, n => if (zwin (g p) 48 57) = 0 then (a, p, n) else oNum g m (a * 10 + (g p - 48)) (p + 1) (n + 1)
def oRd (tx : Nat → Int32) (n p : Int32) : Int32 × Int32 × Nat := oNum (oSign tx n) 3 0 p 0
def oDig (k : Nat) : Int32 := if (nI k) ≤ 0 then 0 else 1
theorem upd_upd {v : Nat → Int32} {k : Nat} {x y : Int32} : upd (upd v k x) k y = upd v k y := by
  funext j
  unfold upd
  split <;> rfl
theorem upd_self (v : Nat → Int32) (k : Nat) : upd v k (v k) = v := by
  funext j
  unfold upd
  by_cases h : j = k
  · rw [if_pos h, h]
  · rw [if_neg h]
set_option maxHeartbeats 4000000 in
set_option maxRecDepth 100000 in
theorem k_readNumber {l : Launch} {D : va_G} {cy : Nat → ClassId} {w : zW} {f : zF} {tx v nu : Nat → Int32} {q0 : Nat}  (hw : w.1 = 139) (htx : f 130 = eChars cy 60 tx) (hq : q0 < 3) : zSd l D cy yX5_readNumber cX5_readNumber 4 (some .boolean) 1 22 [.ref (w.2 (129)), .int (nI q0)] w (oW w cy f v nu) (some (.int (oDig (oRd tx (v 0) (v 2)).2.2))) (oW w cy f (upd v 2 (oRd tx (v 0) (v 2)).2.1) (upd nu q0 (oRd tx (v 0) (v 2)).1)) := by
  refine zSd.intro (by decide) (Nat.le_of_ble_eq_true rfl) (fun G X E => ?_)
  show G (w, 0, 0) (oW w cy f v nu) [(0, .ref (w.2 (129))), (1, .int (nI q0))] 0 []
  refine zr_iconst X (v := 0) dX5_readNumber_0 (by decide) ?_
  refine zr_istore_n X (ls' := [(2, .int (0)), (0, .ref (w.2 (129))), (1, .int (nI q0))]) dX5_readNumber_1 rfl (by decide) rfl ?_
  refine zr_iconst X (v := 0) dX5_readNumber_2 (by decide) ?_
  refine zr_istore_n X (ls' := [(3, .int (0)), (2, .int (0)), (0, .ref (w.2 (129))), (1, .int (nI q0))]) dX5_readNumber_3 rfl (by decide) rfl ?_
  refine zr_loc X (ls' := [(0, .ref (w.2 (129))), (1, .int (nI q0)), (2, .int (0)), (3, .int (0))]) [2, 3, 1, 0] rfl ?_
  refine zcast (f2 := oW w cy f (upd v 2 (v 2)) nu) (ls2 := [(0, .ref (w.2 (129))), (1, .int (nI q0)), (2, .int (0)), (3, .int (0))]) (congrArg (fun z => oW w cy f z nu) (upd_self v 2).symm) rfl ?_
  refine zdown (P := fun n => ∀ (a p : Int32), oNum (oSign tx (v 0)) (3 - (n)) a p (n) = oRd tx (v 0) (v 2) → G (w, 0, 0) (oW w cy f (upd v 2 p) nu) [(0, .ref (w.2 (129))), (1, .int (nI q0)), (2, .int (a)), (3, .int (nI (n)))] 4 []) (B := 3) ?_ (fun n hn4 ih4 => ?_) 0 (Nat.zero_le _) _ _ rfl
  · show ∀ (a p : Int32), oNum (oSign tx (v 0)) (3 - (3)) a p (3) = oRd tx (v 0) (v 2) → G (w, 0, 0) (oW w cy f (upd v 2 p) nu) [(0, .ref (w.2 (129))), (1, .int (nI q0)), (2, .int (a)), (3, .int (nI (3)))] 4 []
    intro a p q
    rw [show 3 - 3 = 0 from rfl] at q
    refine zr_iload_n X 3 dX5_readNumber_4 rfl rfl ?_
    refine zr_iconst X (v := 3) dX5_readNumber_5 (by decide) ?_
    refine zr_icmp_ge X (tgt := 60) dX5_readNumber_6 (by decide) (fun _ => ?_) (fun h => False.elim (h (by decide)))
    refine zr_iload_n X 1 dX5_readNumber_60 rfl rfl ?_
    refine zr_if_lt X (tgt := 80) dX5_readNumber_61 (by decide) (fun h => False.elim (nI_pos (by omega) h)) (fun _ => ?_)
    refine zr_iload_n X 1 dX5_readNumber_64 rfl rfl ?_
    refine zr_aload_n X 0 dX5_readNumber_65 rfl rfl ?_
    refine zr_get X zfd_RX5_15 (129) (show 129 < w.1 by rw [hw]; decide) oW_129 (v := .ref (w.2 (131))) rfl dX5_readNumber_66 ?_
    refine zr_alen X (131) (show 131 < w.1 by rw [hw]; decide) (b := 0) rfl oW_131 (v := 3) rfl dX5_readNumber_69 ?_
    refine zr_icmp_ge X (tgt := 80) dX5_readNumber_70 (by decide) (fun h => False.elim (nI_ge hq (by decide) h)) (fun _ => ?_)
    refine zr_aload_n X 0 dX5_readNumber_73 rfl rfl ?_
    refine zr_get X zfd_RX5_15 (129) (show 129 < w.1 by rw [hw]; decide) oW_129 (v := .ref (w.2 (131))) rfl dX5_readNumber_74 ?_
    refine zr_iload_n X 1 dX5_readNumber_77 rfl rfl ?_
    refine zr_iload_n X 2 dX5_readNumber_78 rfl rfl ?_
    refine zr_iast X (131) (show 131 < w.1 by rw [hw]; decide) oW_131 (q0) (rfl) (hq) (by decide) dX5_readNumber_79 ?_
    refine zcw (f2 := oW w cy f (upd v 2 p) (upd nu q0 a)) ou_131 ?_
    refine zr_iload_n X 3 dX5_readNumber_80 rfl rfl ?_
    refine zr_if_le X (tgt := 88) dX5_readNumber_81 (by decide) (fun h1 => ?_) (fun h2 => ?_)
    · refine zr_iconst X (v := 0) dX5_readNumber_88 (by decide) ?_
      exact zret_z E rfl (Or.inl rfl) dX5_readNumber_89 (by rw [← q]; simp only [if_pos h1, oNum]; simp only [if_pos h1, oDig]) (by rw [← q]; rfl)
    · refine zr_iconst X (v := 1) dX5_readNumber_84 (by decide) ?_
      refine zr_goto X (tgt := 89) dX5_readNumber_85 (by decide) ?_
      exact zret_z E rfl (Or.inr rfl) dX5_readNumber_89 (by rw [← q]; simp only [if_neg h2, oNum]; simp only [if_neg h2, oDig]) (by rw [← q]; rfl)
  · show ∀ (a p : Int32), oNum (oSign tx (v 0)) (3 - (n)) a p (n) = oRd tx (v 0) (v 2) → G (w, 0, 0) (oW w cy f (upd v 2 p) nu) [(0, .ref (w.2 (129))), (1, .int (nI q0)), (2, .int (a)), (3, .int (nI (n)))] 4 []
    intro a p q
    rw [show 3 - n = (3 - (n + 1)) + 1 by omega] at q
    refine zr_iload_n X 3 dX5_readNumber_4 rfl rfl ?_
    refine zr_iconst X (v := 3) dX5_readNumber_5 (by decide) ?_
    refine zr_icmp_ge X (tgt := 60) dX5_readNumber_6 (by decide) (fun h => False.elim (nI_ge hn4 (by decide) h)) (fun _ => ?_)
    refine zr_aload_n X 0 dX5_readNumber_9 rfl rfl ?_
    refine zr_aload_n X 0 dX5_readNumber_10 rfl rfl ?_
    refine zr_get X zfd_RX5_37 (129) (show 129 < w.1 by rw [hw]; decide) oW_129 (v := .int (p)) rfl dX5_readNumber_11 ?_
    refine zr_cV X (As := [.int (p)]) (rest := []) (f' := oW w cy f (upd v 2 p) nu) (st' := [.int (oSign tx (v 0) p)]) zc_X5_signAt (129) (show 129 < w.1 by rw [hw]; decide) oW_129 (q9 := _) rfl rfl (k_signAt hw htx) ⟨Nat.le_of_ble_eq_true rfl, Nat.le_of_ble_eq_true rfl⟩ ⟨Nat.le_refl _, Nat.le_refl _⟩ rfl (Nat.le_of_ble_eq_true rfl) zm_3_142 rfl dX5_readNumber_14 rfl ?_
    refine zr_bipush X (v := 48) dX5_readNumber_17 (by decide) ?_
    refine zr_bipush X (v := 57) dX5_readNumber_19 (by decide) ?_
    refine zr_cSN X (As := [.int (oSign tx (v 0) p), .int (48), .int (57)]) (rest := []) (f' := oW w cy f (upd v 2 p) nu) (st' := [.int (zwin (oSign tx (v 0) p) 48 57)]) zc_X8_isWithin k_isWithin ⟨Nat.le_of_ble_eq_true rfl, Nat.le_of_ble_eq_true rfl⟩ ⟨Nat.le_refl _, Nat.le_refl _⟩ rfl (Nat.le_of_ble_eq_true rfl) (List.mem_of_getElem? (i := 47) rfl) rfl dX5_readNumber_21 rfl ?_
    refine zr_if_eq X (tgt := 60) dX5_readNumber_24 (by decide) (fun h3 => ?_) (fun h4 => ?_)
    · refine zr_iload_n X 1 dX5_readNumber_60 rfl rfl ?_
      refine zr_if_lt X (tgt := 80) dX5_readNumber_61 (by decide) (fun h => False.elim (nI_pos (by omega) h)) (fun _ => ?_)
      refine zr_iload_n X 1 dX5_readNumber_64 rfl rfl ?_
      refine zr_aload_n X 0 dX5_readNumber_65 rfl rfl ?_
      refine zr_get X zfd_RX5_15 (129) (show 129 < w.1 by rw [hw]; decide) oW_129 (v := .ref (w.2 (131))) rfl dX5_readNumber_66 ?_
      refine zr_alen X (131) (show 131 < w.1 by rw [hw]; decide) (b := 0) rfl oW_131 (v := 3) rfl dX5_readNumber_69 ?_
      refine zr_icmp_ge X (tgt := 80) dX5_readNumber_70 (by decide) (fun h => False.elim (nI_ge hq (by decide) h)) (fun _ => ?_)
      refine zr_aload_n X 0 dX5_readNumber_73 rfl rfl ?_
      refine zr_get X zfd_RX5_15 (129) (show 129 < w.1 by rw [hw]; decide) oW_129 (v := .ref (w.2 (131))) rfl dX5_readNumber_74 ?_
      refine zr_iload_n X 1 dX5_readNumber_77 rfl rfl ?_
      refine zr_iload_n X 2 dX5_readNumber_78 rfl rfl ?_
      refine zr_iast X (131) (show 131 < w.1 by rw [hw]; decide) oW_131 (q0) (rfl) (hq) (by decide) dX5_readNumber_79 ?_
      refine zcw (f2 := oW w cy f (upd v 2 p) (upd nu q0 a)) ou_131 ?_
      refine zr_iload_n X 3 dX5_readNumber_80 rfl rfl ?_
      refine zr_if_le X (tgt := 88) dX5_readNumber_81 (by decide) (fun h5 => ?_) (fun h6 => ?_)
      · refine zr_iconst X (v := 0) dX5_readNumber_88 (by decide) ?_
        exact zret_z E rfl (Or.inl rfl) dX5_readNumber_89 (by rw [← q]; simp only [if_pos h3, if_pos h5, oNum]; simp only [if_pos h3, if_pos h5, oDig]) (by rw [← q]; simp only [if_pos h3, if_pos h5, oNum])
      · refine zr_iconst X (v := 1) dX5_readNumber_84 (by decide) ?_
        refine zr_goto X (tgt := 89) dX5_readNumber_85 (by decide) ?_
        exact zret_z E rfl (Or.inr rfl) dX5_readNumber_89 (by rw [← q]; simp only [if_pos h3, if_neg h6, oNum]; simp only [if_pos h3, if_neg h6, oDig]) (by rw [← q]; simp only [if_pos h3, if_neg h6, oNum])
    · refine zr_iload_n X 2 dX5_readNumber_27 rfl rfl ?_
      refine zr_bipush X (v := 10) dX5_readNumber_28 (by decide) ?_
      refine zr_imul X dX5_readNumber_30 ?_
      refine zr_aload_n X 0 dX5_readNumber_31 rfl rfl ?_
      refine zr_aload_n X 0 dX5_readNumber_32 rfl rfl ?_
      refine zr_get X zfd_RX5_37 (129) (show 129 < w.1 by rw [hw]; decide) oW_129 (v := .int (p)) rfl dX5_readNumber_33 ?_
      refine zr_cV X (As := [.int (p)]) (rest := [.int (a * 10)]) (f' := oW w cy f (upd v 2 p) nu) (st' := [.int (oSign tx (v 0) p), .int (a * 10)]) zc_X5_signAt (129) (show 129 < w.1 by rw [hw]; decide) oW_129 (q9 := _) rfl rfl (k_signAt hw htx) ⟨Nat.le_of_ble_eq_true rfl, Nat.le_of_ble_eq_true rfl⟩ ⟨Nat.le_refl _, Nat.le_refl _⟩ rfl (Nat.le_of_ble_eq_true rfl) zm_3_142 rfl dX5_readNumber_36 rfl ?_
      refine zr_bipush X (v := 48) dX5_readNumber_39 (by decide) ?_
      refine zr_isub X dX5_readNumber_41 ?_
      refine zr_iadd X dX5_readNumber_42 ?_
      refine zr_istore_n X (ls' := [(2, .int ((a * 10) + ((oSign tx (v 0) p) - 48))), (0, .ref (w.2 (129))), (1, .int (nI q0)), (3, .int (nI (n)))]) dX5_readNumber_43 rfl (by decide) rfl ?_
      refine zr_iinc X (v := nI (n + 1)) (ls' := [(3, .int (nI (n + 1))), (2, .int ((a * 10) + ((oSign tx (v 0) p) - 48))), (0, .ref (w.2 (129))), (1, .int (nI q0))]) 3 dX5_readNumber_44 rfl (zinc1 _) (by decide) rfl ?_
      refine zr_aload_n X 2 dX5_readNumber_47 rfl rfl ?_
      refine zr_dup X dX5_readNumber_48 rfl ?_
      refine zr_get X zfd_RX5_37 (129) (show 129 < w.1 by rw [hw]; decide) oW_129 (v := .int (p)) rfl dX5_readNumber_49 ?_
      refine zr_iconst X (v := 1) dX5_readNumber_52 (by decide) ?_
      refine zr_iadd X dX5_readNumber_53 ?_
      refine zr_put X zfd_RX5_37 zty_5_4 (129) (show 129 < w.1 by rw [hw]; decide) oW_129 rfl rfl (Nat.le_of_ble_eq_true rfl) (eOrd_set _ _ _ 2 (by decide)) dX5_readNumber_54 ?_
      refine zcw (f2 := oW w cy f (upd (upd v 2 p) 2 (p + 1)) nu) ou_129 ?_
      refine zr_goto X (tgt := 4) dX5_readNumber_57 (by decide) ?_
      refine zr_loc X (ls' := [(0, .ref (w.2 (129))), (1, .int (nI q0)), (2, .int ((a * 10) + ((oSign tx (v 0) p) - 48))), (3, .int (nI (n + 1)))]) [2, 3, 1, 0] rfl ?_
      exact zcast (f2 := oW w cy f (upd v 2 (p + 1)) nu) (ls2 := [(0, .ref (w.2 (129))), (1, .int (nI q0)), (2, .int ((a * 10) + ((oSign tx (v 0) p) - 48))), (3, .int (nI (n + 1)))]) (by rw [upd_upd]) rfl (ih4 _ _ (by rw [← q]; simp only [if_neg h4, oNum]))
def oParts (x : Int32) : Int32 := if x = 100 then 1 else if x = 103 then 3 else if x = 112 then 1 else if x = 115 then 2 else if x = 120 then 1 else 0
set_option maxHeartbeats 4000000 in
set_option maxRecDepth 100000 in
theorem k_partsOf {l : Launch} {D : va_G} {cy : Nat → ClassId} {w : zW} {f : zF} {x : Int32}  : zSd l D cy yX5_partsOf cX5_partsOf 1 (some .int) 0 0 [.int (x)] w f (some (.int (oParts x))) f := by
  refine zSd.intro (by decide) (Nat.le_of_ble_eq_true rfl) (fun G X E => ?_)
  show G (w, 0, 0) f [(0, .int (x))] 0 []
  refine zr_iload_n X 0 dX5_partsOf_0 rfl rfl ?_
  by_cases h1 : x = 100
  · refine zr_lookup X (off := 55) (tgt := 56) dX5_partsOf_1 (by decide) (by rw [h1]; decide) (by decide) ?_
    refine zr_iconst X (v := 1) dX5_partsOf_56 (by decide) ?_
    exact zret_i E rfl dX5_partsOf_57 (by simp only [oParts, if_pos h1]) rfl
  by_cases h2 : x = 103
  · refine zr_lookup X (off := 53) (tgt := 54) dX5_partsOf_1 (by decide) (by rw [h2]; decide) (by decide) ?_
    refine zr_iconst X (v := 3) dX5_partsOf_54 (by decide) ?_
    exact zret_i E rfl dX5_partsOf_55 (by simp only [oParts, if_neg h1, if_pos h2]) rfl
  by_cases h3 : x = 112
  · refine zr_lookup X (off := 55) (tgt := 56) dX5_partsOf_1 (by decide) (by rw [h3]; decide) (by decide) ?_
    refine zr_iconst X (v := 1) dX5_partsOf_56 (by decide) ?_
    exact zret_i E rfl dX5_partsOf_57 (by simp only [oParts, if_neg h1, if_neg h2, if_pos h3]) rfl
  by_cases h4 : x = 115
  · refine zr_lookup X (off := 51) (tgt := 52) dX5_partsOf_1 (by decide) (by rw [h4]; decide) (by decide) ?_
    refine zr_iconst X (v := 2) dX5_partsOf_52 (by decide) ?_
    exact zret_i E rfl dX5_partsOf_53 (by simp only [oParts, if_neg h1, if_neg h2, if_neg h3, if_pos h4]) rfl
  by_cases h5 : x = 120
  · refine zr_lookup X (off := 55) (tgt := 56) dX5_partsOf_1 (by decide) (by rw [h5]; decide) (by decide) ?_
    refine zr_iconst X (v := 1) dX5_partsOf_56 (by decide) ?_
    exact zret_i E rfl dX5_partsOf_57 (by simp only [oParts, if_neg h1, if_neg h2, if_neg h3, if_neg h4, if_pos h5]) rfl
  refine zr_lookup X (off := 57) (tgt := 58) dX5_partsOf_1 (by decide) (by rw [lv_osw h1 (show (100 : Int32).toInt = 100 from by decide), lv_osw h2 (show (103 : Int32).toInt = 103 from by decide), lv_osw h3 (show (112 : Int32).toInt = 112 from by decide), lv_osw h4 (show (115 : Int32).toInt = 115 from by decide), lv_osw h5 (show (120 : Int32).toInt = 120 from by decide)]; rfl) (by decide) ?_
  refine zr_iconst X (v := 0) dX5_partsOf_58 (by decide) ?_
  exact zret_i E rfl dX5_partsOf_59 (by simp only [oParts, if_neg h1, if_neg h2, if_neg h3, if_neg h4, if_neg h5]) rfl
def oSep (P : Int32) (k : Nat) : Int32 := if (nI k) = P - 1 then 59 else 44
def oOrd (tx : Nat → Int32) (n P : Int32) : Nat → Nat → Int32 → (Nat → Int32) → Int32 × Int32 × (Nat → Int32)
  | 0, _, p, nu => (1, p, nu)
  | m + 1, k, p, nu => if (oDig (oRd tx n p).2.2) = 0 then (0, (oRd tx n p).2.1, upd nu k (oRd tx n p).1) else if (oSign tx n (oRd tx n p).2.1) = (oSep P k) then oOrd tx n P m (k + 1) ((oRd tx n p).2.1 + 1) (upd nu k (oRd tx n p).1) else (0, (oRd tx n p).2.1, upd nu k (oRd tx n p).1)
def oRead (tx : Nat → Int32) (n p : Int32) (nu : Nat → Int32) : Int32 × Int32 × (Nat → Int32) := if (oParts (oSign tx n p)) = 0 then (0, p, nu) else oOrd tx n (oParts (oSign tx n p)) (oParts (oSign tx n p)).toNatClampNeg 0 (p + 1) nu
theorem oParts_n (x : Int32) : ∃ k : Nat, k ≤ 3 ∧ oParts x = nI k := by
  unfold oParts
  by_cases h1 : x = 100
  · exact ⟨1, by decide, by rw [if_pos h1]; rfl⟩
  · by_cases h2 : x = 103
    · exact ⟨3, by decide, by rw [if_neg h1, if_pos h2]; rfl⟩
    · by_cases h3 : x = 112
      · exact ⟨1, by decide, by rw [if_neg h1, if_neg h2, if_pos h3]; rfl⟩
      · by_cases h4 : x = 115
        · exact ⟨2, by decide, by rw [if_neg h1, if_neg h2, if_neg h3, if_pos h4]; rfl⟩
        · by_cases h5 : x = 120
          · exact ⟨1, by decide, by rw [if_neg h1, if_neg h2, if_neg h3, if_neg h4, if_pos h5]; rfl⟩
          · exact ⟨0, by decide, by rw [if_neg h1, if_neg h2, if_neg h3, if_neg h4, if_neg h5]; rfl⟩
set_option maxHeartbeats 4000000 in
set_option maxRecDepth 100000 in
theorem k_readOrder {l : Launch} {D : va_G} {cy : Nat → ClassId} {w : zW} {f : zF} {tx v nu : Nat → Int32}  (hw : w.1 = 139) (htx : f 130 = eChars cy 60 tx)  : zSd l D cy yX5_readOrder cX5_readOrder 3 (some .boolean) 2 45 [.ref (w.2 (129))] w (oW w cy f v nu) (some (.int ((oRead tx (v 0) (v 1) nu).1))) (oW w cy f (upd v 2 (oRead tx (v 0) (v 1) nu).2.1) (oRead tx (v 0) (v 1) nu).2.2) := by
  refine zSd.intro (by decide) (Nat.le_of_ble_eq_true rfl) (fun G X E => ?_)
  show G (w, 0, 0) (oW w cy f v nu) [(0, .ref (w.2 (129)))] 0 []
  refine zr_aload_n X 0 dX5_readOrder_0 rfl rfl ?_
  refine zr_aload_n X 0 dX5_readOrder_1 rfl rfl ?_
  refine zr_get X zfd_RX5_24 (129) (show 129 < w.1 by rw [hw]; decide) oW_129 (v := .int (v 1)) rfl dX5_readOrder_2 ?_
  refine zr_put X zfd_RX5_37 zty_5_4 (129) (show 129 < w.1 by rw [hw]; decide) oW_129 rfl rfl (Nat.le_of_ble_eq_true rfl) (eOrd_set _ _ _ 2 (by decide)) dX5_readOrder_5 ?_
  refine zcw (f2 := oW w cy f (upd v 2 (v 1)) nu) ou_129 ?_
  refine zr_aload_n X 0 dX5_readOrder_8 rfl rfl ?_
  refine zr_aload_n X 0 dX5_readOrder_9 rfl rfl ?_
  refine zr_get X zfd_RX5_37 (129) (show 129 < w.1 by rw [hw]; decide) oW_129 (v := .int (v 1)) rfl dX5_readOrder_10 ?_
  refine zr_cV X (As := [.int (v 1)]) (rest := []) (f' := oW w cy f (upd v 2 (v 1)) nu) (st' := [.int (oSign tx (v 0) (v 1))]) zc_X5_signAt (129) (show 129 < w.1 by rw [hw]; decide) oW_129 (q9 := _) rfl rfl (k_signAt hw htx) ⟨Nat.le_of_ble_eq_true rfl, Nat.le_of_ble_eq_true rfl⟩ ⟨Nat.le_refl _, Nat.le_refl _⟩ rfl (Nat.le_of_ble_eq_true rfl) zm_3_142 rfl dX5_readOrder_13 rfl ?_
  refine zr_cS X (As := [.int (oSign tx (v 0) (v 1))]) (rest := []) (f' := oW w cy f (upd v 2 (v 1)) nu) (st' := [.int (oParts (oSign tx (v 0) (v 1)))]) zc_X5_partsOf k_partsOf ⟨Nat.le_of_ble_eq_true rfl, Nat.le_of_ble_eq_true rfl⟩ ⟨Nat.le_refl _, Nat.le_refl _⟩ rfl (Nat.le_of_ble_eq_true rfl) zm_3_146 rfl dX5_readOrder_16 rfl ?_
  refine zr_istore_n X (ls' := [(1, .int (oParts (oSign tx (v 0) (v 1)))), (0, .ref (w.2 (129)))]) dX5_readOrder_19 rfl (by decide) rfl ?_
  obtain ⟨P0, hP0, eP0⟩ := oParts_n (oSign tx (v 0) (v 1))
  refine zr_iload_n X 0 dX5_readOrder_20 rfl rfl ?_
  refine zr_if_ne X (tgt := 26) dX5_readOrder_21 (by decide) (fun h1 => ?_) (fun h2 => ?_)
  · refine zr_aload_n X 1 dX5_readOrder_26 rfl rfl ?_
    refine zr_dup X dX5_readOrder_27 rfl ?_
    refine zr_get X zfd_RX5_37 (129) (show 129 < w.1 by rw [hw]; decide) oW_129 (v := .int (v 1)) rfl dX5_readOrder_28 ?_
    refine zr_iconst X (v := 1) dX5_readOrder_31 (by decide) ?_
    refine zr_iadd X dX5_readOrder_32 ?_
    refine zr_put X zfd_RX5_37 zty_5_4 (129) (show 129 < w.1 by rw [hw]; decide) oW_129 rfl rfl (Nat.le_of_ble_eq_true rfl) (eOrd_set _ _ _ 2 (by decide)) dX5_readOrder_33 ?_
    refine zcw (f2 := oW w cy f (upd (upd v 2 (v 1)) 2 ((v 1) + 1)) nu) ou_129 ?_
    refine zr_iconst X (v := 0) dX5_readOrder_36 (by decide) ?_
    refine zr_istore_n X (ls' := [(2, .int (0)), (1, .int (oParts (oSign tx (v 0) (v 1)))), (0, .ref (w.2 (129)))]) dX5_readOrder_37 rfl (by decide) rfl ?_
    refine zr_loc X (ls' := [(0, .ref (w.2 (129))), (1, .int (oParts (oSign tx (v 0) (v 1)))), (2, .int (0))]) [2, 1, 0] rfl ?_
    refine zcast (f2 := oW w cy f (upd v 2 (v 1 + 1)) nu) (ls2 := [(0, .ref (w.2 (129))), (1, .int (oParts (oSign tx (v 0) (v 1)))), (2, .int (0))]) (by rw [upd_upd]) rfl ?_
    refine zdown (P := fun n => ∀ (p : Int32) (nv : Nat → Int32), oOrd tx (v 0) (oParts (oSign tx (v 0) (v 1))) (P0 - (n)) (n) p nv = oOrd tx (v 0) (oParts (oSign tx (v 0) (v 1))) P0 0 (v 1 + 1) nu → G (w, 0, 0) (oW w cy f (upd v 2 p) nv) [(0, .ref (w.2 (129))), (1, .int (oParts (oSign tx (v 0) (v 1)))), (2, .int (nI (n)))] 38 []) (B := P0) ?_ (fun n hn38 ih38 => ?_) 0 (Nat.zero_le _) _ _ rfl
    · show ∀ (p : Int32) (nv : Nat → Int32), oOrd tx (v 0) (oParts (oSign tx (v 0) (v 1))) (P0 - (P0)) (P0) p nv = oOrd tx (v 0) (oParts (oSign tx (v 0) (v 1))) P0 0 (v 1 + 1) nu → G (w, 0, 0) (oW w cy f (upd v 2 p) nv) [(0, .ref (w.2 (129))), (1, .int (oParts (oSign tx (v 0) (v 1)))), (2, .int (nI (P0)))] 38 []
      intro p nv q
      rw [Nat.sub_self] at q
      refine zr_iload_n X 2 dX5_readOrder_38 rfl rfl ?_
      refine zr_iload_n X 1 dX5_readOrder_39 rfl rfl ?_
      refine zr_icmp_ge X (tgt := 94) dX5_readOrder_40 (by decide) (fun _ => ?_) (fun h => False.elim (h (zle_eq eP0)))
      refine zr_iconst X (v := 1) dX5_readOrder_94 (by decide) ?_
      exact zret_z E rfl (Or.inr rfl) dX5_readOrder_95 (by simp only [oRead, if_neg h1]; rw [eP0, nI_clamp (by omega), ← eP0, ← q]; simp only [oRead, if_neg h1, oOrd]) (by simp only [oRead, if_neg h1]; rw [eP0, nI_clamp (by omega), ← eP0, ← q]; simp only [oRead, if_neg h1, oOrd, upd_upd])
    · show ∀ (p : Int32) (nv : Nat → Int32), oOrd tx (v 0) (oParts (oSign tx (v 0) (v 1))) (P0 - (n)) (n) p nv = oOrd tx (v 0) (oParts (oSign tx (v 0) (v 1))) P0 0 (v 1 + 1) nu → G (w, 0, 0) (oW w cy f (upd v 2 p) nv) [(0, .ref (w.2 (129))), (1, .int (oParts (oSign tx (v 0) (v 1)))), (2, .int (nI (n)))] 38 []
      intro p nv q
      rw [show P0 - n = (P0 - (n + 1)) + 1 by omega] at q
      refine zr_iload_n X 2 dX5_readOrder_38 rfl rfl ?_
      refine zr_iload_n X 1 dX5_readOrder_39 rfl rfl ?_
      refine zr_icmp_ge X (tgt := 94) dX5_readOrder_40 (by decide) (fun h => False.elim (nI_ge hn38 (by omega) (by rw [← eP0]; exact h))) (fun _ => ?_)
      refine zr_aload_n X 0 dX5_readOrder_43 rfl rfl ?_
      refine zr_iload_n X 2 dX5_readOrder_44 rfl rfl ?_
      refine zr_cV X (As := [.int (nI (n))]) (rest := []) (f' := oW w cy f (upd (upd v 2 p) 2 ((oRd tx (v 0) p).2.1)) (upd nv n (oRd tx (v 0) p).1)) (st' := [.int (oDig (oRd tx (v 0) p).2.2)]) zc_X5_readNumber (129) (show 129 < w.1 by rw [hw]; decide) oW_129 (q9 := _) rfl rfl (k_readNumber hw htx (show n < 3 by omega)) ⟨Nat.le_of_ble_eq_true rfl, Nat.le_of_ble_eq_true rfl⟩ ⟨Nat.le_refl _, Nat.le_refl _⟩ rfl (Nat.le_of_ble_eq_true rfl) zm_3_149 rfl dX5_readOrder_45 rfl ?_
      refine zr_if_eq X (tgt := 76) dX5_readOrder_48 (by decide) (fun h3 => ?_) (fun h4 => ?_)
      · refine zr_iconst X (v := 0) dX5_readOrder_76 (by decide) ?_
        exact zret_z E rfl (Or.inl rfl) dX5_readOrder_77 (by simp only [oRead, if_neg h1, if_pos h3]; rw [eP0, nI_clamp (by omega), ← eP0, ← q]; simp only [oRead, if_neg h1, if_pos h3, oOrd]) (by simp only [oRead, if_neg h1, if_pos h3]; rw [eP0, nI_clamp (by omega), ← eP0, ← q]; simp only [oRead, if_neg h1, if_pos h3, oOrd, upd_upd])
      · refine zr_aload_n X 0 dX5_readOrder_51 rfl rfl ?_
        refine zr_aload_n X 0 dX5_readOrder_52 rfl rfl ?_
        refine zr_get X zfd_RX5_37 (129) (show 129 < w.1 by rw [hw]; decide) oW_129 (v := .int ((oRd tx (v 0) p).2.1)) rfl dX5_readOrder_53 ?_
        refine zr_cV X (As := [.int ((oRd tx (v 0) p).2.1)]) (rest := []) (f' := oW w cy f (upd (upd v 2 p) 2 ((oRd tx (v 0) p).2.1)) (upd nv n (oRd tx (v 0) p).1)) (st' := [.int (oSign tx (v 0) ((oRd tx (v 0) p).2.1))]) zc_X5_signAt (129) (show 129 < w.1 by rw [hw]; decide) oW_129 (q9 := _) rfl rfl (k_signAt hw htx) ⟨Nat.le_of_ble_eq_true rfl, Nat.le_of_ble_eq_true rfl⟩ ⟨Nat.le_refl _, Nat.le_refl _⟩ rfl (Nat.le_of_ble_eq_true rfl) zm_3_142 rfl dX5_readOrder_56 rfl ?_
        have J73 : G (w, 0, 0) (oW w cy f (upd v 2 ((oRd tx (v 0) p).2.1)) (upd nv n (oRd tx (v 0) p).1)) [(0, .ref (w.2 (129))), (1, .int (oParts (oSign tx (v 0) (v 1)))), (2, .int (nI (n)))] 73 [.int (oSep (oParts (oSign tx (v 0) (v 1))) n), .int (oSign tx (v 0) (oRd tx (v 0) p).2.1)] := by
          refine zr_icmp_eq X (tgt := 78) dX5_readOrder_73 (by decide) (fun h5 => ?_) (fun h6 => ?_)
          · refine zr_aload_n X 0 dX5_readOrder_78 rfl rfl ?_
            refine zr_dup X dX5_readOrder_79 rfl ?_
            refine zr_get X zfd_RX5_37 (129) (show 129 < w.1 by rw [hw]; decide) oW_129 (v := .int ((oRd tx (v 0) p).2.1)) rfl dX5_readOrder_80 ?_
            refine zr_iconst X (v := 1) dX5_readOrder_83 (by decide) ?_
            refine zr_iadd X dX5_readOrder_84 ?_
            refine zr_put X zfd_RX5_37 zty_5_4 (129) (show 129 < w.1 by rw [hw]; decide) oW_129 rfl rfl (Nat.le_of_ble_eq_true rfl) (eOrd_set _ _ _ 2 (by decide)) dX5_readOrder_85 ?_
            refine zcw (f2 := oW w cy f (upd (upd v 2 ((oRd tx (v 0) p).2.1)) 2 (((oRd tx (v 0) p).2.1) + 1)) (upd nv n (oRd tx (v 0) p).1)) ou_129 ?_
            refine zr_iinc X (v := nI (n + 1)) (ls' := [(2, .int (nI (n + 1))), (0, .ref (w.2 (129))), (1, .int (oParts (oSign tx (v 0) (v 1))))]) 2 dX5_readOrder_88 rfl (zinc1 _) (by decide) rfl ?_
            refine zr_goto X (tgt := 38) dX5_readOrder_91 (by decide) ?_
            refine zr_loc X (ls' := [(0, .ref (w.2 (129))), (1, .int (oParts (oSign tx (v 0) (v 1)))), (2, .int (nI (n + 1)))]) [1, 2, 0] rfl ?_
            exact zcast (f2 := oW w cy f (upd v 2 (((oRd tx (v 0) p).2.1) + 1)) (upd nv n (oRd tx (v 0) p).1)) (ls2 := [(0, .ref (w.2 (129))), (1, .int (oParts (oSign tx (v 0) (v 1)))), (2, .int (nI (n + 1)))]) (by simp only [upd_upd]) rfl (ih38 _ _ (by rw [← q]; simp only [oRead, if_neg h1, if_neg h4, if_pos h5, oOrd]))
          · refine zr_iconst X (v := 0) dX5_readOrder_76 (by decide) ?_
            exact zret_z E rfl (Or.inl rfl) dX5_readOrder_77 (by simp only [oRead, if_neg h1, if_neg h4, if_neg h6]; rw [eP0, nI_clamp (by omega), ← eP0, ← q]; simp only [oRead, if_neg h1, if_neg h4, if_neg h6, oOrd]) (by simp only [oRead, if_neg h1, if_neg h4, if_neg h6]; rw [eP0, nI_clamp (by omega), ← eP0, ← q]; simp only [oRead, if_neg h1, if_neg h4, if_neg h6, oOrd, upd_upd])
        refine zr_iload_n X 2 dX5_readOrder_59 rfl rfl ?_
        refine zr_iload_n X 1 dX5_readOrder_60 rfl rfl ?_
        refine zr_iconst X (v := 1) dX5_readOrder_61 (by decide) ?_
        refine zr_isub X dX5_readOrder_62 ?_
        refine zr_icmp_ne X (tgt := 71) dX5_readOrder_63 (by decide) (fun h7 => ?_) (fun h8 => ?_)
        · refine zr_bipush X (v := 44) dX5_readOrder_71 (by decide) ?_
          exact zjoin (by simp only [upd_upd]) rfl (by simp only [oRead, if_neg h1, if_neg h4, if_neg h7, oSep]) J73
        · refine zr_bipush X (v := 59) dX5_readOrder_66 (by decide) ?_
          refine zr_goto X (tgt := 73) dX5_readOrder_68 (by decide) ?_
          exact zjoin (by simp only [upd_upd]) rfl (by simp only [oRead, if_neg h1, if_neg h4, if_pos h8, oSep]) J73
  · refine zr_iconst X (v := 0) dX5_readOrder_24 (by decide) ?_
    exact zret_z E rfl (Or.inl rfl) dX5_readOrder_25 (by simp only [oRead, if_pos h2]) (by simp only [oRead, if_pos h2])
