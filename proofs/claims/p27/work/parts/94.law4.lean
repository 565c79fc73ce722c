/-! THE LAW'S acts -/
section ZSP
variable {l : Launch} {D : va_G} {cy : Nat → ClassId} {own : String} {cc : ByteArray} {nL : Nat} {R : Room} {nm : String} {G : zJ} {κ : zκ} {f : zF} {ls : List (Nat × Value)} {pc : Nat} {st : List Value}
theorem zr_cSp (X : zX l D cy own cc nL R nm G) {y : MethodName} {yc : ByteArray} {yL n index : Nat} {ret : Option FieldType} {fr lo : Nat} {As rest : List Value} {post : Option Value → zF → Prop} (hy : zCs y yc yL ret n) (hM : zSp l D cy y yc yL ret fr lo As κ.1 f post) (hr : fr + 1 ≤ R.frames ∧ 8 + (yL + 11) + lo ≤ R.locals) (hk : κ.2.1 ≤ R.cells ∧ κ.2.2 ≤ R.slots) (hn : As.length = n) (hW : (rest.map fun v => v.category).sum ≤ 8) (hlink : Cond.methodLink own index y ∈ zTb) (hst : st = As.reverse ++ rest) (d : decode cc pc = .ok (.invokestatic index, 3)) (k : ∀ (r : Option Value) (f' : zF), post r f' → G κ f' ls (pc + 3) (r.toList ++ rest)) : G κ f ls pc st := by
  obtain ⟨h1, h2, h3, h5⟩ := hy
  refine zr_callS X hM h5 h1 h2 ⟨hr.1, hr.2, hk⟩ hn hW hlink h3 hst d (fun r0 w' g hq => ?_)
  obtain ⟨rfl, hp⟩ := hq
  exact k r0 g hp
end ZSP
theorem and_nn (v : Int32) : 0 ≤ (v &&& 2147483647).toInt := by
  show 0 ≤ (v &&& 2147483647).toBitVec.toInt
  rw [Int32.toBitVec_and]
  rw [BitVec.toInt_eq_toNat_of_msb (by rw [BitVec.msb_and]; rw [show (2147483647 : Int32).toBitVec.msb = false by decide]; simp)]
  omega
theorem low_n {v : Int32} {n : Nat} (hn : 0 < n) (hn2 : n < 2147483648) : ∃ Y, Y < n ∧ lLow v (nI n) = nI Y := by
  have h := and_nn v
  have c0 := tk0
  have e := zix1 (x := v &&& 2147483647) (fun z => by have := tlt.mp z; omega)
  have b := tbd (v &&& 2147483647)
  have b2 : (v &&& 2147483647).toNatClampNeg < 2147483648 := by
    show (v &&& 2147483647).toInt.toNat < 2147483648
    omega
  unfold lLow
  revert e b2
  generalize (v &&& 2147483647).toNatClampNeg = Z
  intro e b2
  rw [e, nm_md b2 hn hn2]
  exact ⟨_, Nat.mod_lt Z hn, rfl⟩
theorem zw12 {A : Nat} (h1 : 1 ≤ A) (h2 : A < 1 + 12) : ¬ zwin (nI A) 1 12 = 0 := zw_in (lo := 1) (hi := 12) h1 (by omega) (by decide)
theorem zw60 {A : Nat} (h2 : A ≤ 60) : ¬ zwin (nI A) 0 60 = 0 := zw_in (lo := 0) (hi := 60) (Nat.zero_le _) h2 (by decide)
theorem zw160 {A : Nat} (h1 : 1 ≤ A) (h2 : A ≤ 60) : ¬ zwin (nI A) 1 60 = 0 := zw_in (lo := 1) (hi := 60) h1 h2 (by decide)
theorem zw500 {A : Nat} (h1 : 1 ≤ A) (h2 : A ≤ 500) : ¬ zwin (nI A) 1 500 = 0 := zw_in (lo := 1) (hi := 500) h1 h2 (by decide)
theorem gr_d1 {s : Nat → Int32} {bk A C N : Nat} (h1 : 1 ≤ A) (h2 : A < 1 + 12) (h3 : C ≤ 60) (h4 : 1 ≤ N) (h5 : N ≤ 9) (h : s 1 = 10) : dGroup s bk (nI A) (nI C) (nI N) = (-1000003, false, s) := by
  unfold dGroup
  rw [if_neg (zw12 h1 h2), if_neg (zw60 h3), if_neg (zw9 h4 h5), if_pos h]
theorem gr_d2 {s : Nat → Int32} {bk A C N : Nat} (h1 : 1 ≤ A) (h2 : A < 1 + 12) (h3 : C ≤ 60) (h4 : 1 ≤ N) (h5 : N ≤ 9) (h : ¬ s 1 = 10) : dGroup s bk (nI A) (nI C) (nI N) = ((dGr s bk (nI A) (nI C) (nI N)) 2 - 1, true, dGr s bk (nI A) (nI C) (nI N)) := by
  unfold dGroup
  rw [if_neg (zw12 h1 h2), if_neg (zw60 h3), if_neg (zw9 h4 h5), if_neg h]
theorem bcl {s : Nat → Int32} {m : Nat} (hm : s 1 = nI m) (hm4 : m ≤ 10) (c : ¬ s 1 = 10) : m < 10 := by
  rcases Nat.lt_or_ge m 10 with z | z
  · exact z
  · rw [show m = 10 by omega] at hm
    exact absurd hm c
theorem of_d0 {s : Nat → Int32} {bk : Nat} (hb : s 1 = nI bk) (hb10 : bk ≤ 10) (h : s 1 = 0) {x : Int32} : dOff s bk x = (-1000001, false, s) := by
  have e : bk = 0 := nI_inj4 (b := 0) (hb.symm.trans h) (by omega) (by decide)
  subst e
  rfl
theorem of_d1 {s : Nat → Int32} {bk q : Nat} {d : Int} (hq : q < bk) (hb10 : bk ≤ 10) (h : jL (gl s bk) d) : dOff s bk (s (55 + 6 * q)) = ((dGo s q (bk - 1)) 1, true, dGo s q (bk - 1)) := by
  have e := (dPl_num h hb10 (x := s (55 + 6 * q)) bk 0 (by omega)).1 q (Nat.zero_le _) hq rfl
  unfold dOff
  rw [e, if_pos (tle.mpr (by rw [tk0, tnI (by omega)]; omega)), nI_clamp (by omega)]
theorem of_d2 {s : Nat → Int32} {bk q : Nat} {d : Int} (hq : q < bk) (hb10 : bk ≤ 10) (h : jL (gl s bk) d) : dOff (dGo s q (bk - 1)) (bk - 1) (s (55 + 6 * q)) = (-1000001, false, dGo s q (bk - 1)) := by
  have h2 : jL (gl (dGo s q (bk - 1)) (bk - 1)) d := by
    rw [gl_go hq hb10]
    exact jL_sub h (List.eraseIdx_sublist _ _)
  have nn := (jl_num h).2
  have e := (dPl_num h2 (by omega) (x := s (55 + 6 * q)) (bk - 1) 0 (by omega)).2 (fun j _ hj z => by
    rw [dGo_at (by omega) hj (by decide)] at z
    by_cases c : q ≤ j
    · rw [if_pos c] at z
      have y := nn q (j + 1) (by omega) (by omega)
      rw [z] at y
      exact Int.lt_irrefl _ y
    · rw [if_neg c] at z
      have y := nn j q (by omega) hq
      rw [z] at y
      exact Int.lt_irrefl _ y)
  unfold dOff
  rw [e, if_neg (by decide)]
theorem mo_n {s : Nat → Int32} {v : Int32} (h5 : 0 ≤ (s 5).toInt) (h6 : 0 ≤ (s 6).toInt) (h65 : (s 6).toInt ≤ 500) (hv : v.toInt = min (s 5).toInt (s 6).toInt) : ∃ M, v = nI M ∧ (M : Int) = min (s 5).toInt (s 6).toInt ∧ M ≤ 500 := by
  have c0 := tk0
  refine ⟨v.toNatClampNeg, zix1 (fun z => by have := tlt.mp z; omega), ?_, ?_⟩
  · show ((v.toInt.toNat : Nat) : Int) = _
    omega
  · show v.toInt.toNat ≤ 500
    omega
theorem pa_d1 {s : Nat → Int32} {M N : Nat} (h1 : 1 ≤ N) (h2 : N ≤ 500) (hM : (M : Int) = min (s 5).toInt (s 6).toInt) (hM5 : M ≤ 500) (c : ¬ nI N ≤ nI M) : dPay s (nI N) = (-1000002, false, s) := by
  have c' : ¬ (nI N).toInt ≤ (nI M).toInt := fun z => c (tle.mpr z)
  have t1 := tnI (n := N) (by omega)
  have t2 := tnI (n := M) (by omega)
  unfold dPay
  rw [if_neg (zw500 h1 h2)]
  by_cases q : s 5 < nI N
  · rw [if_pos q]
  · rw [if_neg q]
    have q' : ¬ (s 5).toInt < (nI N).toInt := fun z => q (tlt.mpr z)
    rw [if_neg (fun z => by have := tle.mp z; omega)]
theorem pa_d2 {s : Nat → Int32} {M N : Nat} (h1 : 1 ≤ N) (h2 : N ≤ 500) (hM : (M : Int) = min (s 5).toInt (s 6).toInt) (hM5 : M ≤ 500) (c : nI N ≤ nI M) : dPay s (nI N) = ((dPy s (nI N)) 6, true, dPy s (nI N)) := by
  have c' := tle.mp c
  have t1 := tnI (n := N) (by omega)
  have t2 := tnI (n := M) (by omega)
  unfold dPay
  rw [if_neg (zw500 h1 h2), if_neg (fun z => by have := tlt.mp z; omega), if_pos (tle.mpr (by omega))]
theorem pa_le {s : Nat → Int32} {M N : Nat} (h2 : N ≤ 500) (hM : (M : Int) = min (s 5).toInt (s 6).toInt) (hM5 : M ≤ 500) (c : nI N ≤ nI M) : 0 ≤ (nI N).toInt ∧ (nI N).toInt ≤ (s 5).toInt := by
  have c' := tle.mp c
  have t1 := tnI (n := N) (by omega)
  have t2 := tnI (n := M) (by omega)
  omega
theorem en_d1 {s : Nat → Int32} {A : Nat} (h1 : 1 ≤ A) (h2 : A ≤ 60) (c : ¬ s 3 + nI A ≤ 9999) : lEnd s (nI A) = (-1000003, false, s) := by
  unfold lEnd
  rw [if_neg (zw160 h1 h2), if_neg c]
theorem en_d2 {s : Nat → Int32} {A : Nat} (h1 : 1 ≤ A) (h2 : A ≤ 60) (c : s 3 + nI A ≤ 9999) : lEnd s (nI A) = ((lDays s A) 8 - s 8, true, lDays s A) := by
  unfold lEnd
  rw [if_neg (zw160 h1 h2), if_pos c, nI_clamp (by omega)]
theorem st_d {s : Nat → Int32} {q V : Nat} (hq : q < 4) (h : ¬ dMay (nI q) (nI V) = 0) : dSet s (nI q) (nI V) = (s (15 + q), true, upd s (15 + q) (nI V)) := by
  unfold dSet
  rw [if_neg (show ¬ zwin (nI q) 0 3 = 0 from zw_in (lo := 0) (hi := 3) (Nat.zero_le _) (by omega) (by decide)), if_neg h, nI_clamp (by omega)]
theorem ma_0 {q V : Nat} (c : nI q = 0) (h1 : 1 ≤ V) (h2 : V < 1 + 9) : ¬ dMay (nI q) (nI V) = 0 := by
  unfold dMay
  rw [if_pos c]
  exact zw9 h1 (by omega)
theorem ma_1 {q V : Nat} (c : nI q = 1) (h1 : 10 ≤ V) (h2 : V < 10 + 491) : ¬ dMay (nI q) (nI V) = 0 := by
  unfold dMay
  rw [if_neg (by rw [c]; decide), if_pos c]
  exact zw_in (lo := 10) (hi := 500) h1 (by omega) (by decide)
theorem ma_2 {q V : Nat} (c : nI q = 2) (h2 : V < 16) : ¬ dMay (nI q) (nI V) = 0 := by
  unfold dMay
  rw [if_neg (by rw [c]; decide), if_neg (by rw [c]; decide), if_pos c]
  exact zw_in (lo := 0) (hi := 15) (Nat.zero_le _) (by omega) (by decide)
theorem ma_3 {q V : Nat} (c0 : ¬ nI q = 0) (c1 : ¬ nI q = 1) (c2 : ¬ nI q = 2) (h2 : V < 91) : ¬ dMay (nI q) (nI V) = 0 := by
  unfold dMay
  rw [if_neg c0, if_neg c1, if_neg c2]
  exact zw_in (lo := 0) (hi := 90) (Nat.zero_le _) (by omega) (by decide)
theorem aend_le {w : zW} {cy : Nat → ClassId} {B B' : Int} {r : Option Value} {g : zF} (h : Aend w cy B r g) (hB : B ≤ B') : Aend w cy B' r g := by
  obtain ⟨a, s', b, c⟩ := h
  exact ⟨a, s', LX_mono b hB, c⟩
theorem nm_q4 {Y : Nat} (hY : Y < 2147483648) : ∃ q, q < 4 ∧ nI Y - nI Y / 4 * 4 = nI q := ⟨Y % 4, Nat.mod_lt Y (by decide), nm_md (n := 4) hY (by decide) (by decide)⟩
theorem dPy_lo {s : Nat → Int32} {m : Int32} {i : Nat} (a : i ≠ 5) (b : i ≠ 6) (c : i ≠ 14) : dPy s m i = s i := (upd_ne c).trans ((upd_ne b).trans (upd_ne a))
theorem nz_pos {M : Nat} (h : ¬ nI M = 0) : 0 < M := by
  rcases Nat.eq_zero_or_pos M with y | y
  · rw [y] at h
    exact absurd rfl h
  · exact y
set_option maxHeartbeats 8000000 in
set_option maxRecDepth 100000 in
theorem kl_acts {l : Launch} {D : va_G} {cy : Nat → ClassId} {w : zW} {f : zF} {s : Nat → Int32} {B : Int} {z : Int32} (hw : w.1 = 136) (hL : LX w cy f B s) (hB : B ≤ 1000000) : zSp l D cy yL_acts cL_acts 12 (some .boolean) 6 138 [.ref (w.2 (0)), .ref (w.2 (132)), .ref (w.2 (133)), .ref (w.2 (134)), .ref (w.2 (135)), .int (z)] w (lW cy f s) (Aend w cy (B + 120)) := by
  refine zSp.intro (by decide) (Nat.le_of_ble_eq_true rfl) (fun G X E => ?_)
  obtain ⟨gs, mc, bk, fr, kn⟩ := LX_kn hL
  obtain ⟨r, o, v, jn, e17, hfr⟩ := id kn
  have hX := hL.1
  have hm := r.s0.1
  have hm4 := r.s0.2
  have hb := r.s1.1
  have hb10 := r.s1.2
  have hM := v.1
  show G (w, 0, 0) (lW cy f s) [(0, .ref (w.2 (0))), (1, .ref (w.2 (132))), (2, .ref (w.2 (133))), (3, .ref (w.2 (134))), (4, .ref (w.2 (135))), (5, .int (z))] 0 []
  refine zr_iload X 5 dL_acts_0 rfl ?_
  refine zr_iconst X (v := 5) dL_acts_2 (by decide) ?_
  refine zr_ishr X dL_acts_3 ?_
  refine zr_ldc X zm_2_66 dL_acts_4 ?_
  refine zr_cS X (As := [.int (z >>> (5 &&& 31)), .int (10000000)]) (rest := []) (f' := lW cy f s) (st' := [.int (lLow (z >>> (5 &&& 31)) 10000000)]) zc_L_low (kl_low (by decide)) ⟨Nat.le_of_ble_eq_true rfl, Nat.le_of_ble_eq_true rfl⟩ ⟨Nat.le_refl _, Nat.le_refl _⟩ rfl (Nat.le_of_ble_eq_true rfl) zm_2_59 rfl dL_acts_6 rfl ?_
  refine zr_istore X (ls' := [(6, .int (lLow (z >>> (5 &&& 31)) 10000000)), (0, .ref (w.2 (0))), (1, .ref (w.2 (132))), (2, .ref (w.2 (133))), (3, .ref (w.2 (134))), (4, .ref (w.2 (135))), (5, .int (z))]) dL_acts_9 (by decide) rfl ?_
  obtain ⟨Y, hY, eY⟩ := low_n (v := z >>> (5 &&& 31)) (n := 10000000) (by decide) (by decide)
  rw [show lLow (z >>> (5 &&& 31)) 10000000 = nI Y from eY]
  show G (w, 0, 0) (lW cy f s) [(6, .int (nI Y)), (0, .ref (w.2 (0))), (1, .ref (w.2 (132))), (2, .ref (w.2 (133))), (3, .ref (w.2 (134))), (4, .ref (w.2 (135))), (5, .int (z))] 11 []
  refine zr_iload X 6 dL_acts_11 rfl ?_
  refine zr_bipush X (v := 32) dL_acts_13 (by decide) ?_
  refine zr_cS X (As := [.int (z), .int (32)]) (rest := []) (f' := lW cy f s) (st' := [.int (lLow z 32)]) zc_L_low (kl_low (by decide)) ⟨Nat.le_of_ble_eq_true rfl, Nat.le_of_ble_eq_true rfl⟩ ⟨Nat.le_refl _, Nat.le_refl _⟩ rfl (Nat.le_of_ble_eq_true rfl) zm_2_59 rfl dL_acts_15 rfl ?_
  refine zr_istore X (ls' := [(7, .int (lLow z 32)), (6, .int (nI Y)), (0, .ref (w.2 (0))), (1, .ref (w.2 (132))), (2, .ref (w.2 (133))), (3, .ref (w.2 (134))), (4, .ref (w.2 (135))), (5, .int (z))]) dL_acts_18 (by decide) rfl ?_
  obtain ⟨W, hW, eW⟩ := low_n (v := z) (n := 32) (by decide) (by decide)
  rw [show lLow z 32 = nI W from eW]
  show G (w, 0, 0) (lW cy f s) [(7, .int (nI W)), (6, .int (nI Y)), (0, .ref (w.2 (0))), (1, .ref (w.2 (132))), (2, .ref (w.2 (133))), (3, .ref (w.2 (134))), (4, .ref (w.2 (135))), (5, .int (z))] 20 []
  refine zr_iload X 0 dL_acts_20 rfl ?_
  refine zr_bipush X (v := 12) dL_acts_22 (by decide) ?_
  refine zr_icmp_ge X (tgt := 38) dL_acts_24 (by decide) (fun h1 => ?_) (fun h2 => ?_)
  · refine zr_iload X 0 dL_acts_38 rfl ?_
    refine zr_bipush X (v := 18) dL_acts_40 (by decide) ?_
    refine zr_icmp_ge X (tgt := 212) dL_acts_42 (by decide) (fun h3 => ?_) (fun h4 => ?_)
    · refine zr_iload X 0 dL_acts_212 rfl ?_
      refine zr_bipush X (v := 18) dL_acts_214 (by decide) ?_
      refine zr_icmp_ne X (tgt := 294) dL_acts_216 (by decide) (fun h5 => ?_) (fun h6 => ?_)
      · refine zr_iload X 0 dL_acts_294 rfl ?_
        refine zr_bipush X (v := 21) dL_acts_296 (by decide) ?_
        refine zr_icmp_ge X (tgt := 438) dL_acts_298 (by decide) (fun h7 => ?_) (fun h8 => ?_)
        · refine zr_iload X 0 dL_acts_438 rfl ?_
          refine zr_bipush X (v := 30) dL_acts_440 (by decide) ?_
          refine zr_icmp_ge X (tgt := 546) dL_acts_442 (by decide) (fun h9 => ?_) (fun h10 => ?_)
          · refine zr_iload X 1 dL_acts_546 rfl ?_
            refine zr_iconst X (v := 4) dL_acts_548 (by decide) ?_
            refine zr_irem X dL_acts_549 (by decide) ?_
            refine zr_istore X (ls' := [(8, .int ((nI Y) - (nI Y) / 4 * 4)), (7, .int (nI W)), (6, .int (nI Y)), (0, .ref (w.2 (0))), (1, .ref (w.2 (132))), (2, .ref (w.2 (133))), (3, .ref (w.2 (134))), (4, .ref (w.2 (135))), (5, .int (z))]) dL_acts_550 (by decide) rfl ?_
            obtain ⟨q, hq, eq9⟩ := nm_q4 (Y := Y) (by omega)
            rw [eq9]
            show G (w, 0, 0) (lW cy f s) [(8, .int (nI q)), (7, .int (nI W)), (6, .int (nI Y)), (0, .ref (w.2 (0))), (1, .ref (w.2 (132))), (2, .ref (w.2 (133))), (3, .ref (w.2 (134))), (4, .ref (w.2 (135))), (5, .int (z))] 552 []
            refine zr_aload_n X 4 dL_acts_552 rfl rfl ?_
            refine zr_bipush X (v := 15) dL_acts_553 (by decide) ?_
            refine zr_iload X 0 dL_acts_555 rfl ?_
            refine zr_iadd X dL_acts_557 ?_
            refine zr_lld X hw lr_g (15 + q) (15 + q) (nI_add 15 _) (by omega) (by omega) dL_acts_558 ?_
            refine zr_istore X (ls' := [(9, .int (s (15 + q))), (8, .int (nI q)), (7, .int (nI W)), (6, .int (nI Y)), (0, .ref (w.2 (0))), (1, .ref (w.2 (132))), (2, .ref (w.2 (133))), (3, .ref (w.2 (134))), (4, .ref (w.2 (135))), (5, .int (z))]) dL_acts_559 (by decide) rfl ?_
            refine zr_aload_n X 5 dL_acts_561 rfl rfl ?_
            refine zr_bipush X (v := 15) dL_acts_562 (by decide) ?_
            refine zr_iload X 1 dL_acts_564 rfl ?_
            refine zr_iadd X dL_acts_566 ?_
            refine zr_iload X 1 dL_acts_567 rfl ?_
            refine zr_if_ne X (tgt := 584) dL_acts_569 (by decide) (fun h11 => ?_) (fun h12 => ?_)
            · refine zr_iload X 1 dL_acts_584 rfl ?_
              refine zr_iconst X (v := 1) dL_acts_586 (by decide) ?_
              refine zr_icmp_ne X (tgt := 604) dL_acts_587 (by decide) (fun h13 => ?_) (fun h14 => ?_)
              · refine zr_iload X 1 dL_acts_604 rfl ?_
                refine zr_iconst X (v := 2) dL_acts_606 (by decide) ?_
                refine zr_icmp_ne X (tgt := 620) dL_acts_607 (by decide) (fun h15 => ?_) (fun h16 => ?_)
                · refine zr_iload X 3 dL_acts_620 rfl ?_
                  refine zr_iconst X (v := 4) dL_acts_622 (by decide) ?_
                  refine zr_idiv X dL_acts_623 (by decide) ?_
                  refine zr_bipush X (v := 91) dL_acts_624 (by decide) ?_
                  refine zr_irem X dL_acts_626 (by decide) ?_
                  obtain ⟨V, hV2, eV⟩ := nm_3 (Y := Y) (d := 4) (n := 91) (by omega) (by decide) (by decide) (by decide) (by decide)
                  rw [show nI Y / 4 - nI Y / 4 / 91 * 91 = nI V from eV]
                  have hMay := ma_3 h11 h13 h15 hV2
                  show G (w, 0, 0) (lW cy f s) [(9, .int (s (15 + q))), (8, .int (nI q)), (7, .int (nI W)), (6, .int (nI Y)), (0, .ref (w.2 (0))), (1, .ref (w.2 (132))), (2, .ref (w.2 (133))), (3, .ref (w.2 (134))), (4, .ref (w.2 (135))), (5, .int (z))] 627 [.int (nI V), .int (15 + (nI q)), .ref (w.2 (132))]
                  refine zr_lst X hw lr_g (15 + q) (15 + q) (nI_add 15 _) (by omega) (by omega) dL_acts_627 ?_
                  refine zr_aload_n X 4 dL_acts_628 rfl rfl ?_
                  refine zr_iload X 1 dL_acts_629 rfl ?_
                  refine zr_aload_n X 5 dL_acts_631 rfl rfl ?_
                  refine zr_bipush X (v := 15) dL_acts_632 (by decide) ?_
                  refine zr_iload X 1 dL_acts_634 rfl ?_
                  refine zr_iadd X dL_acts_636 ?_
                  refine zr_lld X hw lr_g (15 + q) (15 + q) (nI_add 15 _) (by omega) (by omega) dL_acts_637 ?_
                  rw [show (upd s (15 + q) (nI V)) (15 + q) = nI V from upd_eq]
                  show G (w, 0, 0) (lW cy f (upd s (15 + q) (nI V))) [(9, .int (s (15 + q))), (8, .int (nI q)), (7, .int (nI W)), (6, .int (nI Y)), (0, .ref (w.2 (0))), (1, .ref (w.2 (132))), (2, .ref (w.2 (133))), (3, .ref (w.2 (134))), (4, .ref (w.2 (135))), (5, .int (z))] 638 [.int (nI V), .int (nI q), .ref (w.2 (0))]
                  refine zr_cVp X (As := [.int (nI q), .int (nI V)]) (rest := []) zc_X8_set (0) (show 0 < w.1 by rw [hw]; decide) ((lW_lo (by decide)).trans (CX_0 hX)) (q9 := _) rfl rfl (zSp.d (ca_set  hw (CX_lW hX) (by omega)) (st_d hq hMay)) ⟨Nat.le_of_ble_eq_true rfl, Nat.le_of_ble_eq_true rfl⟩ ⟨Nat.le_refl _, Nat.le_refl _⟩ rfl (Nat.le_of_ble_eq_true rfl) zm_3_24 rfl dL_acts_638 (fun r9_1 g9_1 hp1 => ?_)
                  obtain ⟨rfl, hQ1, hF1⟩ := hp1
                  have hX1 : CX w cy g9_1 (B + 60) (upd s (15 + q) (nI V)) := hQ1
                  refine zcw (f2 := lW cy g9_1 (upd s (15 + q) (nI V))) (lW_back hF1) ?_
                  show G (w, 0, 0) (lW cy g9_1 (upd s (15 + q) (nI V))) [(9, .int (s (15 + q))), (8, .int (nI q)), (7, .int (nI W)), (6, .int (nI Y)), (0, .ref (w.2 (0))), (1, .ref (w.2 (132))), (2, .ref (w.2 (133))), (3, .ref (w.2 (134))), (4, .ref (w.2 (135))), (5, .int (z))] 641 [.int (s (15 + q))]
                  refine zr_iload X 0 dL_acts_641 rfl ?_
                  refine zr_icmp_ne X (tgt := 650) dL_acts_643 (by decide) (fun h => False.elim (h rfl)) (fun _ => ?_)
                  refine zr_iconst X (v := 1) dL_acts_646 (by decide) ?_
                  refine zr_goto X (tgt := 651) dL_acts_647 (by decide) ?_
                  exact zretp_z E rfl (Or.inr rfl) dL_acts_651 (aend (LX_mono (Kn.lx (B := B + 60) hX1 ((upd_ne (by omega)).trans hm) hm4 ((upd_ne (by omega)).trans hb) hb10 (jn_set jn hq)) (by omega)))
                · refine zr_iload X 3 dL_acts_610 rfl ?_
                  refine zr_iconst X (v := 4) dL_acts_612 (by decide) ?_
                  refine zr_idiv X dL_acts_613 (by decide) ?_
                  refine zr_bipush X (v := 16) dL_acts_614 (by decide) ?_
                  refine zr_irem X dL_acts_616 (by decide) ?_
                  refine zr_goto X (tgt := 627) dL_acts_617 (by decide) ?_
                  obtain ⟨V, hV2, eV⟩ := nm_3 (Y := Y) (d := 4) (n := 16) (by omega) (by decide) (by decide) (by decide) (by decide)
                  rw [show nI Y / 4 - nI Y / 4 / 16 * 16 = nI V from eV]
                  have hMay := ma_2 h16 hV2
                  show G (w, 0, 0) (lW cy f s) [(9, .int (s (15 + q))), (8, .int (nI q)), (7, .int (nI W)), (6, .int (nI Y)), (0, .ref (w.2 (0))), (1, .ref (w.2 (132))), (2, .ref (w.2 (133))), (3, .ref (w.2 (134))), (4, .ref (w.2 (135))), (5, .int (z))] 627 [.int (nI V), .int (15 + (nI q)), .ref (w.2 (132))]
                  refine zr_lst X hw lr_g (15 + q) (15 + q) (nI_add 15 _) (by omega) (by omega) dL_acts_627 ?_
                  refine zr_aload_n X 4 dL_acts_628 rfl rfl ?_
                  refine zr_iload X 1 dL_acts_629 rfl ?_
                  refine zr_aload_n X 5 dL_acts_631 rfl rfl ?_
                  refine zr_bipush X (v := 15) dL_acts_632 (by decide) ?_
                  refine zr_iload X 1 dL_acts_634 rfl ?_
                  refine zr_iadd X dL_acts_636 ?_
                  refine zr_lld X hw lr_g (15 + q) (15 + q) (nI_add 15 _) (by omega) (by omega) dL_acts_637 ?_
                  rw [show (upd s (15 + q) (nI V)) (15 + q) = nI V from upd_eq]
                  show G (w, 0, 0) (lW cy f (upd s (15 + q) (nI V))) [(9, .int (s (15 + q))), (8, .int (nI q)), (7, .int (nI W)), (6, .int (nI Y)), (0, .ref (w.2 (0))), (1, .ref (w.2 (132))), (2, .ref (w.2 (133))), (3, .ref (w.2 (134))), (4, .ref (w.2 (135))), (5, .int (z))] 638 [.int (nI V), .int (nI q), .ref (w.2 (0))]
                  refine zr_cVp X (As := [.int (nI q), .int (nI V)]) (rest := []) zc_X8_set (0) (show 0 < w.1 by rw [hw]; decide) ((lW_lo (by decide)).trans (CX_0 hX)) (q9 := _) rfl rfl (zSp.d (ca_set  hw (CX_lW hX) (by omega)) (st_d hq hMay)) ⟨Nat.le_of_ble_eq_true rfl, Nat.le_of_ble_eq_true rfl⟩ ⟨Nat.le_refl _, Nat.le_refl _⟩ rfl (Nat.le_of_ble_eq_true rfl) zm_3_24 rfl dL_acts_638 (fun r9_2 g9_2 hp2 => ?_)
                  obtain ⟨rfl, hQ2, hF2⟩ := hp2
                  have hX2 : CX w cy g9_2 (B + 60) (upd s (15 + q) (nI V)) := hQ2
                  refine zcw (f2 := lW cy g9_2 (upd s (15 + q) (nI V))) (lW_back hF2) ?_
                  show G (w, 0, 0) (lW cy g9_2 (upd s (15 + q) (nI V))) [(9, .int (s (15 + q))), (8, .int (nI q)), (7, .int (nI W)), (6, .int (nI Y)), (0, .ref (w.2 (0))), (1, .ref (w.2 (132))), (2, .ref (w.2 (133))), (3, .ref (w.2 (134))), (4, .ref (w.2 (135))), (5, .int (z))] 641 [.int (s (15 + q))]
                  refine zr_iload X 0 dL_acts_641 rfl ?_
                  refine zr_icmp_ne X (tgt := 650) dL_acts_643 (by decide) (fun h => False.elim (h rfl)) (fun _ => ?_)
                  refine zr_iconst X (v := 1) dL_acts_646 (by decide) ?_
                  refine zr_goto X (tgt := 651) dL_acts_647 (by decide) ?_
                  exact zretp_z E rfl (Or.inr rfl) dL_acts_651 (aend (LX_mono (Kn.lx (B := B + 60) hX2 ((upd_ne (by omega)).trans hm) hm4 ((upd_ne (by omega)).trans hb) hb10 (jn_set jn hq)) (by omega)))
              · refine zr_bipush X (v := 10) dL_acts_590 (by decide) ?_
                refine zr_iload X 3 dL_acts_592 rfl ?_
                refine zr_iconst X (v := 4) dL_acts_594 (by decide) ?_
                refine zr_idiv X dL_acts_595 (by decide) ?_
                refine zr_sipush X (v := 491) dL_acts_596 (by decide) ?_
                refine zr_irem X dL_acts_599 (by decide) ?_
                refine zr_iadd X dL_acts_600 ?_
                refine zr_goto X (tgt := 627) dL_acts_601 (by decide) ?_
                obtain ⟨V, hV1, hV2, eV⟩ := nm_2 (Y := Y) (d := 4) (n := 491) (c := 10) (by omega) (by decide) (by decide) (by decide) (by decide)
                rw [show (10 : Int32) + (nI Y / 4 - nI Y / 4 / 491 * 491) = nI V from eV]
                have hMay := ma_1 h14 hV1 hV2
                show G (w, 0, 0) (lW cy f s) [(9, .int (s (15 + q))), (8, .int (nI q)), (7, .int (nI W)), (6, .int (nI Y)), (0, .ref (w.2 (0))), (1, .ref (w.2 (132))), (2, .ref (w.2 (133))), (3, .ref (w.2 (134))), (4, .ref (w.2 (135))), (5, .int (z))] 627 [.int (nI V), .int (15 + (nI q)), .ref (w.2 (132))]
                refine zr_lst X hw lr_g (15 + q) (15 + q) (nI_add 15 _) (by omega) (by omega) dL_acts_627 ?_
                refine zr_aload_n X 4 dL_acts_628 rfl rfl ?_
                refine zr_iload X 1 dL_acts_629 rfl ?_
                refine zr_aload_n X 5 dL_acts_631 rfl rfl ?_
                refine zr_bipush X (v := 15) dL_acts_632 (by decide) ?_
                refine zr_iload X 1 dL_acts_634 rfl ?_
                refine zr_iadd X dL_acts_636 ?_
                refine zr_lld X hw lr_g (15 + q) (15 + q) (nI_add 15 _) (by omega) (by omega) dL_acts_637 ?_
                rw [show (upd s (15 + q) (nI V)) (15 + q) = nI V from upd_eq]
                show G (w, 0, 0) (lW cy f (upd s (15 + q) (nI V))) [(9, .int (s (15 + q))), (8, .int (nI q)), (7, .int (nI W)), (6, .int (nI Y)), (0, .ref (w.2 (0))), (1, .ref (w.2 (132))), (2, .ref (w.2 (133))), (3, .ref (w.2 (134))), (4, .ref (w.2 (135))), (5, .int (z))] 638 [.int (nI V), .int (nI q), .ref (w.2 (0))]
                refine zr_cVp X (As := [.int (nI q), .int (nI V)]) (rest := []) zc_X8_set (0) (show 0 < w.1 by rw [hw]; decide) ((lW_lo (by decide)).trans (CX_0 hX)) (q9 := _) rfl rfl (zSp.d (ca_set  hw (CX_lW hX) (by omega)) (st_d hq hMay)) ⟨Nat.le_of_ble_eq_true rfl, Nat.le_of_ble_eq_true rfl⟩ ⟨Nat.le_refl _, Nat.le_refl _⟩ rfl (Nat.le_of_ble_eq_true rfl) zm_3_24 rfl dL_acts_638 (fun r9_3 g9_3 hp3 => ?_)
                obtain ⟨rfl, hQ3, hF3⟩ := hp3
                have hX3 : CX w cy g9_3 (B + 60) (upd s (15 + q) (nI V)) := hQ3
                refine zcw (f2 := lW cy g9_3 (upd s (15 + q) (nI V))) (lW_back hF3) ?_
                show G (w, 0, 0) (lW cy g9_3 (upd s (15 + q) (nI V))) [(9, .int (s (15 + q))), (8, .int (nI q)), (7, .int (nI W)), (6, .int (nI Y)), (0, .ref (w.2 (0))), (1, .ref (w.2 (132))), (2, .ref (w.2 (133))), (3, .ref (w.2 (134))), (4, .ref (w.2 (135))), (5, .int (z))] 641 [.int (s (15 + q))]
                refine zr_iload X 0 dL_acts_641 rfl ?_
                refine zr_icmp_ne X (tgt := 650) dL_acts_643 (by decide) (fun h => False.elim (h rfl)) (fun _ => ?_)
                refine zr_iconst X (v := 1) dL_acts_646 (by decide) ?_
                refine zr_goto X (tgt := 651) dL_acts_647 (by decide) ?_
                exact zretp_z E rfl (Or.inr rfl) dL_acts_651 (aend (LX_mono (Kn.lx (B := B + 60) hX3 ((upd_ne (by omega)).trans hm) hm4 ((upd_ne (by omega)).trans hb) hb10 (jn_set jn hq)) (by omega)))
            · refine zr_iconst X (v := 1) dL_acts_572 (by decide) ?_
              refine zr_iload X 3 dL_acts_573 rfl ?_
              refine zr_iconst X (v := 4) dL_acts_575 (by decide) ?_
              refine zr_idiv X dL_acts_576 (by decide) ?_
              refine zr_bipush X (v := 9) dL_acts_577 (by decide) ?_
              refine zr_irem X dL_acts_579 (by decide) ?_
              refine zr_iadd X dL_acts_580 ?_
              refine zr_goto X (tgt := 627) dL_acts_581 (by decide) ?_
              obtain ⟨V, hV1, hV2, eV⟩ := nm_2 (Y := Y) (d := 4) (n := 9) (c := 1) (by omega) (by decide) (by decide) (by decide) (by decide)
              rw [show (1 : Int32) + (nI Y / 4 - nI Y / 4 / 9 * 9) = nI V from eV]
              have hMay := ma_0 h12 hV1 hV2
              show G (w, 0, 0) (lW cy f s) [(9, .int (s (15 + q))), (8, .int (nI q)), (7, .int (nI W)), (6, .int (nI Y)), (0, .ref (w.2 (0))), (1, .ref (w.2 (132))), (2, .ref (w.2 (133))), (3, .ref (w.2 (134))), (4, .ref (w.2 (135))), (5, .int (z))] 627 [.int (nI V), .int (15 + (nI q)), .ref (w.2 (132))]
              refine zr_lst X hw lr_g (15 + q) (15 + q) (nI_add 15 _) (by omega) (by omega) dL_acts_627 ?_
              refine zr_aload_n X 4 dL_acts_628 rfl rfl ?_
              refine zr_iload X 1 dL_acts_629 rfl ?_
              refine zr_aload_n X 5 dL_acts_631 rfl rfl ?_
              refine zr_bipush X (v := 15) dL_acts_632 (by decide) ?_
              refine zr_iload X 1 dL_acts_634 rfl ?_
              refine zr_iadd X dL_acts_636 ?_
              refine zr_lld X hw lr_g (15 + q) (15 + q) (nI_add 15 _) (by omega) (by omega) dL_acts_637 ?_
              rw [show (upd s (15 + q) (nI V)) (15 + q) = nI V from upd_eq]
              show G (w, 0, 0) (lW cy f (upd s (15 + q) (nI V))) [(9, .int (s (15 + q))), (8, .int (nI q)), (7, .int (nI W)), (6, .int (nI Y)), (0, .ref (w.2 (0))), (1, .ref (w.2 (132))), (2, .ref (w.2 (133))), (3, .ref (w.2 (134))), (4, .ref (w.2 (135))), (5, .int (z))] 638 [.int (nI V), .int (nI q), .ref (w.2 (0))]
              refine zr_cVp X (As := [.int (nI q), .int (nI V)]) (rest := []) zc_X8_set (0) (show 0 < w.1 by rw [hw]; decide) ((lW_lo (by decide)).trans (CX_0 hX)) (q9 := _) rfl rfl (zSp.d (ca_set  hw (CX_lW hX) (by omega)) (st_d hq hMay)) ⟨Nat.le_of_ble_eq_true rfl, Nat.le_of_ble_eq_true rfl⟩ ⟨Nat.le_refl _, Nat.le_refl _⟩ rfl (Nat.le_of_ble_eq_true rfl) zm_3_24 rfl dL_acts_638 (fun r9_4 g9_4 hp4 => ?_)
              obtain ⟨rfl, hQ4, hF4⟩ := hp4
              have hX4 : CX w cy g9_4 (B + 60) (upd s (15 + q) (nI V)) := hQ4
              refine zcw (f2 := lW cy g9_4 (upd s (15 + q) (nI V))) (lW_back hF4) ?_
              show G (w, 0, 0) (lW cy g9_4 (upd s (15 + q) (nI V))) [(9, .int (s (15 + q))), (8, .int (nI q)), (7, .int (nI W)), (6, .int (nI Y)), (0, .ref (w.2 (0))), (1, .ref (w.2 (132))), (2, .ref (w.2 (133))), (3, .ref (w.2 (134))), (4, .ref (w.2 (135))), (5, .int (z))] 641 [.int (s (15 + q))]
              refine zr_iload X 0 dL_acts_641 rfl ?_
              refine zr_icmp_ne X (tgt := 650) dL_acts_643 (by decide) (fun h => False.elim (h rfl)) (fun _ => ?_)
              refine zr_iconst X (v := 1) dL_acts_646 (by decide) ?_
              refine zr_goto X (tgt := 651) dL_acts_647 (by decide) ?_
              exact zretp_z E rfl (Or.inr rfl) dL_acts_651 (aend (LX_mono (Kn.lx (B := B + 60) hX4 ((upd_ne (by omega)).trans hm) hm4 ((upd_ne (by omega)).trans hb) hb10 (jn_set jn hq)) (by omega)))
          · refine zr_iconst X (v := 1) dL_acts_445 (by decide) ?_
            refine zr_iload X 1 dL_acts_446 rfl ?_
            refine zr_iload X 1 dL_acts_448 rfl ?_
            refine zr_iconst X (v := 5) dL_acts_450 (by decide) ?_
            refine zr_irem X dL_acts_451 (by decide) ?_
            refine zr_if_ne X (tgt := 460) dL_acts_452 (by decide) (fun h17 => ?_) (fun h18 => ?_)
            · refine zr_iconst X (v := 4) dL_acts_460 (by decide) ?_
              refine zr_irem X dL_acts_461 (by decide) ?_
              refine zr_iadd X dL_acts_462 ?_
              refine zr_istore X (ls' := [(8, .int (1 + ((nI Y) - (nI Y) / 4 * 4))), (7, .int (nI W)), (6, .int (nI Y)), (0, .ref (w.2 (0))), (1, .ref (w.2 (132))), (2, .ref (w.2 (133))), (3, .ref (w.2 (134))), (4, .ref (w.2 (135))), (5, .int (z))]) dL_acts_463 (by decide) rfl ?_
              obtain ⟨A, hA1, hA2, eA⟩ := nm_1 (Y := Y) (n := 4) (c := 1) (by omega) (by decide) (by decide)
              rw [show (1 : Int32) + (nI Y - nI Y / 4 * 4) = nI A from eA]
              show G (w, 0, 0) (lW cy f s) [(8, .int (nI A)), (7, .int (nI W)), (6, .int (nI Y)), (0, .ref (w.2 (0))), (1, .ref (w.2 (132))), (2, .ref (w.2 (133))), (3, .ref (w.2 (134))), (4, .ref (w.2 (135))), (5, .int (z))] 465 []
              refine zr_aload_n X 4 dL_acts_465 rfl rfl ?_
              refine zr_iconst X (v := 3) dL_acts_466 (by decide) ?_
              refine zr_lld X hw lr_g (3) (3) (rfl) (by decide) rfl dL_acts_467 ?_
              refine zr_iload X 0 dL_acts_468 rfl ?_
              refine zr_iadd X dL_acts_470 ?_
              refine zr_sipush X (v := 9999) dL_acts_471 (by decide) ?_
              refine zr_icmp_le X (tgt := 494) dL_acts_474 (by decide) (fun h19 => ?_) (fun h20 => ?_)
              · refine zr_aload_n X 4 dL_acts_494 rfl rfl ?_
                refine zr_bipush X (v := 8) dL_acts_495 (by decide) ?_
                refine zr_lld X hw lr_g (8) (8) (rfl) (by decide) rfl dL_acts_497 ?_
                refine zr_istore X (ls' := [(9, .int (s 8)), (8, .int (nI A)), (7, .int (nI W)), (6, .int (nI Y)), (0, .ref (w.2 (0))), (1, .ref (w.2 (132))), (2, .ref (w.2 (133))), (3, .ref (w.2 (134))), (4, .ref (w.2 (135))), (5, .int (z))]) dL_acts_498 (by decide) rfl ?_
                refine zr_iconst X (v := 0) dL_acts_500 (by decide) ?_
                refine zr_istore X (ls' := [(10, .int (0)), (9, .int (s 8)), (8, .int (nI A)), (7, .int (nI W)), (6, .int (nI Y)), (0, .ref (w.2 (0))), (1, .ref (w.2 (132))), (2, .ref (w.2 (133))), (3, .ref (w.2 (134))), (4, .ref (w.2 (135))), (5, .int (z))]) dL_acts_501 (by decide) rfl ?_
                refine zr_loc X (ls' := [(0, .ref (w.2 (0))), (1, .ref (w.2 (132))), (2, .ref (w.2 (133))), (3, .ref (w.2 (134))), (4, .ref (w.2 (135))), (5, .int (z)), (6, .int (nI Y)), (7, .int (nI W)), (8, .int (nI A)), (9, .int (s 8)), (10, .int (0))]) [5, 6, 7, 8, 9, 10, 4, 3, 2, 1, 0] rfl ?_
                refine zcast (f2 := lW cy f (lDays s (0))) (ls2 := [(0, .ref (w.2 (0))), (1, .ref (w.2 (132))), (2, .ref (w.2 (133))), (3, .ref (w.2 (134))), (4, .ref (w.2 (135))), (5, .int (z)), (6, .int (nI Y)), (7, .int (nI W)), (8, .int (nI A)), (9, .int (s 8)), (10, .int (nI (0)))]) rfl rfl ?_
                refine zdown (P := fun n => G (w, 0, 0) (lW cy f (lDays s (n))) [(0, .ref (w.2 (0))), (1, .ref (w.2 (132))), (2, .ref (w.2 (133))), (3, .ref (w.2 (134))), (4, .ref (w.2 (135))), (5, .int (z)), (6, .int (nI Y)), (7, .int (nI W)), (8, .int (nI A)), (9, .int (s 8)), (10, .int (nI (n)))] 503 []) (B := A) ?_ (fun n hn503 ih503 => ?_) 0 (Nat.zero_le _) 
                · show G (w, 0, 0) (lW cy f (lDays s (A))) [(0, .ref (w.2 (0))), (1, .ref (w.2 (132))), (2, .ref (w.2 (133))), (3, .ref (w.2 (134))), (4, .ref (w.2 (135))), (5, .int (z)), (6, .int (nI Y)), (7, .int (nI W)), (8, .int (nI A)), (9, .int (s 8)), (10, .int (nI (A)))] 503 []
                  obtain ⟨b9, d1, d2, d3, d4, d5, d6, d7, d8⟩ := ldays_all r o v jn e17 hfr A (by omega)
                  refine zr_iload X 10 dL_acts_503 rfl ?_
                  refine zr_iload X 8 dL_acts_505 rfl ?_
                  refine zr_icmp_ge X (tgt := 524) dL_acts_507 (by decide) (fun _ => ?_) (fun h => False.elim (h (Int32.le_refl _)))
                  refine zr_aload_n X 0 dL_acts_524 rfl rfl ?_
                  refine zr_iload X 8 dL_acts_525 rfl ?_
                  refine zr_cVp X (As := [.int (nI A)]) (rest := []) zc_X8_end (0) (show 0 < w.1 by rw [hw]; decide) ((lW_lo (by decide)).trans (CX_0 hX)) (q9 := _) rfl rfl (zSp.d (ca_end  hw (LX_lW hL) (by omega)) (en_d2 hA1 (by omega) h19)) ⟨Nat.le_of_ble_eq_true rfl, Nat.le_of_ble_eq_true rfl⟩ ⟨Nat.le_refl _, Nat.le_refl _⟩ rfl (Nat.le_of_ble_eq_true rfl) zm_2_194 rfl dL_acts_527 (fun r9_5 g9_5 hp5 => ?_)
                  obtain ⟨rfl, hQ5, hF5⟩ := hp5
                  have hX5 : CX w cy g9_5 (B + 60) (lDays s (A)) := hQ5
                  refine zcw (f2 := lW cy g9_5 (lDays s (A))) (lW_back hF5) ?_
                  show G (w, 0, 0) (lW cy g9_5 (lDays s (A))) [(0, .ref (w.2 (0))), (1, .ref (w.2 (132))), (2, .ref (w.2 (133))), (3, .ref (w.2 (134))), (4, .ref (w.2 (135))), (5, .int (z)), (6, .int (nI Y)), (7, .int (nI W)), (8, .int (nI A)), (9, .int (s 8)), (10, .int (nI (A)))] 530 [.int ((lDays s (A)) 8 - (s 8))]
                  refine zr_aload_n X 1 dL_acts_530 rfl rfl ?_
                  refine zr_bipush X (v := 8) dL_acts_531 (by decide) ?_
                  refine zr_lld X hw lr_g (8) (8) (rfl) (by decide) rfl dL_acts_533 ?_
                  refine zr_iload X 9 dL_acts_534 rfl ?_
                  refine zr_isub X dL_acts_536 ?_
                  refine zr_icmp_ne X (tgt := 544) dL_acts_537 (by decide) (fun h => False.elim (h rfl)) (fun _ => ?_)
                  refine zr_iconst X (v := 1) dL_acts_540 (by decide) ?_
                  refine zr_goto X (tgt := 545) dL_acts_541 (by decide) ?_
                  exact zretp_z E rfl (Or.inr rfl) dL_acts_545 (aend (LX_mono (Kn.lx (B := B + 60) hX5 d2.s0.1 hm4 d2.s1.1 (by omega) d5) (by omega)))
                · show G (w, 0, 0) (lW cy f (lDays s (n))) [(0, .ref (w.2 (0))), (1, .ref (w.2 (132))), (2, .ref (w.2 (133))), (3, .ref (w.2 (134))), (4, .ref (w.2 (135))), (5, .int (z)), (6, .int (nI Y)), (7, .int (nI W)), (8, .int (nI A)), (9, .int (s 8)), (10, .int (nI (n)))] 503 []
                  refine zr_iload X 10 dL_acts_503 rfl ?_
                  refine zr_iload X 8 dL_acts_505 rfl ?_
                  refine zr_icmp_ge X (tgt := 524) dL_acts_507 (by decide) (fun h => False.elim (nI_ge hn503 (by omega) h)) (fun _ => ?_)
                  refine zr_aload_n X 1 dL_acts_510 rfl rfl ?_
                  refine zr_aload_n X 2 dL_acts_511 rfl rfl ?_
                  refine zr_aload_n X 3 dL_acts_512 rfl rfl ?_
                  refine zr_aload X 4 dL_acts_513 rfl ?_
                  obtain ⟨b9, d1, d2, d3, d4, d5, d6, d7, d8⟩ := ldays_all r o v jn e17 hfr n (by omega)
                  refine zr_cS X (As := [.ref (w.2 (132)), .ref (w.2 (133)), .ref (w.2 (134)), .ref (w.2 (135))]) (rest := []) (f' := lW cy f (lDay (lDays s n) mc b9 fr)) (st' := []) zc_L_day (kl_day hw (lDg_of d2 d4 (by omega) d7 hfr)) ⟨Nat.le_of_ble_eq_true rfl, Nat.le_of_ble_eq_true rfl⟩ ⟨Nat.le_refl _, Nat.le_refl _⟩ rfl (Nat.le_of_ble_eq_true rfl) zm_3_9 rfl dL_acts_515 rfl ?_
                  refine zr_iinc X (v := nI (n + 1)) (ls' := [(10, .int (nI (n + 1))), (0, .ref (w.2 (0))), (1, .ref (w.2 (132))), (2, .ref (w.2 (133))), (3, .ref (w.2 (134))), (4, .ref (w.2 (135))), (5, .int (z)), (6, .int (nI Y)), (7, .int (nI W)), (8, .int (nI A)), (9, .int (s 8))]) 10 dL_acts_518 rfl (zinc1 _) (by decide) rfl ?_
                  refine zr_goto X (tgt := 503) dL_acts_521 (by decide) ?_
                  refine zr_loc X (ls' := [(0, .ref (w.2 (0))), (1, .ref (w.2 (132))), (2, .ref (w.2 (133))), (3, .ref (w.2 (134))), (4, .ref (w.2 (135))), (5, .int (z)), (6, .int (nI Y)), (7, .int (nI W)), (8, .int (nI A)), (9, .int (s 8)), (10, .int (nI (n + 1)))]) [1, 2, 3, 4, 5, 6, 7, 8, 9, 10, 0] rfl ?_
                  exact zcast (f2 := lW cy f (lDays s (n + 1))) (ls2 := [(0, .ref (w.2 (0))), (1, .ref (w.2 (132))), (2, .ref (w.2 (133))), (3, .ref (w.2 (134))), (4, .ref (w.2 (135))), (5, .int (z)), (6, .int (nI Y)), (7, .int (nI W)), (8, .int (nI A)), (9, .int (s 8)), (10, .int (nI (n + 1)))]) (by rw [lDays_s, lDy_eq d2.s0.1 d2.s0.2 d2.s1.1 d2.s1.2 d7 hfr]) rfl ih503
              · refine zr_aload_n X 3 dL_acts_477 rfl rfl ?_
                refine zr_iload X 0 dL_acts_478 rfl ?_
                refine zr_cVp X (As := [.int (nI A)]) (rest := []) zc_X8_end (0) (show 0 < w.1 by rw [hw]; decide) ((lW_lo (by decide)).trans (CX_0 hX)) (q9 := _) rfl rfl (zSp.d (ca_end  hw (LX_lW hL) (by omega)) (en_d1 hA1 (by omega) h20)) ⟨Nat.le_of_ble_eq_true rfl, Nat.le_of_ble_eq_true rfl⟩ ⟨Nat.le_refl _, Nat.le_refl _⟩ rfl (Nat.le_of_ble_eq_true rfl) zm_2_194 rfl dL_acts_480 (fun r9_6 g9_6 hp6 => ?_)
                obtain ⟨rfl, hQ6, hF6⟩ := hp6
                have hX6 : CX w cy g9_6 (B + 60) (s) := hQ6
                refine zcw (f2 := lW cy g9_6 s) (lW_back hF6) ?_
                show G (w, 0, 0) (lW cy g9_6 s) [(8, .int (nI A)), (7, .int (nI W)), (6, .int (nI Y)), (0, .ref (w.2 (0))), (1, .ref (w.2 (132))), (2, .ref (w.2 (133))), (3, .ref (w.2 (134))), (4, .ref (w.2 (135))), (5, .int (z))] 483 [.int ((-1000003))]
                refine zr_ldc X zm_2_124 dL_acts_483 ?_
                refine zr_icmp_ne X (tgt := 492) dL_acts_485 (by decide) (fun h => False.elim (h rfl)) (fun _ => ?_)
                refine zr_iconst X (v := 1) dL_acts_488 (by decide) ?_
                refine zr_goto X (tgt := 493) dL_acts_489 (by decide) ?_
                exact zretp_z E rfl (Or.inr rfl) dL_acts_493 (aend (LX_mono (Kn.lx (B := B + 60) hX6 hm hm4 hb hb10 jn) (by omega)))
            · refine zr_bipush X (v := 60) dL_acts_455 (by decide) ?_
              refine zr_goto X (tgt := 461) dL_acts_457 (by decide) ?_
              refine zr_irem X dL_acts_461 (by decide) ?_
              refine zr_iadd X dL_acts_462 ?_
              refine zr_istore X (ls' := [(8, .int (1 + ((nI Y) - (nI Y) / 60 * 60))), (7, .int (nI W)), (6, .int (nI Y)), (0, .ref (w.2 (0))), (1, .ref (w.2 (132))), (2, .ref (w.2 (133))), (3, .ref (w.2 (134))), (4, .ref (w.2 (135))), (5, .int (z))]) dL_acts_463 (by decide) rfl ?_
              obtain ⟨A, hA1, hA2, eA⟩ := nm_1 (Y := Y) (n := 60) (c := 1) (by omega) (by decide) (by decide)
              rw [show (1 : Int32) + (nI Y - nI Y / 60 * 60) = nI A from eA]
              show G (w, 0, 0) (lW cy f s) [(8, .int (nI A)), (7, .int (nI W)), (6, .int (nI Y)), (0, .ref (w.2 (0))), (1, .ref (w.2 (132))), (2, .ref (w.2 (133))), (3, .ref (w.2 (134))), (4, .ref (w.2 (135))), (5, .int (z))] 465 []
              refine zr_aload_n X 4 dL_acts_465 rfl rfl ?_
              refine zr_iconst X (v := 3) dL_acts_466 (by decide) ?_
              refine zr_lld X hw lr_g (3) (3) (rfl) (by decide) rfl dL_acts_467 ?_
              refine zr_iload X 0 dL_acts_468 rfl ?_
              refine zr_iadd X dL_acts_470 ?_
              refine zr_sipush X (v := 9999) dL_acts_471 (by decide) ?_
              refine zr_icmp_le X (tgt := 494) dL_acts_474 (by decide) (fun h21 => ?_) (fun h22 => ?_)
              · refine zr_aload_n X 4 dL_acts_494 rfl rfl ?_
                refine zr_bipush X (v := 8) dL_acts_495 (by decide) ?_
                refine zr_lld X hw lr_g (8) (8) (rfl) (by decide) rfl dL_acts_497 ?_
                refine zr_istore X (ls' := [(9, .int (s 8)), (8, .int (nI A)), (7, .int (nI W)), (6, .int (nI Y)), (0, .ref (w.2 (0))), (1, .ref (w.2 (132))), (2, .ref (w.2 (133))), (3, .ref (w.2 (134))), (4, .ref (w.2 (135))), (5, .int (z))]) dL_acts_498 (by decide) rfl ?_
                refine zr_iconst X (v := 0) dL_acts_500 (by decide) ?_
                refine zr_istore X (ls' := [(10, .int (0)), (9, .int (s 8)), (8, .int (nI A)), (7, .int (nI W)), (6, .int (nI Y)), (0, .ref (w.2 (0))), (1, .ref (w.2 (132))), (2, .ref (w.2 (133))), (3, .ref (w.2 (134))), (4, .ref (w.2 (135))), (5, .int (z))]) dL_acts_501 (by decide) rfl ?_
                refine zr_loc X (ls' := [(0, .ref (w.2 (0))), (1, .ref (w.2 (132))), (2, .ref (w.2 (133))), (3, .ref (w.2 (134))), (4, .ref (w.2 (135))), (5, .int (z)), (6, .int (nI Y)), (7, .int (nI W)), (8, .int (nI A)), (9, .int (s 8)), (10, .int (0))]) [5, 6, 7, 8, 9, 10, 4, 3, 2, 1, 0] rfl ?_
                refine zcast (f2 := lW cy f (lDays s (0))) (ls2 := [(0, .ref (w.2 (0))), (1, .ref (w.2 (132))), (2, .ref (w.2 (133))), (3, .ref (w.2 (134))), (4, .ref (w.2 (135))), (5, .int (z)), (6, .int (nI Y)), (7, .int (nI W)), (8, .int (nI A)), (9, .int (s 8)), (10, .int (nI (0)))]) rfl rfl ?_
                refine zdown (P := fun n => G (w, 0, 0) (lW cy f (lDays s (n))) [(0, .ref (w.2 (0))), (1, .ref (w.2 (132))), (2, .ref (w.2 (133))), (3, .ref (w.2 (134))), (4, .ref (w.2 (135))), (5, .int (z)), (6, .int (nI Y)), (7, .int (nI W)), (8, .int (nI A)), (9, .int (s 8)), (10, .int (nI (n)))] 503 []) (B := A) ?_ (fun n hn503 ih503 => ?_) 0 (Nat.zero_le _) 
                · show G (w, 0, 0) (lW cy f (lDays s (A))) [(0, .ref (w.2 (0))), (1, .ref (w.2 (132))), (2, .ref (w.2 (133))), (3, .ref (w.2 (134))), (4, .ref (w.2 (135))), (5, .int (z)), (6, .int (nI Y)), (7, .int (nI W)), (8, .int (nI A)), (9, .int (s 8)), (10, .int (nI (A)))] 503 []
                  obtain ⟨b9, d1, d2, d3, d4, d5, d6, d7, d8⟩ := ldays_all r o v jn e17 hfr A (by omega)
                  refine zr_iload X 10 dL_acts_503 rfl ?_
                  refine zr_iload X 8 dL_acts_505 rfl ?_
                  refine zr_icmp_ge X (tgt := 524) dL_acts_507 (by decide) (fun _ => ?_) (fun h => False.elim (h (Int32.le_refl _)))
                  refine zr_aload_n X 0 dL_acts_524 rfl rfl ?_
                  refine zr_iload X 8 dL_acts_525 rfl ?_
                  refine zr_cVp X (As := [.int (nI A)]) (rest := []) zc_X8_end (0) (show 0 < w.1 by rw [hw]; decide) ((lW_lo (by decide)).trans (CX_0 hX)) (q9 := _) rfl rfl (zSp.d (ca_end  hw (LX_lW hL) (by omega)) (en_d2 hA1 (by omega) h21)) ⟨Nat.le_of_ble_eq_true rfl, Nat.le_of_ble_eq_true rfl⟩ ⟨Nat.le_refl _, Nat.le_refl _⟩ rfl (Nat.le_of_ble_eq_true rfl) zm_2_194 rfl dL_acts_527 (fun r9_7 g9_7 hp7 => ?_)
                  obtain ⟨rfl, hQ7, hF7⟩ := hp7
                  have hX7 : CX w cy g9_7 (B + 60) (lDays s (A)) := hQ7
                  refine zcw (f2 := lW cy g9_7 (lDays s (A))) (lW_back hF7) ?_
                  show G (w, 0, 0) (lW cy g9_7 (lDays s (A))) [(0, .ref (w.2 (0))), (1, .ref (w.2 (132))), (2, .ref (w.2 (133))), (3, .ref (w.2 (134))), (4, .ref (w.2 (135))), (5, .int (z)), (6, .int (nI Y)), (7, .int (nI W)), (8, .int (nI A)), (9, .int (s 8)), (10, .int (nI (A)))] 530 [.int ((lDays s (A)) 8 - (s 8))]
                  refine zr_aload_n X 1 dL_acts_530 rfl rfl ?_
                  refine zr_bipush X (v := 8) dL_acts_531 (by decide) ?_
                  refine zr_lld X hw lr_g (8) (8) (rfl) (by decide) rfl dL_acts_533 ?_
                  refine zr_iload X 9 dL_acts_534 rfl ?_
                  refine zr_isub X dL_acts_536 ?_
                  refine zr_icmp_ne X (tgt := 544) dL_acts_537 (by decide) (fun h => False.elim (h rfl)) (fun _ => ?_)
                  refine zr_iconst X (v := 1) dL_acts_540 (by decide) ?_
                  refine zr_goto X (tgt := 545) dL_acts_541 (by decide) ?_
                  exact zretp_z E rfl (Or.inr rfl) dL_acts_545 (aend (LX_mono (Kn.lx (B := B + 60) hX7 d2.s0.1 hm4 d2.s1.1 (by omega) d5) (by omega)))
                · show G (w, 0, 0) (lW cy f (lDays s (n))) [(0, .ref (w.2 (0))), (1, .ref (w.2 (132))), (2, .ref (w.2 (133))), (3, .ref (w.2 (134))), (4, .ref (w.2 (135))), (5, .int (z)), (6, .int (nI Y)), (7, .int (nI W)), (8, .int (nI A)), (9, .int (s 8)), (10, .int (nI (n)))] 503 []
                  refine zr_iload X 10 dL_acts_503 rfl ?_
                  refine zr_iload X 8 dL_acts_505 rfl ?_
                  refine zr_icmp_ge X (tgt := 524) dL_acts_507 (by decide) (fun h => False.elim (nI_ge hn503 (by omega) h)) (fun _ => ?_)
                  refine zr_aload_n X 1 dL_acts_510 rfl rfl ?_
                  refine zr_aload_n X 2 dL_acts_511 rfl rfl ?_
                  refine zr_aload_n X 3 dL_acts_512 rfl rfl ?_
                  refine zr_aload X 4 dL_acts_513 rfl ?_
                  obtain ⟨b9, d1, d2, d3, d4, d5, d6, d7, d8⟩ := ldays_all r o v jn e17 hfr n (by omega)
                  refine zr_cS X (As := [.ref (w.2 (132)), .ref (w.2 (133)), .ref (w.2 (134)), .ref (w.2 (135))]) (rest := []) (f' := lW cy f (lDay (lDays s n) mc b9 fr)) (st' := []) zc_L_day (kl_day hw (lDg_of d2 d4 (by omega) d7 hfr)) ⟨Nat.le_of_ble_eq_true rfl, Nat.le_of_ble_eq_true rfl⟩ ⟨Nat.le_refl _, Nat.le_refl _⟩ rfl (Nat.le_of_ble_eq_true rfl) zm_3_9 rfl dL_acts_515 rfl ?_
                  refine zr_iinc X (v := nI (n + 1)) (ls' := [(10, .int (nI (n + 1))), (0, .ref (w.2 (0))), (1, .ref (w.2 (132))), (2, .ref (w.2 (133))), (3, .ref (w.2 (134))), (4, .ref (w.2 (135))), (5, .int (z)), (6, .int (nI Y)), (7, .int (nI W)), (8, .int (nI A)), (9, .int (s 8))]) 10 dL_acts_518 rfl (zinc1 _) (by decide) rfl ?_
                  refine zr_goto X (tgt := 503) dL_acts_521 (by decide) ?_
                  refine zr_loc X (ls' := [(0, .ref (w.2 (0))), (1, .ref (w.2 (132))), (2, .ref (w.2 (133))), (3, .ref (w.2 (134))), (4, .ref (w.2 (135))), (5, .int (z)), (6, .int (nI Y)), (7, .int (nI W)), (8, .int (nI A)), (9, .int (s 8)), (10, .int (nI (n + 1)))]) [1, 2, 3, 4, 5, 6, 7, 8, 9, 10, 0] rfl ?_
                  exact zcast (f2 := lW cy f (lDays s (n + 1))) (ls2 := [(0, .ref (w.2 (0))), (1, .ref (w.2 (132))), (2, .ref (w.2 (133))), (3, .ref (w.2 (134))), (4, .ref (w.2 (135))), (5, .int (z)), (6, .int (nI Y)), (7, .int (nI W)), (8, .int (nI A)), (9, .int (s 8)), (10, .int (nI (n + 1)))]) (by rw [lDays_s, lDy_eq d2.s0.1 d2.s0.2 d2.s1.1 d2.s1.2 d7 hfr]) rfl ih503
              · refine zr_aload_n X 3 dL_acts_477 rfl rfl ?_
                refine zr_iload X 0 dL_acts_478 rfl ?_
                refine zr_cVp X (As := [.int (nI A)]) (rest := []) zc_X8_end (0) (show 0 < w.1 by rw [hw]; decide) ((lW_lo (by decide)).trans (CX_0 hX)) (q9 := _) rfl rfl (zSp.d (ca_end  hw (LX_lW hL) (by omega)) (en_d1 hA1 (by omega) h22)) ⟨Nat.le_of_ble_eq_true rfl, Nat.le_of_ble_eq_true rfl⟩ ⟨Nat.le_refl _, Nat.le_refl _⟩ rfl (Nat.le_of_ble_eq_true rfl) zm_2_194 rfl dL_acts_480 (fun r9_8 g9_8 hp8 => ?_)
                obtain ⟨rfl, hQ8, hF8⟩ := hp8
                have hX8 : CX w cy g9_8 (B + 60) (s) := hQ8
                refine zcw (f2 := lW cy g9_8 s) (lW_back hF8) ?_
                show G (w, 0, 0) (lW cy g9_8 s) [(8, .int (nI A)), (7, .int (nI W)), (6, .int (nI Y)), (0, .ref (w.2 (0))), (1, .ref (w.2 (132))), (2, .ref (w.2 (133))), (3, .ref (w.2 (134))), (4, .ref (w.2 (135))), (5, .int (z))] 483 [.int ((-1000003))]
                refine zr_ldc X zm_2_124 dL_acts_483 ?_
                refine zr_icmp_ne X (tgt := 492) dL_acts_485 (by decide) (fun h => False.elim (h rfl)) (fun _ => ?_)
                refine zr_iconst X (v := 1) dL_acts_488 (by decide) ?_
                refine zr_goto X (tgt := 493) dL_acts_489 (by decide) ?_
                exact zretp_z E rfl (Or.inr rfl) dL_acts_493 (aend (LX_mono (Kn.lx (B := B + 60) hX8 hm hm4 hb hb10 jn) (by omega)))
        · refine zr_aload_n X 3 dL_acts_301 rfl rfl ?_
          refine zr_iconst X (v := 5) dL_acts_302 (by decide) ?_
          refine zr_lld X hw lr_g (5) (5) (rfl) (by decide) rfl dL_acts_303 ?_
          refine zr_aload_n X 3 dL_acts_304 rfl rfl ?_
          refine zr_bipush X (v := 6) dL_acts_305 (by decide) ?_
          refine zr_lld X hw lr_g (6) (6) (rfl) (by decide) rfl dL_acts_307 ?_
          refine zr_icmp_ge X (tgt := 317) dL_acts_308 (by decide) (fun h23 => ?_) (fun h24 => ?_)
          · refine zr_aload_n X 3 dL_acts_317 rfl rfl ?_
            refine zr_bipush X (v := 6) dL_acts_318 (by decide) ?_
            refine zr_lld X hw lr_g (6) (6) (rfl) (by decide) rfl dL_acts_320 ?_
            refine zr_istore X (ls' := [(8, .int (s 6)), (7, .int (nI W)), (6, .int (nI Y)), (0, .ref (w.2 (0))), (1, .ref (w.2 (132))), (2, .ref (w.2 (133))), (3, .ref (w.2 (134))), (4, .ref (w.2 (135))), (5, .int (z))]) dL_acts_321 (by decide) rfl ?_
            obtain ⟨M9, eM9, hM9, hM5⟩ := mo_n (s := s) (v := s 6) jn.2.2.2.1 v.2.2.2.2.2.1.1 v.2.2.2.2.2.1.2 (by have := tle.mp h23; omega)
            refine zcast (f2 := lW cy f s) (ls2 := [(8, .int (nI M9)), (7, .int (nI W)), (6, .int (nI Y)), (0, .ref (w.2 (0))), (1, .ref (w.2 (132))), (2, .ref (w.2 (133))), (3, .ref (w.2 (134))), (4, .ref (w.2 (135))), (5, .int (z))]) rfl (by rw [← eM9]) ?_
            show G (w, 0, 0) (lW cy f s) [(8, .int (nI M9)), (7, .int (nI W)), (6, .int (nI Y)), (0, .ref (w.2 (0))), (1, .ref (w.2 (132))), (2, .ref (w.2 (133))), (3, .ref (w.2 (134))), (4, .ref (w.2 (135))), (5, .int (z))] 323 []
            refine zr_iload X 2 dL_acts_323 rfl ?_
            refine zr_iconst X (v := 3) dL_acts_325 (by decide) ?_
            refine zr_irem X dL_acts_326 (by decide) ?_
            refine zr_if_eq X (tgt := 335) dL_acts_327 (by decide) (fun h25 => ?_) (fun h26 => ?_)
            · refine zr_iconst X (v := 1) dL_acts_335 (by decide) ?_
              refine zr_iload X 2 dL_acts_336 rfl ?_
              refine zr_sipush X (v := 500) dL_acts_338 (by decide) ?_
              refine zr_irem X dL_acts_341 (by decide) ?_
              refine zr_iadd X dL_acts_342 ?_
              refine zr_goto X (tgt := 367) dL_acts_343 (by decide) ?_
              refine zr_istore X (ls' := [(9, .int (1 + ((nI Y) - (nI Y) / 500 * 500))), (8, .int (nI M9)), (7, .int (nI W)), (6, .int (nI Y)), (0, .ref (w.2 (0))), (1, .ref (w.2 (132))), (2, .ref (w.2 (133))), (3, .ref (w.2 (134))), (4, .ref (w.2 (135))), (5, .int (z))]) dL_acts_367 (by decide) rfl ?_
              obtain ⟨N, hN1, hN3, eN⟩ := nm_1 (Y := Y) (n := 500) (c := 1) (by omega) (by decide) (by decide)
              rw [show (1 : Int32) + (nI Y - nI Y / 500 * 500) = nI N from eN]
              have hN2 : N ≤ 500 := by omega
              show G (w, 0, 0) (lW cy f s) [(9, .int (nI N)), (8, .int (nI M9)), (7, .int (nI W)), (6, .int (nI Y)), (0, .ref (w.2 (0))), (1, .ref (w.2 (132))), (2, .ref (w.2 (133))), (3, .ref (w.2 (134))), (4, .ref (w.2 (135))), (5, .int (z))] 369 []
              refine zr_iload X 0 dL_acts_369 rfl ?_
              refine zr_iload X 1 dL_acts_371 rfl ?_
              refine zr_icmp_le X (tgt := 393) dL_acts_373 (by decide) (fun h27 => ?_) (fun h28 => ?_)
              · refine zr_aload_n X 5 dL_acts_393 rfl rfl ?_
                refine zr_iconst X (v := 5) dL_acts_394 (by decide) ?_
                refine zr_dup2 X dL_acts_395 rfl rfl ?_
                refine zr_lld X hw lr_g (5) (5) (rfl) (by decide) rfl dL_acts_396 ?_
                refine zr_iload X 0 dL_acts_397 rfl ?_
                refine zr_isub X dL_acts_399 ?_
                refine zr_lst X hw lr_g (5) (5) (rfl) (by decide) rfl dL_acts_400 ?_
                refine zr_aload_n X 5 dL_acts_401 rfl rfl ?_
                refine zr_bipush X (v := 6) dL_acts_402 (by decide) ?_
                refine zr_dup2 X dL_acts_404 rfl rfl ?_
                refine zr_lld X hw lr_g (6) (6) (rfl) (by decide) rfl dL_acts_405 ?_
                refine zr_iload X 0 dL_acts_406 rfl ?_
                refine zr_isub X dL_acts_408 ?_
                refine zr_lst X hw lr_g (6) (6) (rfl) (by decide) rfl dL_acts_409 ?_
                refine zr_aload_n X 5 dL_acts_410 rfl rfl ?_
                refine zr_bipush X (v := 14) dL_acts_411 (by decide) ?_
                refine zr_dup2 X dL_acts_413 rfl rfl ?_
                refine zr_lld X hw lr_g (14) (14) (rfl) (by decide) rfl dL_acts_414 ?_
                refine zr_iload X 0 dL_acts_415 rfl ?_
                refine zr_iadd X dL_acts_417 ?_
                refine zr_lst X hw lr_g (14) (14) (rfl) (by decide) rfl dL_acts_418 ?_
                refine zcw (f2 := lW cy f (dPy s (nI N))) rfl ?_
                refine zr_aload_n X 4 dL_acts_419 rfl rfl ?_
                refine zr_iload X 0 dL_acts_420 rfl ?_
                refine zr_cVp X (As := [.int (nI N)]) (rest := []) zc_X8_pay (0) (show 0 < w.1 by rw [hw]; decide) ((lW_lo (by decide)).trans (CX_0 hX)) (q9 := _) rfl rfl (zSp.d (ca_pay  hw (CX_lW hX) (by omega)) (pa_d2 hN1 hN2 hM9 hM5 h27)) ⟨Nat.le_of_ble_eq_true rfl, Nat.le_of_ble_eq_true rfl⟩ ⟨Nat.le_refl _, Nat.le_refl _⟩ rfl (Nat.le_of_ble_eq_true rfl) zm_2_186 rfl dL_acts_422 (fun r9_9 g9_9 hp9 => ?_)
                obtain ⟨rfl, hQ9, hF9⟩ := hp9
                have hX9 : CX w cy g9_9 (B + 60) (dPy s (nI N)) := hQ9
                refine zcw (f2 := lW cy g9_9 (dPy s (nI N))) (lW_back hF9) ?_
                show G (w, 0, 0) (lW cy g9_9 (dPy s (nI N))) [(9, .int (nI N)), (8, .int (nI M9)), (7, .int (nI W)), (6, .int (nI Y)), (0, .ref (w.2 (0))), (1, .ref (w.2 (132))), (2, .ref (w.2 (133))), (3, .ref (w.2 (134))), (4, .ref (w.2 (135))), (5, .int (z))] 425 [.int ((dPy s (nI N)) 6)]
                refine zr_aload_n X 5 dL_acts_425 rfl rfl ?_
                refine zr_bipush X (v := 6) dL_acts_426 (by decide) ?_
                refine zr_lld X hw lr_g (6) (6) (rfl) (by decide) rfl dL_acts_428 ?_
                refine zr_icmp_ne X (tgt := 436) dL_acts_429 (by decide) (fun h => False.elim (h rfl)) (fun _ => ?_)
                refine zr_iconst X (v := 1) dL_acts_432 (by decide) ?_
                refine zr_goto X (tgt := 437) dL_acts_433 (by decide) ?_
                exact zretp_z E rfl (Or.inr rfl) dL_acts_437 (aend (LX_mono (Kn.lx (B := B + 60) hX9 ((dPy_lo (by decide) (by decide) (by decide)).trans hm) hm4 ((dPy_lo (by decide) (by decide) (by decide)).trans hb) hb10 (jn_pay jn hm4 hb10 (pa_le hN2 hM9 hM5 h27).1 (pa_le hN2 hM9 hM5 h27).2)) (by omega)))
              · refine zr_aload_n X 4 dL_acts_376 rfl rfl ?_
                refine zr_iload X 0 dL_acts_377 rfl ?_
                refine zr_cVp X (As := [.int (nI N)]) (rest := []) zc_X8_pay (0) (show 0 < w.1 by rw [hw]; decide) ((lW_lo (by decide)).trans (CX_0 hX)) (q9 := _) rfl rfl (zSp.d (ca_pay  hw (CX_lW hX) (by omega)) (pa_d1 hN1 hN2 hM9 hM5 h28)) ⟨Nat.le_of_ble_eq_true rfl, Nat.le_of_ble_eq_true rfl⟩ ⟨Nat.le_refl _, Nat.le_refl _⟩ rfl (Nat.le_of_ble_eq_true rfl) zm_2_186 rfl dL_acts_379 (fun r9_10 g9_10 hp10 => ?_)
                obtain ⟨rfl, hQ10, hF10⟩ := hp10
                have hX10 : CX w cy g9_10 (B + 60) (s) := hQ10
                refine zcw (f2 := lW cy g9_10 s) (lW_back hF10) ?_
                show G (w, 0, 0) (lW cy g9_10 s) [(9, .int (nI N)), (8, .int (nI M9)), (7, .int (nI W)), (6, .int (nI Y)), (0, .ref (w.2 (0))), (1, .ref (w.2 (132))), (2, .ref (w.2 (133))), (3, .ref (w.2 (134))), (4, .ref (w.2 (135))), (5, .int (z))] 382 [.int ((-1000002))]
                refine zr_ldc X zm_2_151 dL_acts_382 ?_
                refine zr_icmp_ne X (tgt := 391) dL_acts_384 (by decide) (fun h => False.elim (h rfl)) (fun _ => ?_)
                refine zr_iconst X (v := 1) dL_acts_387 (by decide) ?_
                refine zr_goto X (tgt := 392) dL_acts_388 (by decide) ?_
                exact zretp_z E rfl (Or.inr rfl) dL_acts_392 (aend (LX_mono (Kn.lx (B := B + 60) hX10 hm hm4 hb hb10 jn) (by omega)))
            · refine zr_iload X 0 dL_acts_330 rfl ?_
              refine zr_if_ne X (tgt := 346) dL_acts_332 (by decide) (fun h29 => ?_) (fun h30 => ?_)
              · refine zr_iconst X (v := 1) dL_acts_346 (by decide) ?_
                refine zr_iload X 2 dL_acts_347 rfl ?_
                refine zr_iload X 0 dL_acts_349 rfl ?_
                refine zr_sipush X (v := 500) dL_acts_351 (by decide) ?_
                refine zr_icmp_le X (tgt := 363) dL_acts_354 (by decide) (fun h31 => ?_) (fun h32 => ?_)
                · refine zr_iload X 0 dL_acts_363 rfl ?_
                  refine zr_irem X dL_acts_365 (h29) ?_
                  refine zr_iadd X dL_acts_366 ?_
                  refine zr_istore X (ls' := [(9, .int (1 + ((nI Y) - (nI Y) / (nI M9) * (nI M9)))), (8, .int (nI M9)), (7, .int (nI W)), (6, .int (nI Y)), (0, .ref (w.2 (0))), (1, .ref (w.2 (132))), (2, .ref (w.2 (133))), (3, .ref (w.2 (134))), (4, .ref (w.2 (135))), (5, .int (z))]) dL_acts_367 (by decide) rfl ?_
                  have hM0 : 0 < M9 := nz_pos h29
                  obtain ⟨N, hN1, hN3, eN⟩ := nm_1 (Y := Y) (n := M9) (c := 1) (by omega) hM0 (by omega)
                  rw [show (1 : Int32) + (nI Y - nI Y / nI M9 * nI M9) = nI N from eN]
                  have hN2 : N ≤ 500 := by omega
                  show G (w, 0, 0) (lW cy f s) [(9, .int (nI N)), (8, .int (nI M9)), (7, .int (nI W)), (6, .int (nI Y)), (0, .ref (w.2 (0))), (1, .ref (w.2 (132))), (2, .ref (w.2 (133))), (3, .ref (w.2 (134))), (4, .ref (w.2 (135))), (5, .int (z))] 369 []
                  refine zr_iload X 0 dL_acts_369 rfl ?_
                  refine zr_iload X 1 dL_acts_371 rfl ?_
                  refine zr_icmp_le X (tgt := 393) dL_acts_373 (by decide) (fun h33 => ?_) (fun h34 => ?_)
                  · refine zr_aload_n X 5 dL_acts_393 rfl rfl ?_
                    refine zr_iconst X (v := 5) dL_acts_394 (by decide) ?_
                    refine zr_dup2 X dL_acts_395 rfl rfl ?_
                    refine zr_lld X hw lr_g (5) (5) (rfl) (by decide) rfl dL_acts_396 ?_
                    refine zr_iload X 0 dL_acts_397 rfl ?_
                    refine zr_isub X dL_acts_399 ?_
                    refine zr_lst X hw lr_g (5) (5) (rfl) (by decide) rfl dL_acts_400 ?_
                    refine zr_aload_n X 5 dL_acts_401 rfl rfl ?_
                    refine zr_bipush X (v := 6) dL_acts_402 (by decide) ?_
                    refine zr_dup2 X dL_acts_404 rfl rfl ?_
                    refine zr_lld X hw lr_g (6) (6) (rfl) (by decide) rfl dL_acts_405 ?_
                    refine zr_iload X 0 dL_acts_406 rfl ?_
                    refine zr_isub X dL_acts_408 ?_
                    refine zr_lst X hw lr_g (6) (6) (rfl) (by decide) rfl dL_acts_409 ?_
                    refine zr_aload_n X 5 dL_acts_410 rfl rfl ?_
                    refine zr_bipush X (v := 14) dL_acts_411 (by decide) ?_
                    refine zr_dup2 X dL_acts_413 rfl rfl ?_
                    refine zr_lld X hw lr_g (14) (14) (rfl) (by decide) rfl dL_acts_414 ?_
                    refine zr_iload X 0 dL_acts_415 rfl ?_
                    refine zr_iadd X dL_acts_417 ?_
                    refine zr_lst X hw lr_g (14) (14) (rfl) (by decide) rfl dL_acts_418 ?_
                    refine zcw (f2 := lW cy f (dPy s (nI N))) rfl ?_
                    refine zr_aload_n X 4 dL_acts_419 rfl rfl ?_
                    refine zr_iload X 0 dL_acts_420 rfl ?_
                    refine zr_cVp X (As := [.int (nI N)]) (rest := []) zc_X8_pay (0) (show 0 < w.1 by rw [hw]; decide) ((lW_lo (by decide)).trans (CX_0 hX)) (q9 := _) rfl rfl (zSp.d (ca_pay  hw (CX_lW hX) (by omega)) (pa_d2 hN1 hN2 hM9 hM5 h33)) ⟨Nat.le_of_ble_eq_true rfl, Nat.le_of_ble_eq_true rfl⟩ ⟨Nat.le_refl _, Nat.le_refl _⟩ rfl (Nat.le_of_ble_eq_true rfl) zm_2_186 rfl dL_acts_422 (fun r9_11 g9_11 hp11 => ?_)
                    obtain ⟨rfl, hQ11, hF11⟩ := hp11
                    have hX11 : CX w cy g9_11 (B + 60) (dPy s (nI N)) := hQ11
                    refine zcw (f2 := lW cy g9_11 (dPy s (nI N))) (lW_back hF11) ?_
                    show G (w, 0, 0) (lW cy g9_11 (dPy s (nI N))) [(9, .int (nI N)), (8, .int (nI M9)), (7, .int (nI W)), (6, .int (nI Y)), (0, .ref (w.2 (0))), (1, .ref (w.2 (132))), (2, .ref (w.2 (133))), (3, .ref (w.2 (134))), (4, .ref (w.2 (135))), (5, .int (z))] 425 [.int ((dPy s (nI N)) 6)]
                    refine zr_aload_n X 5 dL_acts_425 rfl rfl ?_
                    refine zr_bipush X (v := 6) dL_acts_426 (by decide) ?_
                    refine zr_lld X hw lr_g (6) (6) (rfl) (by decide) rfl dL_acts_428 ?_
                    refine zr_icmp_ne X (tgt := 436) dL_acts_429 (by decide) (fun h => False.elim (h rfl)) (fun _ => ?_)
                    refine zr_iconst X (v := 1) dL_acts_432 (by decide) ?_
                    refine zr_goto X (tgt := 437) dL_acts_433 (by decide) ?_
                    exact zretp_z E rfl (Or.inr rfl) dL_acts_437 (aend (LX_mono (Kn.lx (B := B + 60) hX11 ((dPy_lo (by decide) (by decide) (by decide)).trans hm) hm4 ((dPy_lo (by decide) (by decide) (by decide)).trans hb) hb10 (jn_pay jn hm4 hb10 (pa_le hN2 hM9 hM5 h33).1 (pa_le hN2 hM9 hM5 h33).2)) (by omega)))
                  · refine zr_aload_n X 4 dL_acts_376 rfl rfl ?_
                    refine zr_iload X 0 dL_acts_377 rfl ?_
                    refine zr_cVp X (As := [.int (nI N)]) (rest := []) zc_X8_pay (0) (show 0 < w.1 by rw [hw]; decide) ((lW_lo (by decide)).trans (CX_0 hX)) (q9 := _) rfl rfl (zSp.d (ca_pay  hw (CX_lW hX) (by omega)) (pa_d1 hN1 hN2 hM9 hM5 h34)) ⟨Nat.le_of_ble_eq_true rfl, Nat.le_of_ble_eq_true rfl⟩ ⟨Nat.le_refl _, Nat.le_refl _⟩ rfl (Nat.le_of_ble_eq_true rfl) zm_2_186 rfl dL_acts_379 (fun r9_12 g9_12 hp12 => ?_)
                    obtain ⟨rfl, hQ12, hF12⟩ := hp12
                    have hX12 : CX w cy g9_12 (B + 60) (s) := hQ12
                    refine zcw (f2 := lW cy g9_12 s) (lW_back hF12) ?_
                    show G (w, 0, 0) (lW cy g9_12 s) [(9, .int (nI N)), (8, .int (nI M9)), (7, .int (nI W)), (6, .int (nI Y)), (0, .ref (w.2 (0))), (1, .ref (w.2 (132))), (2, .ref (w.2 (133))), (3, .ref (w.2 (134))), (4, .ref (w.2 (135))), (5, .int (z))] 382 [.int ((-1000002))]
                    refine zr_ldc X zm_2_151 dL_acts_382 ?_
                    refine zr_icmp_ne X (tgt := 391) dL_acts_384 (by decide) (fun h => False.elim (h rfl)) (fun _ => ?_)
                    refine zr_iconst X (v := 1) dL_acts_387 (by decide) ?_
                    refine zr_goto X (tgt := 392) dL_acts_388 (by decide) ?_
                    exact zretp_z E rfl (Or.inr rfl) dL_acts_392 (aend (LX_mono (Kn.lx (B := B + 60) hX12 hm hm4 hb hb10 jn) (by omega)))
                · refine zr_sipush X (v := 500) dL_acts_357 (by decide) ?_
                  refine zr_goto X (tgt := 365) dL_acts_360 (by decide) ?_
                  refine zr_irem X dL_acts_365 (by decide) ?_
                  refine zr_iadd X dL_acts_366 ?_
                  refine zr_istore X (ls' := [(9, .int (1 + ((nI Y) - (nI Y) / 500 * 500))), (8, .int (nI M9)), (7, .int (nI W)), (6, .int (nI Y)), (0, .ref (w.2 (0))), (1, .ref (w.2 (132))), (2, .ref (w.2 (133))), (3, .ref (w.2 (134))), (4, .ref (w.2 (135))), (5, .int (z))]) dL_acts_367 (by decide) rfl ?_
                  obtain ⟨N, hN1, hN3, eN⟩ := nm_1 (Y := Y) (n := 500) (c := 1) (by omega) (by decide) (by decide)
                  rw [show (1 : Int32) + (nI Y - nI Y / 500 * 500) = nI N from eN]
                  have hN2 : N ≤ 500 := by omega
                  show G (w, 0, 0) (lW cy f s) [(9, .int (nI N)), (8, .int (nI M9)), (7, .int (nI W)), (6, .int (nI Y)), (0, .ref (w.2 (0))), (1, .ref (w.2 (132))), (2, .ref (w.2 (133))), (3, .ref (w.2 (134))), (4, .ref (w.2 (135))), (5, .int (z))] 369 []
                  refine zr_iload X 0 dL_acts_369 rfl ?_
                  refine zr_iload X 1 dL_acts_371 rfl ?_
                  refine zr_icmp_le X (tgt := 393) dL_acts_373 (by decide) (fun h35 => ?_) (fun h36 => ?_)
                  · refine zr_aload_n X 5 dL_acts_393 rfl rfl ?_
                    refine zr_iconst X (v := 5) dL_acts_394 (by decide) ?_
                    refine zr_dup2 X dL_acts_395 rfl rfl ?_
                    refine zr_lld X hw lr_g (5) (5) (rfl) (by decide) rfl dL_acts_396 ?_
                    refine zr_iload X 0 dL_acts_397 rfl ?_
                    refine zr_isub X dL_acts_399 ?_
                    refine zr_lst X hw lr_g (5) (5) (rfl) (by decide) rfl dL_acts_400 ?_
                    refine zr_aload_n X 5 dL_acts_401 rfl rfl ?_
                    refine zr_bipush X (v := 6) dL_acts_402 (by decide) ?_
                    refine zr_dup2 X dL_acts_404 rfl rfl ?_
                    refine zr_lld X hw lr_g (6) (6) (rfl) (by decide) rfl dL_acts_405 ?_
                    refine zr_iload X 0 dL_acts_406 rfl ?_
                    refine zr_isub X dL_acts_408 ?_
                    refine zr_lst X hw lr_g (6) (6) (rfl) (by decide) rfl dL_acts_409 ?_
                    refine zr_aload_n X 5 dL_acts_410 rfl rfl ?_
                    refine zr_bipush X (v := 14) dL_acts_411 (by decide) ?_
                    refine zr_dup2 X dL_acts_413 rfl rfl ?_
                    refine zr_lld X hw lr_g (14) (14) (rfl) (by decide) rfl dL_acts_414 ?_
                    refine zr_iload X 0 dL_acts_415 rfl ?_
                    refine zr_iadd X dL_acts_417 ?_
                    refine zr_lst X hw lr_g (14) (14) (rfl) (by decide) rfl dL_acts_418 ?_
                    refine zcw (f2 := lW cy f (dPy s (nI N))) rfl ?_
                    refine zr_aload_n X 4 dL_acts_419 rfl rfl ?_
                    refine zr_iload X 0 dL_acts_420 rfl ?_
                    refine zr_cVp X (As := [.int (nI N)]) (rest := []) zc_X8_pay (0) (show 0 < w.1 by rw [hw]; decide) ((lW_lo (by decide)).trans (CX_0 hX)) (q9 := _) rfl rfl (zSp.d (ca_pay  hw (CX_lW hX) (by omega)) (pa_d2 hN1 hN2 hM9 hM5 h35)) ⟨Nat.le_of_ble_eq_true rfl, Nat.le_of_ble_eq_true rfl⟩ ⟨Nat.le_refl _, Nat.le_refl _⟩ rfl (Nat.le_of_ble_eq_true rfl) zm_2_186 rfl dL_acts_422 (fun r9_13 g9_13 hp13 => ?_)
                    obtain ⟨rfl, hQ13, hF13⟩ := hp13
                    have hX13 : CX w cy g9_13 (B + 60) (dPy s (nI N)) := hQ13
                    refine zcw (f2 := lW cy g9_13 (dPy s (nI N))) (lW_back hF13) ?_
                    show G (w, 0, 0) (lW cy g9_13 (dPy s (nI N))) [(9, .int (nI N)), (8, .int (nI M9)), (7, .int (nI W)), (6, .int (nI Y)), (0, .ref (w.2 (0))), (1, .ref (w.2 (132))), (2, .ref (w.2 (133))), (3, .ref (w.2 (134))), (4, .ref (w.2 (135))), (5, .int (z))] 425 [.int ((dPy s (nI N)) 6)]
                    refine zr_aload_n X 5 dL_acts_425 rfl rfl ?_
                    refine zr_bipush X (v := 6) dL_acts_426 (by decide) ?_
                    refine zr_lld X hw lr_g (6) (6) (rfl) (by decide) rfl dL_acts_428 ?_
                    refine zr_icmp_ne X (tgt := 436) dL_acts_429 (by decide) (fun h => False.elim (h rfl)) (fun _ => ?_)
                    refine zr_iconst X (v := 1) dL_acts_432 (by decide) ?_
                    refine zr_goto X (tgt := 437) dL_acts_433 (by decide) ?_
                    exact zretp_z E rfl (Or.inr rfl) dL_acts_437 (aend (LX_mono (Kn.lx (B := B + 60) hX13 ((dPy_lo (by decide) (by decide) (by decide)).trans hm) hm4 ((dPy_lo (by decide) (by decide) (by decide)).trans hb) hb10 (jn_pay jn hm4 hb10 (pa_le hN2 hM9 hM5 h35).1 (pa_le hN2 hM9 hM5 h35).2)) (by omega)))
                  · refine zr_aload_n X 4 dL_acts_376 rfl rfl ?_
                    refine zr_iload X 0 dL_acts_377 rfl ?_
                    refine zr_cVp X (As := [.int (nI N)]) (rest := []) zc_X8_pay (0) (show 0 < w.1 by rw [hw]; decide) ((lW_lo (by decide)).trans (CX_0 hX)) (q9 := _) rfl rfl (zSp.d (ca_pay  hw (CX_lW hX) (by omega)) (pa_d1 hN1 hN2 hM9 hM5 h36)) ⟨Nat.le_of_ble_eq_true rfl, Nat.le_of_ble_eq_true rfl⟩ ⟨Nat.le_refl _, Nat.le_refl _⟩ rfl (Nat.le_of_ble_eq_true rfl) zm_2_186 rfl dL_acts_379 (fun r9_14 g9_14 hp14 => ?_)
                    obtain ⟨rfl, hQ14, hF14⟩ := hp14
                    have hX14 : CX w cy g9_14 (B + 60) (s) := hQ14
                    refine zcw (f2 := lW cy g9_14 s) (lW_back hF14) ?_
                    show G (w, 0, 0) (lW cy g9_14 s) [(9, .int (nI N)), (8, .int (nI M9)), (7, .int (nI W)), (6, .int (nI Y)), (0, .ref (w.2 (0))), (1, .ref (w.2 (132))), (2, .ref (w.2 (133))), (3, .ref (w.2 (134))), (4, .ref (w.2 (135))), (5, .int (z))] 382 [.int ((-1000002))]
                    refine zr_ldc X zm_2_151 dL_acts_382 ?_
                    refine zr_icmp_ne X (tgt := 391) dL_acts_384 (by decide) (fun h => False.elim (h rfl)) (fun _ => ?_)
                    refine zr_iconst X (v := 1) dL_acts_387 (by decide) ?_
                    refine zr_goto X (tgt := 392) dL_acts_388 (by decide) ?_
                    exact zretp_z E rfl (Or.inr rfl) dL_acts_392 (aend (LX_mono (Kn.lx (B := B + 60) hX14 hm hm4 hb hb10 jn) (by omega)))
              · refine zr_iconst X (v := 1) dL_acts_335 (by decide) ?_
                refine zr_iload X 2 dL_acts_336 rfl ?_
                refine zr_sipush X (v := 500) dL_acts_338 (by decide) ?_
                refine zr_irem X dL_acts_341 (by decide) ?_
                refine zr_iadd X dL_acts_342 ?_
                refine zr_goto X (tgt := 367) dL_acts_343 (by decide) ?_
                refine zr_istore X (ls' := [(9, .int (1 + ((nI Y) - (nI Y) / 500 * 500))), (8, .int (nI M9)), (7, .int (nI W)), (6, .int (nI Y)), (0, .ref (w.2 (0))), (1, .ref (w.2 (132))), (2, .ref (w.2 (133))), (3, .ref (w.2 (134))), (4, .ref (w.2 (135))), (5, .int (z))]) dL_acts_367 (by decide) rfl ?_
                obtain ⟨N, hN1, hN3, eN⟩ := nm_1 (Y := Y) (n := 500) (c := 1) (by omega) (by decide) (by decide)
                rw [show (1 : Int32) + (nI Y - nI Y / 500 * 500) = nI N from eN]
                have hN2 : N ≤ 500 := by omega
                show G (w, 0, 0) (lW cy f s) [(9, .int (nI N)), (8, .int (nI M9)), (7, .int (nI W)), (6, .int (nI Y)), (0, .ref (w.2 (0))), (1, .ref (w.2 (132))), (2, .ref (w.2 (133))), (3, .ref (w.2 (134))), (4, .ref (w.2 (135))), (5, .int (z))] 369 []
                refine zr_iload X 0 dL_acts_369 rfl ?_
                refine zr_iload X 1 dL_acts_371 rfl ?_
                refine zr_icmp_le X (tgt := 393) dL_acts_373 (by decide) (fun h37 => ?_) (fun h38 => ?_)
                · refine zr_aload_n X 5 dL_acts_393 rfl rfl ?_
                  refine zr_iconst X (v := 5) dL_acts_394 (by decide) ?_
                  refine zr_dup2 X dL_acts_395 rfl rfl ?_
                  refine zr_lld X hw lr_g (5) (5) (rfl) (by decide) rfl dL_acts_396 ?_
                  refine zr_iload X 0 dL_acts_397 rfl ?_
                  refine zr_isub X dL_acts_399 ?_
                  refine zr_lst X hw lr_g (5) (5) (rfl) (by decide) rfl dL_acts_400 ?_
                  refine zr_aload_n X 5 dL_acts_401 rfl rfl ?_
                  refine zr_bipush X (v := 6) dL_acts_402 (by decide) ?_
                  refine zr_dup2 X dL_acts_404 rfl rfl ?_
                  refine zr_lld X hw lr_g (6) (6) (rfl) (by decide) rfl dL_acts_405 ?_
                  refine zr_iload X 0 dL_acts_406 rfl ?_
                  refine zr_isub X dL_acts_408 ?_
                  refine zr_lst X hw lr_g (6) (6) (rfl) (by decide) rfl dL_acts_409 ?_
                  refine zr_aload_n X 5 dL_acts_410 rfl rfl ?_
                  refine zr_bipush X (v := 14) dL_acts_411 (by decide) ?_
                  refine zr_dup2 X dL_acts_413 rfl rfl ?_
                  refine zr_lld X hw lr_g (14) (14) (rfl) (by decide) rfl dL_acts_414 ?_
                  refine zr_iload X 0 dL_acts_415 rfl ?_
                  refine zr_iadd X dL_acts_417 ?_
                  refine zr_lst X hw lr_g (14) (14) (rfl) (by decide) rfl dL_acts_418 ?_
                  refine zcw (f2 := lW cy f (dPy s (nI N))) rfl ?_
                  refine zr_aload_n X 4 dL_acts_419 rfl rfl ?_
                  refine zr_iload X 0 dL_acts_420 rfl ?_
                  refine zr_cVp X (As := [.int (nI N)]) (rest := []) zc_X8_pay (0) (show 0 < w.1 by rw [hw]; decide) ((lW_lo (by decide)).trans (CX_0 hX)) (q9 := _) rfl rfl (zSp.d (ca_pay  hw (CX_lW hX) (by omega)) (pa_d2 hN1 hN2 hM9 hM5 h37)) ⟨Nat.le_of_ble_eq_true rfl, Nat.le_of_ble_eq_true rfl⟩ ⟨Nat.le_refl _, Nat.le_refl _⟩ rfl (Nat.le_of_ble_eq_true rfl) zm_2_186 rfl dL_acts_422 (fun r9_15 g9_15 hp15 => ?_)
                  obtain ⟨rfl, hQ15, hF15⟩ := hp15
                  have hX15 : CX w cy g9_15 (B + 60) (dPy s (nI N)) := hQ15
                  refine zcw (f2 := lW cy g9_15 (dPy s (nI N))) (lW_back hF15) ?_
                  show G (w, 0, 0) (lW cy g9_15 (dPy s (nI N))) [(9, .int (nI N)), (8, .int (nI M9)), (7, .int (nI W)), (6, .int (nI Y)), (0, .ref (w.2 (0))), (1, .ref (w.2 (132))), (2, .ref (w.2 (133))), (3, .ref (w.2 (134))), (4, .ref (w.2 (135))), (5, .int (z))] 425 [.int ((dPy s (nI N)) 6)]
                  refine zr_aload_n X 5 dL_acts_425 rfl rfl ?_
                  refine zr_bipush X (v := 6) dL_acts_426 (by decide) ?_
                  refine zr_lld X hw lr_g (6) (6) (rfl) (by decide) rfl dL_acts_428 ?_
                  refine zr_icmp_ne X (tgt := 436) dL_acts_429 (by decide) (fun h => False.elim (h rfl)) (fun _ => ?_)
                  refine zr_iconst X (v := 1) dL_acts_432 (by decide) ?_
                  refine zr_goto X (tgt := 437) dL_acts_433 (by decide) ?_
                  exact zretp_z E rfl (Or.inr rfl) dL_acts_437 (aend (LX_mono (Kn.lx (B := B + 60) hX15 ((dPy_lo (by decide) (by decide) (by decide)).trans hm) hm4 ((dPy_lo (by decide) (by decide) (by decide)).trans hb) hb10 (jn_pay jn hm4 hb10 (pa_le hN2 hM9 hM5 h37).1 (pa_le hN2 hM9 hM5 h37).2)) (by omega)))
                · refine zr_aload_n X 4 dL_acts_376 rfl rfl ?_
                  refine zr_iload X 0 dL_acts_377 rfl ?_
                  refine zr_cVp X (As := [.int (nI N)]) (rest := []) zc_X8_pay (0) (show 0 < w.1 by rw [hw]; decide) ((lW_lo (by decide)).trans (CX_0 hX)) (q9 := _) rfl rfl (zSp.d (ca_pay  hw (CX_lW hX) (by omega)) (pa_d1 hN1 hN2 hM9 hM5 h38)) ⟨Nat.le_of_ble_eq_true rfl, Nat.le_of_ble_eq_true rfl⟩ ⟨Nat.le_refl _, Nat.le_refl _⟩ rfl (Nat.le_of_ble_eq_true rfl) zm_2_186 rfl dL_acts_379 (fun r9_16 g9_16 hp16 => ?_)
                  obtain ⟨rfl, hQ16, hF16⟩ := hp16
                  have hX16 : CX w cy g9_16 (B + 60) (s) := hQ16
                  refine zcw (f2 := lW cy g9_16 s) (lW_back hF16) ?_
                  show G (w, 0, 0) (lW cy g9_16 s) [(9, .int (nI N)), (8, .int (nI M9)), (7, .int (nI W)), (6, .int (nI Y)), (0, .ref (w.2 (0))), (1, .ref (w.2 (132))), (2, .ref (w.2 (133))), (3, .ref (w.2 (134))), (4, .ref (w.2 (135))), (5, .int (z))] 382 [.int ((-1000002))]
                  refine zr_ldc X zm_2_151 dL_acts_382 ?_
                  refine zr_icmp_ne X (tgt := 391) dL_acts_384 (by decide) (fun h => False.elim (h rfl)) (fun _ => ?_)
                  refine zr_iconst X (v := 1) dL_acts_387 (by decide) ?_
                  refine zr_goto X (tgt := 392) dL_acts_388 (by decide) ?_
                  exact zretp_z E rfl (Or.inr rfl) dL_acts_392 (aend (LX_mono (Kn.lx (B := B + 60) hX16 hm hm4 hb hb10 jn) (by omega)))
          · refine zr_aload_n X 3 dL_acts_311 rfl rfl ?_
            refine zr_iconst X (v := 5) dL_acts_312 (by decide) ?_
            refine zr_lld X hw lr_g (5) (5) (rfl) (by decide) rfl dL_acts_313 ?_
            refine zr_goto X (tgt := 321) dL_acts_314 (by decide) ?_
            refine zr_istore X (ls' := [(8, .int (s 5)), (7, .int (nI W)), (6, .int (nI Y)), (0, .ref (w.2 (0))), (1, .ref (w.2 (132))), (2, .ref (w.2 (133))), (3, .ref (w.2 (134))), (4, .ref (w.2 (135))), (5, .int (z))]) dL_acts_321 (by decide) rfl ?_
            obtain ⟨M9, eM9, hM9, hM5⟩ := mo_n (s := s) (v := s 5) jn.2.2.2.1 v.2.2.2.2.2.1.1 v.2.2.2.2.2.1.2 (by have : ¬ (s 6).toInt ≤ (s 5).toInt := fun z => h24 (tle.mpr z); omega)
            refine zcast (f2 := lW cy f s) (ls2 := [(8, .int (nI M9)), (7, .int (nI W)), (6, .int (nI Y)), (0, .ref (w.2 (0))), (1, .ref (w.2 (132))), (2, .ref (w.2 (133))), (3, .ref (w.2 (134))), (4, .ref (w.2 (135))), (5, .int (z))]) rfl (by rw [← eM9]) ?_
            show G (w, 0, 0) (lW cy f s) [(8, .int (nI M9)), (7, .int (nI W)), (6, .int (nI Y)), (0, .ref (w.2 (0))), (1, .ref (w.2 (132))), (2, .ref (w.2 (133))), (3, .ref (w.2 (134))), (4, .ref (w.2 (135))), (5, .int (z))] 323 []
            refine zr_iload X 2 dL_acts_323 rfl ?_
            refine zr_iconst X (v := 3) dL_acts_325 (by decide) ?_
            refine zr_irem X dL_acts_326 (by decide) ?_
            refine zr_if_eq X (tgt := 335) dL_acts_327 (by decide) (fun h39 => ?_) (fun h40 => ?_)
            · refine zr_iconst X (v := 1) dL_acts_335 (by decide) ?_
              refine zr_iload X 2 dL_acts_336 rfl ?_
              refine zr_sipush X (v := 500) dL_acts_338 (by decide) ?_
              refine zr_irem X dL_acts_341 (by decide) ?_
              refine zr_iadd X dL_acts_342 ?_
              refine zr_goto X (tgt := 367) dL_acts_343 (by decide) ?_
              refine zr_istore X (ls' := [(9, .int (1 + ((nI Y) - (nI Y) / 500 * 500))), (8, .int (nI M9)), (7, .int (nI W)), (6, .int (nI Y)), (0, .ref (w.2 (0))), (1, .ref (w.2 (132))), (2, .ref (w.2 (133))), (3, .ref (w.2 (134))), (4, .ref (w.2 (135))), (5, .int (z))]) dL_acts_367 (by decide) rfl ?_
              obtain ⟨N, hN1, hN3, eN⟩ := nm_1 (Y := Y) (n := 500) (c := 1) (by omega) (by decide) (by decide)
              rw [show (1 : Int32) + (nI Y - nI Y / 500 * 500) = nI N from eN]
              have hN2 : N ≤ 500 := by omega
              show G (w, 0, 0) (lW cy f s) [(9, .int (nI N)), (8, .int (nI M9)), (7, .int (nI W)), (6, .int (nI Y)), (0, .ref (w.2 (0))), (1, .ref (w.2 (132))), (2, .ref (w.2 (133))), (3, .ref (w.2 (134))), (4, .ref (w.2 (135))), (5, .int (z))] 369 []
              refine zr_iload X 0 dL_acts_369 rfl ?_
              refine zr_iload X 1 dL_acts_371 rfl ?_
              refine zr_icmp_le X (tgt := 393) dL_acts_373 (by decide) (fun h41 => ?_) (fun h42 => ?_)
              · refine zr_aload_n X 5 dL_acts_393 rfl rfl ?_
                refine zr_iconst X (v := 5) dL_acts_394 (by decide) ?_
                refine zr_dup2 X dL_acts_395 rfl rfl ?_
                refine zr_lld X hw lr_g (5) (5) (rfl) (by decide) rfl dL_acts_396 ?_
                refine zr_iload X 0 dL_acts_397 rfl ?_
                refine zr_isub X dL_acts_399 ?_
                refine zr_lst X hw lr_g (5) (5) (rfl) (by decide) rfl dL_acts_400 ?_
                refine zr_aload_n X 5 dL_acts_401 rfl rfl ?_
                refine zr_bipush X (v := 6) dL_acts_402 (by decide) ?_
                refine zr_dup2 X dL_acts_404 rfl rfl ?_
                refine zr_lld X hw lr_g (6) (6) (rfl) (by decide) rfl dL_acts_405 ?_
                refine zr_iload X 0 dL_acts_406 rfl ?_
                refine zr_isub X dL_acts_408 ?_
                refine zr_lst X hw lr_g (6) (6) (rfl) (by decide) rfl dL_acts_409 ?_
                refine zr_aload_n X 5 dL_acts_410 rfl rfl ?_
                refine zr_bipush X (v := 14) dL_acts_411 (by decide) ?_
                refine zr_dup2 X dL_acts_413 rfl rfl ?_
                refine zr_lld X hw lr_g (14) (14) (rfl) (by decide) rfl dL_acts_414 ?_
                refine zr_iload X 0 dL_acts_415 rfl ?_
                refine zr_iadd X dL_acts_417 ?_
                refine zr_lst X hw lr_g (14) (14) (rfl) (by decide) rfl dL_acts_418 ?_
                refine zcw (f2 := lW cy f (dPy s (nI N))) rfl ?_
                refine zr_aload_n X 4 dL_acts_419 rfl rfl ?_
                refine zr_iload X 0 dL_acts_420 rfl ?_
                refine zr_cVp X (As := [.int (nI N)]) (rest := []) zc_X8_pay (0) (show 0 < w.1 by rw [hw]; decide) ((lW_lo (by decide)).trans (CX_0 hX)) (q9 := _) rfl rfl (zSp.d (ca_pay  hw (CX_lW hX) (by omega)) (pa_d2 hN1 hN2 hM9 hM5 h41)) ⟨Nat.le_of_ble_eq_true rfl, Nat.le_of_ble_eq_true rfl⟩ ⟨Nat.le_refl _, Nat.le_refl _⟩ rfl (Nat.le_of_ble_eq_true rfl) zm_2_186 rfl dL_acts_422 (fun r9_17 g9_17 hp17 => ?_)
                obtain ⟨rfl, hQ17, hF17⟩ := hp17
                have hX17 : CX w cy g9_17 (B + 60) (dPy s (nI N)) := hQ17
                refine zcw (f2 := lW cy g9_17 (dPy s (nI N))) (lW_back hF17) ?_
                show G (w, 0, 0) (lW cy g9_17 (dPy s (nI N))) [(9, .int (nI N)), (8, .int (nI M9)), (7, .int (nI W)), (6, .int (nI Y)), (0, .ref (w.2 (0))), (1, .ref (w.2 (132))), (2, .ref (w.2 (133))), (3, .ref (w.2 (134))), (4, .ref (w.2 (135))), (5, .int (z))] 425 [.int ((dPy s (nI N)) 6)]
                refine zr_aload_n X 5 dL_acts_425 rfl rfl ?_
                refine zr_bipush X (v := 6) dL_acts_426 (by decide) ?_
                refine zr_lld X hw lr_g (6) (6) (rfl) (by decide) rfl dL_acts_428 ?_
                refine zr_icmp_ne X (tgt := 436) dL_acts_429 (by decide) (fun h => False.elim (h rfl)) (fun _ => ?_)
                refine zr_iconst X (v := 1) dL_acts_432 (by decide) ?_
                refine zr_goto X (tgt := 437) dL_acts_433 (by decide) ?_
                exact zretp_z E rfl (Or.inr rfl) dL_acts_437 (aend (LX_mono (Kn.lx (B := B + 60) hX17 ((dPy_lo (by decide) (by decide) (by decide)).trans hm) hm4 ((dPy_lo (by decide) (by decide) (by decide)).trans hb) hb10 (jn_pay jn hm4 hb10 (pa_le hN2 hM9 hM5 h41).1 (pa_le hN2 hM9 hM5 h41).2)) (by omega)))
              · refine zr_aload_n X 4 dL_acts_376 rfl rfl ?_
                refine zr_iload X 0 dL_acts_377 rfl ?_
                refine zr_cVp X (As := [.int (nI N)]) (rest := []) zc_X8_pay (0) (show 0 < w.1 by rw [hw]; decide) ((lW_lo (by decide)).trans (CX_0 hX)) (q9 := _) rfl rfl (zSp.d (ca_pay  hw (CX_lW hX) (by omega)) (pa_d1 hN1 hN2 hM9 hM5 h42)) ⟨Nat.le_of_ble_eq_true rfl, Nat.le_of_ble_eq_true rfl⟩ ⟨Nat.le_refl _, Nat.le_refl _⟩ rfl (Nat.le_of_ble_eq_true rfl) zm_2_186 rfl dL_acts_379 (fun r9_18 g9_18 hp18 => ?_)
                obtain ⟨rfl, hQ18, hF18⟩ := hp18
                have hX18 : CX w cy g9_18 (B + 60) (s) := hQ18
                refine zcw (f2 := lW cy g9_18 s) (lW_back hF18) ?_
                show G (w, 0, 0) (lW cy g9_18 s) [(9, .int (nI N)), (8, .int (nI M9)), (7, .int (nI W)), (6, .int (nI Y)), (0, .ref (w.2 (0))), (1, .ref (w.2 (132))), (2, .ref (w.2 (133))), (3, .ref (w.2 (134))), (4, .ref (w.2 (135))), (5, .int (z))] 382 [.int ((-1000002))]
                refine zr_ldc X zm_2_151 dL_acts_382 ?_
                refine zr_icmp_ne X (tgt := 391) dL_acts_384 (by decide) (fun h => False.elim (h rfl)) (fun _ => ?_)
                refine zr_iconst X (v := 1) dL_acts_387 (by decide) ?_
                refine zr_goto X (tgt := 392) dL_acts_388 (by decide) ?_
                exact zretp_z E rfl (Or.inr rfl) dL_acts_392 (aend (LX_mono (Kn.lx (B := B + 60) hX18 hm hm4 hb hb10 jn) (by omega)))
            · refine zr_iload X 0 dL_acts_330 rfl ?_
              refine zr_if_ne X (tgt := 346) dL_acts_332 (by decide) (fun h43 => ?_) (fun h44 => ?_)
              · refine zr_iconst X (v := 1) dL_acts_346 (by decide) ?_
                refine zr_iload X 2 dL_acts_347 rfl ?_
                refine zr_iload X 0 dL_acts_349 rfl ?_
                refine zr_sipush X (v := 500) dL_acts_351 (by decide) ?_
                refine zr_icmp_le X (tgt := 363) dL_acts_354 (by decide) (fun h45 => ?_) (fun h46 => ?_)
                · refine zr_iload X 0 dL_acts_363 rfl ?_
                  refine zr_irem X dL_acts_365 (h43) ?_
                  refine zr_iadd X dL_acts_366 ?_
                  refine zr_istore X (ls' := [(9, .int (1 + ((nI Y) - (nI Y) / (nI M9) * (nI M9)))), (8, .int (nI M9)), (7, .int (nI W)), (6, .int (nI Y)), (0, .ref (w.2 (0))), (1, .ref (w.2 (132))), (2, .ref (w.2 (133))), (3, .ref (w.2 (134))), (4, .ref (w.2 (135))), (5, .int (z))]) dL_acts_367 (by decide) rfl ?_
                  have hM0 : 0 < M9 := nz_pos h43
                  obtain ⟨N, hN1, hN3, eN⟩ := nm_1 (Y := Y) (n := M9) (c := 1) (by omega) hM0 (by omega)
                  rw [show (1 : Int32) + (nI Y - nI Y / nI M9 * nI M9) = nI N from eN]
                  have hN2 : N ≤ 500 := by omega
                  show G (w, 0, 0) (lW cy f s) [(9, .int (nI N)), (8, .int (nI M9)), (7, .int (nI W)), (6, .int (nI Y)), (0, .ref (w.2 (0))), (1, .ref (w.2 (132))), (2, .ref (w.2 (133))), (3, .ref (w.2 (134))), (4, .ref (w.2 (135))), (5, .int (z))] 369 []
                  refine zr_iload X 0 dL_acts_369 rfl ?_
                  refine zr_iload X 1 dL_acts_371 rfl ?_
                  refine zr_icmp_le X (tgt := 393) dL_acts_373 (by decide) (fun h47 => ?_) (fun h48 => ?_)
                  · refine zr_aload_n X 5 dL_acts_393 rfl rfl ?_
                    refine zr_iconst X (v := 5) dL_acts_394 (by decide) ?_
                    refine zr_dup2 X dL_acts_395 rfl rfl ?_
                    refine zr_lld X hw lr_g (5) (5) (rfl) (by decide) rfl dL_acts_396 ?_
                    refine zr_iload X 0 dL_acts_397 rfl ?_
                    refine zr_isub X dL_acts_399 ?_
                    refine zr_lst X hw lr_g (5) (5) (rfl) (by decide) rfl dL_acts_400 ?_
                    refine zr_aload_n X 5 dL_acts_401 rfl rfl ?_
                    refine zr_bipush X (v := 6) dL_acts_402 (by decide) ?_
                    refine zr_dup2 X dL_acts_404 rfl rfl ?_
                    refine zr_lld X hw lr_g (6) (6) (rfl) (by decide) rfl dL_acts_405 ?_
                    refine zr_iload X 0 dL_acts_406 rfl ?_
                    refine zr_isub X dL_acts_408 ?_
                    refine zr_lst X hw lr_g (6) (6) (rfl) (by decide) rfl dL_acts_409 ?_
                    refine zr_aload_n X 5 dL_acts_410 rfl rfl ?_
                    refine zr_bipush X (v := 14) dL_acts_411 (by decide) ?_
                    refine zr_dup2 X dL_acts_413 rfl rfl ?_
                    refine zr_lld X hw lr_g (14) (14) (rfl) (by decide) rfl dL_acts_414 ?_
                    refine zr_iload X 0 dL_acts_415 rfl ?_
                    refine zr_iadd X dL_acts_417 ?_
                    refine zr_lst X hw lr_g (14) (14) (rfl) (by decide) rfl dL_acts_418 ?_
                    refine zcw (f2 := lW cy f (dPy s (nI N))) rfl ?_
                    refine zr_aload_n X 4 dL_acts_419 rfl rfl ?_
                    refine zr_iload X 0 dL_acts_420 rfl ?_
                    refine zr_cVp X (As := [.int (nI N)]) (rest := []) zc_X8_pay (0) (show 0 < w.1 by rw [hw]; decide) ((lW_lo (by decide)).trans (CX_0 hX)) (q9 := _) rfl rfl (zSp.d (ca_pay  hw (CX_lW hX) (by omega)) (pa_d2 hN1 hN2 hM9 hM5 h47)) ⟨Nat.le_of_ble_eq_true rfl, Nat.le_of_ble_eq_true rfl⟩ ⟨Nat.le_refl _, Nat.le_refl _⟩ rfl (Nat.le_of_ble_eq_true rfl) zm_2_186 rfl dL_acts_422 (fun r9_19 g9_19 hp19 => ?_)
                    obtain ⟨rfl, hQ19, hF19⟩ := hp19
                    have hX19 : CX w cy g9_19 (B + 60) (dPy s (nI N)) := hQ19
                    refine zcw (f2 := lW cy g9_19 (dPy s (nI N))) (lW_back hF19) ?_
                    show G (w, 0, 0) (lW cy g9_19 (dPy s (nI N))) [(9, .int (nI N)), (8, .int (nI M9)), (7, .int (nI W)), (6, .int (nI Y)), (0, .ref (w.2 (0))), (1, .ref (w.2 (132))), (2, .ref (w.2 (133))), (3, .ref (w.2 (134))), (4, .ref (w.2 (135))), (5, .int (z))] 425 [.int ((dPy s (nI N)) 6)]
                    refine zr_aload_n X 5 dL_acts_425 rfl rfl ?_
                    refine zr_bipush X (v := 6) dL_acts_426 (by decide) ?_
                    refine zr_lld X hw lr_g (6) (6) (rfl) (by decide) rfl dL_acts_428 ?_
                    refine zr_icmp_ne X (tgt := 436) dL_acts_429 (by decide) (fun h => False.elim (h rfl)) (fun _ => ?_)
                    refine zr_iconst X (v := 1) dL_acts_432 (by decide) ?_
                    refine zr_goto X (tgt := 437) dL_acts_433 (by decide) ?_
                    exact zretp_z E rfl (Or.inr rfl) dL_acts_437 (aend (LX_mono (Kn.lx (B := B + 60) hX19 ((dPy_lo (by decide) (by decide) (by decide)).trans hm) hm4 ((dPy_lo (by decide) (by decide) (by decide)).trans hb) hb10 (jn_pay jn hm4 hb10 (pa_le hN2 hM9 hM5 h47).1 (pa_le hN2 hM9 hM5 h47).2)) (by omega)))
                  · refine zr_aload_n X 4 dL_acts_376 rfl rfl ?_
                    refine zr_iload X 0 dL_acts_377 rfl ?_
                    refine zr_cVp X (As := [.int (nI N)]) (rest := []) zc_X8_pay (0) (show 0 < w.1 by rw [hw]; decide) ((lW_lo (by decide)).trans (CX_0 hX)) (q9 := _) rfl rfl (zSp.d (ca_pay  hw (CX_lW hX) (by omega)) (pa_d1 hN1 hN2 hM9 hM5 h48)) ⟨Nat.le_of_ble_eq_true rfl, Nat.le_of_ble_eq_true rfl⟩ ⟨Nat.le_refl _, Nat.le_refl _⟩ rfl (Nat.le_of_ble_eq_true rfl) zm_2_186 rfl dL_acts_379 (fun r9_20 g9_20 hp20 => ?_)
                    obtain ⟨rfl, hQ20, hF20⟩ := hp20
                    have hX20 : CX w cy g9_20 (B + 60) (s) := hQ20
                    refine zcw (f2 := lW cy g9_20 s) (lW_back hF20) ?_
                    show G (w, 0, 0) (lW cy g9_20 s) [(9, .int (nI N)), (8, .int (nI M9)), (7, .int (nI W)), (6, .int (nI Y)), (0, .ref (w.2 (0))), (1, .ref (w.2 (132))), (2, .ref (w.2 (133))), (3, .ref (w.2 (134))), (4, .ref (w.2 (135))), (5, .int (z))] 382 [.int ((-1000002))]
                    refine zr_ldc X zm_2_151 dL_acts_382 ?_
                    refine zr_icmp_ne X (tgt := 391) dL_acts_384 (by decide) (fun h => False.elim (h rfl)) (fun _ => ?_)
                    refine zr_iconst X (v := 1) dL_acts_387 (by decide) ?_
                    refine zr_goto X (tgt := 392) dL_acts_388 (by decide) ?_
                    exact zretp_z E rfl (Or.inr rfl) dL_acts_392 (aend (LX_mono (Kn.lx (B := B + 60) hX20 hm hm4 hb hb10 jn) (by omega)))
                · refine zr_sipush X (v := 500) dL_acts_357 (by decide) ?_
                  refine zr_goto X (tgt := 365) dL_acts_360 (by decide) ?_
                  refine zr_irem X dL_acts_365 (by decide) ?_
                  refine zr_iadd X dL_acts_366 ?_
                  refine zr_istore X (ls' := [(9, .int (1 + ((nI Y) - (nI Y) / 500 * 500))), (8, .int (nI M9)), (7, .int (nI W)), (6, .int (nI Y)), (0, .ref (w.2 (0))), (1, .ref (w.2 (132))), (2, .ref (w.2 (133))), (3, .ref (w.2 (134))), (4, .ref (w.2 (135))), (5, .int (z))]) dL_acts_367 (by decide) rfl ?_
                  obtain ⟨N, hN1, hN3, eN⟩ := nm_1 (Y := Y) (n := 500) (c := 1) (by omega) (by decide) (by decide)
                  rw [show (1 : Int32) + (nI Y - nI Y / 500 * 500) = nI N from eN]
                  have hN2 : N ≤ 500 := by omega
                  show G (w, 0, 0) (lW cy f s) [(9, .int (nI N)), (8, .int (nI M9)), (7, .int (nI W)), (6, .int (nI Y)), (0, .ref (w.2 (0))), (1, .ref (w.2 (132))), (2, .ref (w.2 (133))), (3, .ref (w.2 (134))), (4, .ref (w.2 (135))), (5, .int (z))] 369 []
                  refine zr_iload X 0 dL_acts_369 rfl ?_
                  refine zr_iload X 1 dL_acts_371 rfl ?_
                  refine zr_icmp_le X (tgt := 393) dL_acts_373 (by decide) (fun h49 => ?_) (fun h50 => ?_)
                  · refine zr_aload_n X 5 dL_acts_393 rfl rfl ?_
                    refine zr_iconst X (v := 5) dL_acts_394 (by decide) ?_
                    refine zr_dup2 X dL_acts_395 rfl rfl ?_
                    refine zr_lld X hw lr_g (5) (5) (rfl) (by decide) rfl dL_acts_396 ?_
                    refine zr_iload X 0 dL_acts_397 rfl ?_
                    refine zr_isub X dL_acts_399 ?_
                    refine zr_lst X hw lr_g (5) (5) (rfl) (by decide) rfl dL_acts_400 ?_
                    refine zr_aload_n X 5 dL_acts_401 rfl rfl ?_
                    refine zr_bipush X (v := 6) dL_acts_402 (by decide) ?_
                    refine zr_dup2 X dL_acts_404 rfl rfl ?_
                    refine zr_lld X hw lr_g (6) (6) (rfl) (by decide) rfl dL_acts_405 ?_
                    refine zr_iload X 0 dL_acts_406 rfl ?_
                    refine zr_isub X dL_acts_408 ?_
                    refine zr_lst X hw lr_g (6) (6) (rfl) (by decide) rfl dL_acts_409 ?_
                    refine zr_aload_n X 5 dL_acts_410 rfl rfl ?_
                    refine zr_bipush X (v := 14) dL_acts_411 (by decide) ?_
                    refine zr_dup2 X dL_acts_413 rfl rfl ?_
                    refine zr_lld X hw lr_g (14) (14) (rfl) (by decide) rfl dL_acts_414 ?_
                    refine zr_iload X 0 dL_acts_415 rfl ?_
                    refine zr_iadd X dL_acts_417 ?_
                    refine zr_lst X hw lr_g (14) (14) (rfl) (by decide) rfl dL_acts_418 ?_
                    refine zcw (f2 := lW cy f (dPy s (nI N))) rfl ?_
                    refine zr_aload_n X 4 dL_acts_419 rfl rfl ?_
                    refine zr_iload X 0 dL_acts_420 rfl ?_
                    refine zr_cVp X (As := [.int (nI N)]) (rest := []) zc_X8_pay (0) (show 0 < w.1 by rw [hw]; decide) ((lW_lo (by decide)).trans (CX_0 hX)) (q9 := _) rfl rfl (zSp.d (ca_pay  hw (CX_lW hX) (by omega)) (pa_d2 hN1 hN2 hM9 hM5 h49)) ⟨Nat.le_of_ble_eq_true rfl, Nat.le_of_ble_eq_true rfl⟩ ⟨Nat.le_refl _, Nat.le_refl _⟩ rfl (Nat.le_of_ble_eq_true rfl) zm_2_186 rfl dL_acts_422 (fun r9_21 g9_21 hp21 => ?_)
                    obtain ⟨rfl, hQ21, hF21⟩ := hp21
                    have hX21 : CX w cy g9_21 (B + 60) (dPy s (nI N)) := hQ21
                    refine zcw (f2 := lW cy g9_21 (dPy s (nI N))) (lW_back hF21) ?_
                    show G (w, 0, 0) (lW cy g9_21 (dPy s (nI N))) [(9, .int (nI N)), (8, .int (nI M9)), (7, .int (nI W)), (6, .int (nI Y)), (0, .ref (w.2 (0))), (1, .ref (w.2 (132))), (2, .ref (w.2 (133))), (3, .ref (w.2 (134))), (4, .ref (w.2 (135))), (5, .int (z))] 425 [.int ((dPy s (nI N)) 6)]
                    refine zr_aload_n X 5 dL_acts_425 rfl rfl ?_
                    refine zr_bipush X (v := 6) dL_acts_426 (by decide) ?_
                    refine zr_lld X hw lr_g (6) (6) (rfl) (by decide) rfl dL_acts_428 ?_
                    refine zr_icmp_ne X (tgt := 436) dL_acts_429 (by decide) (fun h => False.elim (h rfl)) (fun _ => ?_)
                    refine zr_iconst X (v := 1) dL_acts_432 (by decide) ?_
                    refine zr_goto X (tgt := 437) dL_acts_433 (by decide) ?_
                    exact zretp_z E rfl (Or.inr rfl) dL_acts_437 (aend (LX_mono (Kn.lx (B := B + 60) hX21 ((dPy_lo (by decide) (by decide) (by decide)).trans hm) hm4 ((dPy_lo (by decide) (by decide) (by decide)).trans hb) hb10 (jn_pay jn hm4 hb10 (pa_le hN2 hM9 hM5 h49).1 (pa_le hN2 hM9 hM5 h49).2)) (by omega)))
                  · refine zr_aload_n X 4 dL_acts_376 rfl rfl ?_
                    refine zr_iload X 0 dL_acts_377 rfl ?_
                    refine zr_cVp X (As := [.int (nI N)]) (rest := []) zc_X8_pay (0) (show 0 < w.1 by rw [hw]; decide) ((lW_lo (by decide)).trans (CX_0 hX)) (q9 := _) rfl rfl (zSp.d (ca_pay  hw (CX_lW hX) (by omega)) (pa_d1 hN1 hN2 hM9 hM5 h50)) ⟨Nat.le_of_ble_eq_true rfl, Nat.le_of_ble_eq_true rfl⟩ ⟨Nat.le_refl _, Nat.le_refl _⟩ rfl (Nat.le_of_ble_eq_true rfl) zm_2_186 rfl dL_acts_379 (fun r9_22 g9_22 hp22 => ?_)
                    obtain ⟨rfl, hQ22, hF22⟩ := hp22
                    have hX22 : CX w cy g9_22 (B + 60) (s) := hQ22
                    refine zcw (f2 := lW cy g9_22 s) (lW_back hF22) ?_
                    show G (w, 0, 0) (lW cy g9_22 s) [(9, .int (nI N)), (8, .int (nI M9)), (7, .int (nI W)), (6, .int (nI Y)), (0, .ref (w.2 (0))), (1, .ref (w.2 (132))), (2, .ref (w.2 (133))), (3, .ref (w.2 (134))), (4, .ref (w.2 (135))), (5, .int (z))] 382 [.int ((-1000002))]
                    refine zr_ldc X zm_2_151 dL_acts_382 ?_
                    refine zr_icmp_ne X (tgt := 391) dL_acts_384 (by decide) (fun h => False.elim (h rfl)) (fun _ => ?_)
                    refine zr_iconst X (v := 1) dL_acts_387 (by decide) ?_
                    refine zr_goto X (tgt := 392) dL_acts_388 (by decide) ?_
                    exact zretp_z E rfl (Or.inr rfl) dL_acts_392 (aend (LX_mono (Kn.lx (B := B + 60) hX22 hm hm4 hb hb10 jn) (by omega)))
              · refine zr_iconst X (v := 1) dL_acts_335 (by decide) ?_
                refine zr_iload X 2 dL_acts_336 rfl ?_
                refine zr_sipush X (v := 500) dL_acts_338 (by decide) ?_
                refine zr_irem X dL_acts_341 (by decide) ?_
                refine zr_iadd X dL_acts_342 ?_
                refine zr_goto X (tgt := 367) dL_acts_343 (by decide) ?_
                refine zr_istore X (ls' := [(9, .int (1 + ((nI Y) - (nI Y) / 500 * 500))), (8, .int (nI M9)), (7, .int (nI W)), (6, .int (nI Y)), (0, .ref (w.2 (0))), (1, .ref (w.2 (132))), (2, .ref (w.2 (133))), (3, .ref (w.2 (134))), (4, .ref (w.2 (135))), (5, .int (z))]) dL_acts_367 (by decide) rfl ?_
                obtain ⟨N, hN1, hN3, eN⟩ := nm_1 (Y := Y) (n := 500) (c := 1) (by omega) (by decide) (by decide)
                rw [show (1 : Int32) + (nI Y - nI Y / 500 * 500) = nI N from eN]
                have hN2 : N ≤ 500 := by omega
                show G (w, 0, 0) (lW cy f s) [(9, .int (nI N)), (8, .int (nI M9)), (7, .int (nI W)), (6, .int (nI Y)), (0, .ref (w.2 (0))), (1, .ref (w.2 (132))), (2, .ref (w.2 (133))), (3, .ref (w.2 (134))), (4, .ref (w.2 (135))), (5, .int (z))] 369 []
                refine zr_iload X 0 dL_acts_369 rfl ?_
                refine zr_iload X 1 dL_acts_371 rfl ?_
                refine zr_icmp_le X (tgt := 393) dL_acts_373 (by decide) (fun h51 => ?_) (fun h52 => ?_)
                · refine zr_aload_n X 5 dL_acts_393 rfl rfl ?_
                  refine zr_iconst X (v := 5) dL_acts_394 (by decide) ?_
                  refine zr_dup2 X dL_acts_395 rfl rfl ?_
                  refine zr_lld X hw lr_g (5) (5) (rfl) (by decide) rfl dL_acts_396 ?_
                  refine zr_iload X 0 dL_acts_397 rfl ?_
                  refine zr_isub X dL_acts_399 ?_
                  refine zr_lst X hw lr_g (5) (5) (rfl) (by decide) rfl dL_acts_400 ?_
                  refine zr_aload_n X 5 dL_acts_401 rfl rfl ?_
                  refine zr_bipush X (v := 6) dL_acts_402 (by decide) ?_
                  refine zr_dup2 X dL_acts_404 rfl rfl ?_
                  refine zr_lld X hw lr_g (6) (6) (rfl) (by decide) rfl dL_acts_405 ?_
                  refine zr_iload X 0 dL_acts_406 rfl ?_
                  refine zr_isub X dL_acts_408 ?_
                  refine zr_lst X hw lr_g (6) (6) (rfl) (by decide) rfl dL_acts_409 ?_
                  refine zr_aload_n X 5 dL_acts_410 rfl rfl ?_
                  refine zr_bipush X (v := 14) dL_acts_411 (by decide) ?_
                  refine zr_dup2 X dL_acts_413 rfl rfl ?_
                  refine zr_lld X hw lr_g (14) (14) (rfl) (by decide) rfl dL_acts_414 ?_
                  refine zr_iload X 0 dL_acts_415 rfl ?_
                  refine zr_iadd X dL_acts_417 ?_
                  refine zr_lst X hw lr_g (14) (14) (rfl) (by decide) rfl dL_acts_418 ?_
                  refine zcw (f2 := lW cy f (dPy s (nI N))) rfl ?_
                  refine zr_aload_n X 4 dL_acts_419 rfl rfl ?_
                  refine zr_iload X 0 dL_acts_420 rfl ?_
                  refine zr_cVp X (As := [.int (nI N)]) (rest := []) zc_X8_pay (0) (show 0 < w.1 by rw [hw]; decide) ((lW_lo (by decide)).trans (CX_0 hX)) (q9 := _) rfl rfl (zSp.d (ca_pay  hw (CX_lW hX) (by omega)) (pa_d2 hN1 hN2 hM9 hM5 h51)) ⟨Nat.le_of_ble_eq_true rfl, Nat.le_of_ble_eq_true rfl⟩ ⟨Nat.le_refl _, Nat.le_refl _⟩ rfl (Nat.le_of_ble_eq_true rfl) zm_2_186 rfl dL_acts_422 (fun r9_23 g9_23 hp23 => ?_)
                  obtain ⟨rfl, hQ23, hF23⟩ := hp23
                  have hX23 : CX w cy g9_23 (B + 60) (dPy s (nI N)) := hQ23
                  refine zcw (f2 := lW cy g9_23 (dPy s (nI N))) (lW_back hF23) ?_
                  show G (w, 0, 0) (lW cy g9_23 (dPy s (nI N))) [(9, .int (nI N)), (8, .int (nI M9)), (7, .int (nI W)), (6, .int (nI Y)), (0, .ref (w.2 (0))), (1, .ref (w.2 (132))), (2, .ref (w.2 (133))), (3, .ref (w.2 (134))), (4, .ref (w.2 (135))), (5, .int (z))] 425 [.int ((dPy s (nI N)) 6)]
                  refine zr_aload_n X 5 dL_acts_425 rfl rfl ?_
                  refine zr_bipush X (v := 6) dL_acts_426 (by decide) ?_
                  refine zr_lld X hw lr_g (6) (6) (rfl) (by decide) rfl dL_acts_428 ?_
                  refine zr_icmp_ne X (tgt := 436) dL_acts_429 (by decide) (fun h => False.elim (h rfl)) (fun _ => ?_)
                  refine zr_iconst X (v := 1) dL_acts_432 (by decide) ?_
                  refine zr_goto X (tgt := 437) dL_acts_433 (by decide) ?_
                  exact zretp_z E rfl (Or.inr rfl) dL_acts_437 (aend (LX_mono (Kn.lx (B := B + 60) hX23 ((dPy_lo (by decide) (by decide) (by decide)).trans hm) hm4 ((dPy_lo (by decide) (by decide) (by decide)).trans hb) hb10 (jn_pay jn hm4 hb10 (pa_le hN2 hM9 hM5 h51).1 (pa_le hN2 hM9 hM5 h51).2)) (by omega)))
                · refine zr_aload_n X 4 dL_acts_376 rfl rfl ?_
                  refine zr_iload X 0 dL_acts_377 rfl ?_
                  refine zr_cVp X (As := [.int (nI N)]) (rest := []) zc_X8_pay (0) (show 0 < w.1 by rw [hw]; decide) ((lW_lo (by decide)).trans (CX_0 hX)) (q9 := _) rfl rfl (zSp.d (ca_pay  hw (CX_lW hX) (by omega)) (pa_d1 hN1 hN2 hM9 hM5 h52)) ⟨Nat.le_of_ble_eq_true rfl, Nat.le_of_ble_eq_true rfl⟩ ⟨Nat.le_refl _, Nat.le_refl _⟩ rfl (Nat.le_of_ble_eq_true rfl) zm_2_186 rfl dL_acts_379 (fun r9_24 g9_24 hp24 => ?_)
                  obtain ⟨rfl, hQ24, hF24⟩ := hp24
                  have hX24 : CX w cy g9_24 (B + 60) (s) := hQ24
                  refine zcw (f2 := lW cy g9_24 s) (lW_back hF24) ?_
                  show G (w, 0, 0) (lW cy g9_24 s) [(9, .int (nI N)), (8, .int (nI M9)), (7, .int (nI W)), (6, .int (nI Y)), (0, .ref (w.2 (0))), (1, .ref (w.2 (132))), (2, .ref (w.2 (133))), (3, .ref (w.2 (134))), (4, .ref (w.2 (135))), (5, .int (z))] 382 [.int ((-1000002))]
                  refine zr_ldc X zm_2_151 dL_acts_382 ?_
                  refine zr_icmp_ne X (tgt := 391) dL_acts_384 (by decide) (fun h => False.elim (h rfl)) (fun _ => ?_)
                  refine zr_iconst X (v := 1) dL_acts_387 (by decide) ?_
                  refine zr_goto X (tgt := 392) dL_acts_388 (by decide) ?_
                  exact zretp_z E rfl (Or.inr rfl) dL_acts_392 (aend (LX_mono (Kn.lx (B := B + 60) hX24 hm hm4 hb hb10 jn) (by omega)))
      · refine zr_aload_n X 3 dL_acts_219 rfl rfl ?_
        refine zr_iconst X (v := 1) dL_acts_220 (by decide) ?_
        refine zr_lld X hw lr_g (1) (1) (rfl) (by decide) rfl dL_acts_221 ?_
        refine zr_if_ne X (tgt := 241) dL_acts_222 (by decide) (fun h53 => ?_) (fun h54 => ?_)
        · refine zr_aload_n X 5 dL_acts_241 rfl rfl ?_
          refine zr_bipush X (v := 6) dL_acts_242 (by decide) ?_
          refine zr_iload X 1 dL_acts_244 rfl ?_
          refine zr_aload_n X 3 dL_acts_246 rfl rfl ?_
          refine zr_iconst X (v := 1) dL_acts_247 (by decide) ?_
          refine zr_lld X hw lr_g (1) (1) (rfl) (by decide) rfl dL_acts_248 ?_
          refine zr_irem X dL_acts_249 (h53) ?_
          obtain ⟨q, hq, eq9⟩ := nm_mo (Y := Y) (by omega) hb (by omega) h53
          rw [eq9]
          show G (w, 0, 0) (lW cy f s) [(7, .int (nI W)), (6, .int (nI Y)), (0, .ref (w.2 (0))), (1, .ref (w.2 (132))), (2, .ref (w.2 (133))), (3, .ref (w.2 (134))), (4, .ref (w.2 (135))), (5, .int (z))] 250 [.int (nI q), .int (6), .ref (w.2 (134))]
          refine zr_imul X dL_acts_250 ?_
          refine zr_lld X hw lr_p (6 * q) (55 + 6 * q) (nI_ml (c := 6)) (by omega) (by omega) dL_acts_251 ?_
          refine zr_istore X (ls' := [(8, .int (s (55 + 6 * q))), (7, .int (nI W)), (6, .int (nI Y)), (0, .ref (w.2 (0))), (1, .ref (w.2 (132))), (2, .ref (w.2 (133))), (3, .ref (w.2 (134))), (4, .ref (w.2 (135))), (5, .int (z))]) dL_acts_252 (by decide) rfl ?_
          refine zr_aload_n X 4 dL_acts_254 rfl rfl ?_
          refine zr_aload_n X 6 dL_acts_255 rfl rfl ?_
          refine zr_iload X 2 dL_acts_256 rfl ?_
          refine zr_aload_n X 4 dL_acts_258 rfl rfl ?_
          refine zr_iconst X (v := 1) dL_acts_259 (by decide) ?_
          refine zr_lld X hw lr_g (1) (1) (rfl) (by decide) rfl dL_acts_260 ?_
          refine zr_irem X dL_acts_261 (h53) ?_
          rw [eq9]
          show G (w, 0, 0) (lW cy f s) [(8, .int (s (55 + 6 * q))), (7, .int (nI W)), (6, .int (nI Y)), (0, .ref (w.2 (0))), (1, .ref (w.2 (132))), (2, .ref (w.2 (133))), (3, .ref (w.2 (134))), (4, .ref (w.2 (135))), (5, .int (z))] 262 [.int (nI q), .ref (w.2 (134)), .ref (w.2 (132))]
          refine zr_cS X (As := [.ref (w.2 (132)), .ref (w.2 (134)), .int (nI q)]) (rest := []) (f' := lW cy f (dGo s q (bk - 1))) (st' := []) zc_L_goes (kl_goes (k := q) (b := bk - 1) hw (by rw [show bk - 1 + 1 = bk by omega]; exact hb) (by omega) (by omega)) ⟨Nat.le_of_ble_eq_true rfl, Nat.le_of_ble_eq_true rfl⟩ ⟨Nat.le_refl _, Nat.le_refl _⟩ rfl (Nat.le_of_ble_eq_true rfl) zm_2_183 rfl dL_acts_262 rfl ?_
          refine zr_aload_n X 3 dL_acts_265 rfl rfl ?_
          refine zr_iload X 0 dL_acts_266 rfl ?_
          refine zr_cVp X (As := [.int (s (55 + 6 * q))]) (rest := []) zc_X8_off (0) (show 0 < w.1 by rw [hw]; decide) ((lW_lo (by decide)).trans (CX_0 hX)) (q9 := _) rfl rfl (zSp.d (ca_off bk hb hb10 hw (CX_lW hX) (by omega)) (of_d1 hq hb10 jn.2.1)) ⟨Nat.le_of_ble_eq_true rfl, Nat.le_of_ble_eq_true rfl⟩ ⟨Nat.le_refl _, Nat.le_refl _⟩ rfl (Nat.le_of_ble_eq_true rfl) zm_2_167 rfl dL_acts_268 (fun r9_25 g9_25 hp25 => ?_)
          obtain ⟨rfl, hQ25, hF25⟩ := hp25
          have hX25 : CX w cy g9_25 (B + 60) (dGo s q (bk - 1)) := hQ25
          refine zcw (f2 := lW cy g9_25 (dGo s q (bk - 1))) (lW_back hF25) ?_
          show G (w, 0, 0) (lW cy g9_25 (dGo s q (bk - 1))) [(8, .int (s (55 + 6 * q))), (7, .int (nI W)), (6, .int (nI Y)), (0, .ref (w.2 (0))), (1, .ref (w.2 (132))), (2, .ref (w.2 (133))), (3, .ref (w.2 (134))), (4, .ref (w.2 (135))), (5, .int (z))] 271 [.int ((dGo s q (bk - 1)) 1)]
          refine zr_aload_n X 4 dL_acts_271 rfl rfl ?_
          refine zr_iconst X (v := 1) dL_acts_272 (by decide) ?_
          refine zr_lld X hw lr_g (1) (1) (rfl) (by decide) rfl dL_acts_273 ?_
          refine zr_icmp_ne X (tgt := 292) dL_acts_274 (by decide) (fun h => False.elim (h rfl)) (fun _ => ?_)
          refine zr_aload_n X 3 dL_acts_277 rfl rfl ?_
          refine zr_iload X 0 dL_acts_278 rfl ?_
          refine zr_cVp X (As := [.int (s (55 + 6 * q))]) (rest := []) zc_X8_off (0) (show 0 < w.1 by rw [hw]; decide) ((lW_lo (by decide)).trans (CX_0 hX25)) (q9 := _) rfl rfl (zSp.d (ca_off (bk - 1) dGo_1 (by omega) hw (CX_lW hX25) (by omega)) (of_d2 hq hb10 jn.2.1)) ⟨Nat.le_of_ble_eq_true rfl, Nat.le_of_ble_eq_true rfl⟩ ⟨Nat.le_refl _, Nat.le_refl _⟩ rfl (Nat.le_of_ble_eq_true rfl) zm_2_167 rfl dL_acts_280 (fun r9_26 g9_26 hp26 => ?_)
          obtain ⟨rfl, hQ26, hF26⟩ := hp26
          have hX26 : CX w cy g9_26 (B + 60 + 60) (dGo s q (bk - 1)) := hQ26
          refine zcw (f2 := lW cy g9_26 (dGo s q (bk - 1))) (lW_back hF26) ?_
          show G (w, 0, 0) (lW cy g9_26 (dGo s q (bk - 1))) [(8, .int (s (55 + 6 * q))), (7, .int (nI W)), (6, .int (nI Y)), (0, .ref (w.2 (0))), (1, .ref (w.2 (132))), (2, .ref (w.2 (133))), (3, .ref (w.2 (134))), (4, .ref (w.2 (135))), (5, .int (z))] 283 [.int ((-1000001))]
          refine zr_ldc X zm_2_142 dL_acts_283 ?_
          refine zr_icmp_ne X (tgt := 292) dL_acts_285 (by decide) (fun h => False.elim (h rfl)) (fun _ => ?_)
          refine zr_iconst X (v := 1) dL_acts_288 (by decide) ?_
          refine zr_goto X (tgt := 293) dL_acts_289 (by decide) ?_
          exact zretp_z E rfl (Or.inr rfl) dL_acts_293 (aend (LX_mono (Kn.lx (B := B + 60 + 60) hX26 ((dGo_lo (by decide) (by decide)).trans hm) hm4 (bk := bk - 1) dGo_1 (by omega) (jn_off jn hm4 hb10 hq)) (by omega)))
        · refine zr_aload_n X 2 dL_acts_225 rfl rfl ?_
          refine zr_iconst X (v := 0) dL_acts_226 (by decide) ?_
          refine zr_cVp X (As := [.int (0)]) (rest := []) zc_X8_off (0) (show 0 < w.1 by rw [hw]; decide) ((lW_lo (by decide)).trans (CX_0 hX)) (q9 := _) rfl rfl (zSp.d (ca_off bk hb hb10 hw (CX_lW hX) (by omega)) (of_d0 hb hb10 h54)) ⟨Nat.le_of_ble_eq_true rfl, Nat.le_of_ble_eq_true rfl⟩ ⟨Nat.le_refl _, Nat.le_refl _⟩ rfl (Nat.le_of_ble_eq_true rfl) zm_2_167 rfl dL_acts_227 (fun r9_27 g9_27 hp27 => ?_)
          obtain ⟨rfl, hQ27, hF27⟩ := hp27
          have hX27 : CX w cy g9_27 (B + 60) (s) := hQ27
          refine zcw (f2 := lW cy g9_27 s) (lW_back hF27) ?_
          show G (w, 0, 0) (lW cy g9_27 s) [(7, .int (nI W)), (6, .int (nI Y)), (0, .ref (w.2 (0))), (1, .ref (w.2 (132))), (2, .ref (w.2 (133))), (3, .ref (w.2 (134))), (4, .ref (w.2 (135))), (5, .int (z))] 230 [.int ((-1000001))]
          refine zr_ldc X zm_2_142 dL_acts_230 ?_
          refine zr_icmp_ne X (tgt := 239) dL_acts_232 (by decide) (fun h => False.elim (h rfl)) (fun _ => ?_)
          refine zr_iconst X (v := 1) dL_acts_235 (by decide) ?_
          refine zr_goto X (tgt := 240) dL_acts_236 (by decide) ?_
          exact zretp_z E rfl (Or.inr rfl) dL_acts_240 (aend (LX_mono (Kn.lx (B := B + 60) hX27 hm hm4 hb hb10 jn) (by omega)))
    · refine zr_iconst X (v := 1) dL_acts_45 (by decide) ?_
      refine zr_iload X 1 dL_acts_46 rfl ?_
      refine zr_bipush X (v := 12) dL_acts_48 (by decide) ?_
      refine zr_irem X dL_acts_50 (by decide) ?_
      refine zr_iadd X dL_acts_51 ?_
      refine zr_istore X (ls' := [(8, .int (1 + ((nI Y) - (nI Y) / 12 * 12))), (7, .int (nI W)), (6, .int (nI Y)), (0, .ref (w.2 (0))), (1, .ref (w.2 (132))), (2, .ref (w.2 (133))), (3, .ref (w.2 (134))), (4, .ref (w.2 (135))), (5, .int (z))]) dL_acts_52 (by decide) rfl ?_
      obtain ⟨A, hA1, hA2, eA⟩ := nm_1 (Y := Y) (n := 12) (c := 1) (by omega) (by decide) (by decide)
      rw [show (1 : Int32) + (nI Y - nI Y / 12 * 12) = nI A from eA]
      show G (w, 0, 0) (lW cy f s) [(8, .int (nI A)), (7, .int (nI W)), (6, .int (nI Y)), (0, .ref (w.2 (0))), (1, .ref (w.2 (132))), (2, .ref (w.2 (133))), (3, .ref (w.2 (134))), (4, .ref (w.2 (135))), (5, .int (z))] 54 []
      refine zr_iload X 2 dL_acts_54 rfl ?_
      refine zr_bipush X (v := 12) dL_acts_56 (by decide) ?_
      refine zr_idiv X dL_acts_58 (by decide) ?_
      refine zr_iload X 2 dL_acts_59 rfl ?_
      refine zr_iconst X (v := 5) dL_acts_61 (by decide) ?_
      refine zr_irem X dL_acts_62 (by decide) ?_
      refine zr_if_ne X (tgt := 71) dL_acts_63 (by decide) (fun h55 => ?_) (fun h56 => ?_)
      · refine zr_bipush X (v := 8) dL_acts_71 (by decide) ?_
        refine zr_irem X dL_acts_73 (by decide) ?_
        refine zr_istore X (ls' := [(9, .int (((nI Y) / 12) - ((nI Y) / 12) / 8 * 8)), (8, .int (nI A)), (7, .int (nI W)), (6, .int (nI Y)), (0, .ref (w.2 (0))), (1, .ref (w.2 (132))), (2, .ref (w.2 (133))), (3, .ref (w.2 (134))), (4, .ref (w.2 (135))), (5, .int (z))]) dL_acts_74 (by decide) rfl ?_
        obtain ⟨C, hC, eC⟩ := nm_3 (Y := Y) (d := 12) (n := 8) (by omega) (by decide) (by decide) (by decide) (by decide)
        rw [show nI Y / 12 - nI Y / 12 / 8 * 8 = nI C from eC]
        show G (w, 0, 0) (lW cy f s) [(9, .int (nI C)), (8, .int (nI A)), (7, .int (nI W)), (6, .int (nI Y)), (0, .ref (w.2 (0))), (1, .ref (w.2 (132))), (2, .ref (w.2 (133))), (3, .ref (w.2 (134))), (4, .ref (w.2 (135))), (5, .int (z))] 76 []
        refine zr_iconst X (v := 1) dL_acts_76 (by decide) ?_
        refine zr_iload X 3 dL_acts_77 rfl ?_
        refine zr_bipush X (v := 7) dL_acts_79 (by decide) ?_
        refine zr_idiv X dL_acts_81 (by decide) ?_
        refine zr_bipush X (v := 9) dL_acts_82 (by decide) ?_
        refine zr_irem X dL_acts_84 (by decide) ?_
        refine zr_iadd X dL_acts_85 ?_
        refine zr_istore X (ls' := [(10, .int (1 + (((nI Y) / 7) - ((nI Y) / 7) / 9 * 9))), (9, .int (nI C)), (8, .int (nI A)), (7, .int (nI W)), (6, .int (nI Y)), (0, .ref (w.2 (0))), (1, .ref (w.2 (132))), (2, .ref (w.2 (133))), (3, .ref (w.2 (134))), (4, .ref (w.2 (135))), (5, .int (z))]) dL_acts_86 (by decide) rfl ?_
        obtain ⟨N, hN1, hN2, eN⟩ := nm_2 (Y := Y) (d := 7) (n := 9) (c := 1) (by omega) (by decide) (by decide) (by decide) (by decide)
        rw [show (1 : Int32) + (nI Y / 7 - nI Y / 7 / 9 * 9) = nI N from eN]
        show G (w, 0, 0) (lW cy f s) [(10, .int (nI N)), (9, .int (nI C)), (8, .int (nI A)), (7, .int (nI W)), (6, .int (nI Y)), (0, .ref (w.2 (0))), (1, .ref (w.2 (132))), (2, .ref (w.2 (133))), (3, .ref (w.2 (134))), (4, .ref (w.2 (135))), (5, .int (z))] 88 []
        refine zr_aload_n X 6 dL_acts_88 rfl rfl ?_
        refine zr_iconst X (v := 1) dL_acts_89 (by decide) ?_
        refine zr_lld X hw lr_g (1) (1) (rfl) (by decide) rfl dL_acts_90 ?_
        refine zr_bipush X (v := 10) dL_acts_91 (by decide) ?_
        refine zr_icmp_ne X (tgt := 117) dL_acts_93 (by decide) (fun h57 => ?_) (fun h58 => ?_)
        · refine zr_bipush X (v := 6) dL_acts_117 (by decide) ?_
          refine zr_aload_n X 6 dL_acts_119 rfl rfl ?_
          refine zr_iconst X (v := 1) dL_acts_120 (by decide) ?_
          refine zr_lld X hw lr_g (1) (1) (rfl) (by decide) rfl dL_acts_121 ?_
          refine zr_imul X dL_acts_122 ?_
          refine zr_istore X (ls' := [(11, .int (6 * (s 1))), (10, .int (nI N)), (9, .int (nI C)), (8, .int (nI A)), (7, .int (nI W)), (6, .int (nI Y)), (0, .ref (w.2 (0))), (1, .ref (w.2 (132))), (2, .ref (w.2 (133))), (3, .ref (w.2 (134))), (4, .ref (w.2 (135))), (5, .int (z))]) dL_acts_123 (by decide) rfl ?_
          have hb9 := bcl hb hb10 h57
          rw [hb, show (6 : Int32) * nI bk = nI (6 * bk) from nI_ml (c := 6)]
          show G (w, 0, 0) (lW cy f s) [(11, .int (nI (6 * bk))), (10, .int (nI N)), (9, .int (nI C)), (8, .int (nI A)), (7, .int (nI W)), (6, .int (nI Y)), (0, .ref (w.2 (0))), (1, .ref (w.2 (132))), (2, .ref (w.2 (133))), (3, .ref (w.2 (134))), (4, .ref (w.2 (135))), (5, .int (z))] 125 []
          refine zr_aload_n X 9 dL_acts_125 rfl rfl ?_
          refine zr_iload X 0 dL_acts_126 rfl ?_
          refine zr_aload_n X 7 dL_acts_128 rfl rfl ?_
          refine zr_iconst X (v := 2) dL_acts_129 (by decide) ?_
          refine zr_lld X hw lr_g (2) (2) (rfl) (by decide) rfl dL_acts_130 ?_
          refine zr_lst X hw lr_p (6 * bk) (55 + 6 * bk) (rfl) (by omega) (by omega) dL_acts_131 ?_
          refine zr_aload_n X 9 dL_acts_132 rfl rfl ?_
          refine zr_iload X 0 dL_acts_133 rfl ?_
          refine zr_iconst X (v := 1) dL_acts_135 (by decide) ?_
          refine zr_iadd X dL_acts_136 ?_
          refine zr_iload X 3 dL_acts_137 rfl ?_
          refine zr_lst X hw lr_p (6 * bk + 1) (55 + 6 * bk + 1) (nI_add _ 1) (by omega) (by omega) dL_acts_139 ?_
          refine zr_aload_n X 9 dL_acts_140 rfl rfl ?_
          refine zr_iload X 0 dL_acts_141 rfl ?_
          refine zr_iconst X (v := 2) dL_acts_143 (by decide) ?_
          refine zr_iadd X dL_acts_144 ?_
          refine zr_aload_n X 7 dL_acts_145 rfl rfl ?_
          refine zr_iconst X (v := 3) dL_acts_146 (by decide) ?_
          refine zr_lld X hw lr_g (3) (3) (rfl) (by decide) rfl dL_acts_147 ?_
          refine zr_iload X 2 dL_acts_148 rfl ?_
          refine zr_iadd X dL_acts_150 ?_
          refine zr_lst X hw lr_p (6 * bk + 2) (55 + 6 * bk + 2) (nI_add _ 2) (by omega) (by omega) dL_acts_151 ?_
          refine zr_aload_n X 9 dL_acts_152 rfl rfl ?_
          refine zr_iload X 0 dL_acts_153 rfl ?_
          refine zr_iconst X (v := 3) dL_acts_155 (by decide) ?_
          refine zr_iadd X dL_acts_156 ?_
          refine zr_iload X 1 dL_acts_157 rfl ?_
          refine zr_lst X hw lr_p (6 * bk + 3) (55 + 6 * bk + 3) (nI_add _ 3) (by omega) (by omega) dL_acts_159 ?_
          refine zr_aload_n X 9 dL_acts_160 rfl rfl ?_
          refine zr_iload X 0 dL_acts_161 rfl ?_
          refine zr_iconst X (v := 4) dL_acts_163 (by decide) ?_
          refine zr_iadd X dL_acts_164 ?_
          refine zr_iconst X (v := 0) dL_acts_165 (by decide) ?_
          refine zr_lst X hw lr_p (6 * bk + 4) (55 + 6 * bk + 4) (nI_add _ 4) (by omega) (by omega) dL_acts_166 ?_
          refine zr_aload_n X 9 dL_acts_167 rfl rfl ?_
          refine zr_iload X 0 dL_acts_168 rfl ?_
          refine zr_iconst X (v := 5) dL_acts_170 (by decide) ?_
          refine zr_iadd X dL_acts_171 ?_
          refine zr_iconst X (v := 0) dL_acts_172 (by decide) ?_
          refine zr_lst X hw lr_p (6 * bk + 5) (55 + 6 * bk + 5) (nI_add _ 5) (by omega) (by omega) dL_acts_173 ?_
          refine zr_aload_n X 7 dL_acts_174 rfl rfl ?_
          refine zr_iconst X (v := 1) dL_acts_175 (by decide) ?_
          refine zr_dup2 X dL_acts_176 rfl rfl ?_
          refine zr_lld X hw lr_g (1) (1) (rfl) (by decide) rfl dL_acts_177 ?_
          refine zr_iconst X (v := 1) dL_acts_178 (by decide) ?_
          refine zr_iadd X dL_acts_179 ?_
          refine zr_lst X hw lr_g (1) (1) (rfl) (by decide) rfl dL_acts_180 ?_
          refine zr_aload_n X 7 dL_acts_181 rfl rfl ?_
          refine zr_iconst X (v := 2) dL_acts_182 (by decide) ?_
          refine zr_dup2 X dL_acts_183 rfl rfl ?_
          refine zr_lld X hw lr_g (2) (2) (rfl) (by decide) rfl dL_acts_184 ?_
          refine zr_iconst X (v := 1) dL_acts_185 (by decide) ?_
          refine zr_iadd X dL_acts_186 ?_
          refine zr_lst X hw lr_g (2) (2) (rfl) (by decide) rfl dL_acts_187 ?_
          refine zcw (f2 := lW cy f (dGr s bk (nI A) (nI C) (nI N))) rfl ?_
          refine zr_aload_n X 6 dL_acts_188 rfl rfl ?_
          refine zr_iload X 3 dL_acts_189 rfl ?_
          refine zr_iload X 2 dL_acts_191 rfl ?_
          refine zr_iload X 1 dL_acts_193 rfl ?_
          refine zr_cVp X (As := [.int (nI A), .int (nI C), .int (nI N)]) (rest := []) zc_X8_group (0) (show 0 < w.1 by rw [hw]; decide) ((lW_lo (by decide)).trans (CX_0 hX)) (q9 := _) rfl rfl (zSp.d (ca_group bk hb hb10 hw (CX_lW hX) (by omega)) (gr_d2 hA1 hA2 (by omega) hN1 (by omega) h57)) ⟨Nat.le_of_ble_eq_true rfl, Nat.le_of_ble_eq_true rfl⟩ ⟨Nat.le_refl _, Nat.le_refl _⟩ rfl (Nat.le_of_ble_eq_true rfl) zm_2_155 rfl dL_acts_195 (fun r9_28 g9_28 hp28 => ?_)
          obtain ⟨rfl, hQ28, hF28⟩ := hp28
          have hX28 : CX w cy g9_28 (B + 60) (dGr s bk (nI A) (nI C) (nI N)) := hQ28
          refine zcw (f2 := lW cy g9_28 (dGr s bk (nI A) (nI C) (nI N))) (lW_back hF28) ?_
          show G (w, 0, 0) (lW cy g9_28 (dGr s bk (nI A) (nI C) (nI N))) [(11, .int (nI (6 * bk))), (10, .int (nI N)), (9, .int (nI C)), (8, .int (nI A)), (7, .int (nI W)), (6, .int (nI Y)), (0, .ref (w.2 (0))), (1, .ref (w.2 (132))), (2, .ref (w.2 (133))), (3, .ref (w.2 (134))), (4, .ref (w.2 (135))), (5, .int (z))] 198 [.int ((dGr s bk (nI A) (nI C) (nI N)) 2 - 1)]
          refine zr_aload_n X 7 dL_acts_198 rfl rfl ?_
          refine zr_iconst X (v := 2) dL_acts_199 (by decide) ?_
          refine zr_lld X hw lr_g (2) (2) (rfl) (by decide) rfl dL_acts_200 ?_
          refine zr_iconst X (v := 1) dL_acts_201 (by decide) ?_
          refine zr_isub X dL_acts_202 ?_
          refine zr_icmp_ne X (tgt := 210) dL_acts_203 (by decide) (fun h => False.elim (h rfl)) (fun _ => ?_)
          refine zr_iconst X (v := 1) dL_acts_206 (by decide) ?_
          refine zr_goto X (tgt := 211) dL_acts_207 (by decide) ?_
          exact zretp_z E rfl (Or.inr rfl) dL_acts_211 (aend (LX_mono (Kn.lx (B := B + 60) hX28 ((dGr_out (by omega) (by decide) (by decide)).trans hm) hm4 (bk := bk + 1) (by rw [dGr_1.1, hb]; exact nI_1 bk) (bcl hb hb10 h57) (jn_group jn hm4 (bcl hb hb10 h57) (v.2.2.2.2.2.2.2 (by omega)).1 (by have := (v.2.2.2.2.2.2.2 (by omega)).2; omega))) (by omega)))
        · refine zr_aload_n X 5 dL_acts_96 rfl rfl ?_
          refine zr_iload X 2 dL_acts_97 rfl ?_
          refine zr_iload X 1 dL_acts_99 rfl ?_
          refine zr_iload X 0 dL_acts_101 rfl ?_
          refine zr_cVp X (As := [.int (nI A), .int (nI C), .int (nI N)]) (rest := []) zc_X8_group (0) (show 0 < w.1 by rw [hw]; decide) ((lW_lo (by decide)).trans (CX_0 hX)) (q9 := _) rfl rfl (zSp.d (ca_group bk hb hb10 hw (CX_lW hX) (by omega)) (gr_d1 hA1 hA2 (by omega) hN1 (by omega) h58)) ⟨Nat.le_of_ble_eq_true rfl, Nat.le_of_ble_eq_true rfl⟩ ⟨Nat.le_refl _, Nat.le_refl _⟩ rfl (Nat.le_of_ble_eq_true rfl) zm_2_155 rfl dL_acts_103 (fun r9_29 g9_29 hp29 => ?_)
          obtain ⟨rfl, hQ29, hF29⟩ := hp29
          have hX29 : CX w cy g9_29 (B + 60) (s) := hQ29
          refine zcw (f2 := lW cy g9_29 s) (lW_back hF29) ?_
          show G (w, 0, 0) (lW cy g9_29 s) [(10, .int (nI N)), (9, .int (nI C)), (8, .int (nI A)), (7, .int (nI W)), (6, .int (nI Y)), (0, .ref (w.2 (0))), (1, .ref (w.2 (132))), (2, .ref (w.2 (133))), (3, .ref (w.2 (134))), (4, .ref (w.2 (135))), (5, .int (z))] 106 [.int ((-1000003))]
          refine zr_ldc X zm_2_124 dL_acts_106 ?_
          refine zr_icmp_ne X (tgt := 115) dL_acts_108 (by decide) (fun h => False.elim (h rfl)) (fun _ => ?_)
          refine zr_iconst X (v := 1) dL_acts_111 (by decide) ?_
          refine zr_goto X (tgt := 116) dL_acts_112 (by decide) ?_
          exact zretp_z E rfl (Or.inr rfl) dL_acts_116 (aend (LX_mono (Kn.lx (B := B + 60) hX29 hm hm4 hb hb10 jn) (by omega)))
      · refine zr_bipush X (v := 61) dL_acts_66 (by decide) ?_
        refine zr_goto X (tgt := 73) dL_acts_68 (by decide) ?_
        refine zr_irem X dL_acts_73 (by decide) ?_
        refine zr_istore X (ls' := [(9, .int (((nI Y) / 12) - ((nI Y) / 12) / 61 * 61)), (8, .int (nI A)), (7, .int (nI W)), (6, .int (nI Y)), (0, .ref (w.2 (0))), (1, .ref (w.2 (132))), (2, .ref (w.2 (133))), (3, .ref (w.2 (134))), (4, .ref (w.2 (135))), (5, .int (z))]) dL_acts_74 (by decide) rfl ?_
        obtain ⟨C, hC, eC⟩ := nm_3 (Y := Y) (d := 12) (n := 61) (by omega) (by decide) (by decide) (by decide) (by decide)
        rw [show nI Y / 12 - nI Y / 12 / 61 * 61 = nI C from eC]
        show G (w, 0, 0) (lW cy f s) [(9, .int (nI C)), (8, .int (nI A)), (7, .int (nI W)), (6, .int (nI Y)), (0, .ref (w.2 (0))), (1, .ref (w.2 (132))), (2, .ref (w.2 (133))), (3, .ref (w.2 (134))), (4, .ref (w.2 (135))), (5, .int (z))] 76 []
        refine zr_iconst X (v := 1) dL_acts_76 (by decide) ?_
        refine zr_iload X 3 dL_acts_77 rfl ?_
        refine zr_bipush X (v := 7) dL_acts_79 (by decide) ?_
        refine zr_idiv X dL_acts_81 (by decide) ?_
        refine zr_bipush X (v := 9) dL_acts_82 (by decide) ?_
        refine zr_irem X dL_acts_84 (by decide) ?_
        refine zr_iadd X dL_acts_85 ?_
        refine zr_istore X (ls' := [(10, .int (1 + (((nI Y) / 7) - ((nI Y) / 7) / 9 * 9))), (9, .int (nI C)), (8, .int (nI A)), (7, .int (nI W)), (6, .int (nI Y)), (0, .ref (w.2 (0))), (1, .ref (w.2 (132))), (2, .ref (w.2 (133))), (3, .ref (w.2 (134))), (4, .ref (w.2 (135))), (5, .int (z))]) dL_acts_86 (by decide) rfl ?_
        obtain ⟨N, hN1, hN2, eN⟩ := nm_2 (Y := Y) (d := 7) (n := 9) (c := 1) (by omega) (by decide) (by decide) (by decide) (by decide)
        rw [show (1 : Int32) + (nI Y / 7 - nI Y / 7 / 9 * 9) = nI N from eN]
        show G (w, 0, 0) (lW cy f s) [(10, .int (nI N)), (9, .int (nI C)), (8, .int (nI A)), (7, .int (nI W)), (6, .int (nI Y)), (0, .ref (w.2 (0))), (1, .ref (w.2 (132))), (2, .ref (w.2 (133))), (3, .ref (w.2 (134))), (4, .ref (w.2 (135))), (5, .int (z))] 88 []
        refine zr_aload_n X 6 dL_acts_88 rfl rfl ?_
        refine zr_iconst X (v := 1) dL_acts_89 (by decide) ?_
        refine zr_lld X hw lr_g (1) (1) (rfl) (by decide) rfl dL_acts_90 ?_
        refine zr_bipush X (v := 10) dL_acts_91 (by decide) ?_
        refine zr_icmp_ne X (tgt := 117) dL_acts_93 (by decide) (fun h59 => ?_) (fun h60 => ?_)
        · refine zr_bipush X (v := 6) dL_acts_117 (by decide) ?_
          refine zr_aload_n X 6 dL_acts_119 rfl rfl ?_
          refine zr_iconst X (v := 1) dL_acts_120 (by decide) ?_
          refine zr_lld X hw lr_g (1) (1) (rfl) (by decide) rfl dL_acts_121 ?_
          refine zr_imul X dL_acts_122 ?_
          refine zr_istore X (ls' := [(11, .int (6 * (s 1))), (10, .int (nI N)), (9, .int (nI C)), (8, .int (nI A)), (7, .int (nI W)), (6, .int (nI Y)), (0, .ref (w.2 (0))), (1, .ref (w.2 (132))), (2, .ref (w.2 (133))), (3, .ref (w.2 (134))), (4, .ref (w.2 (135))), (5, .int (z))]) dL_acts_123 (by decide) rfl ?_
          have hb9 := bcl hb hb10 h59
          rw [hb, show (6 : Int32) * nI bk = nI (6 * bk) from nI_ml (c := 6)]
          show G (w, 0, 0) (lW cy f s) [(11, .int (nI (6 * bk))), (10, .int (nI N)), (9, .int (nI C)), (8, .int (nI A)), (7, .int (nI W)), (6, .int (nI Y)), (0, .ref (w.2 (0))), (1, .ref (w.2 (132))), (2, .ref (w.2 (133))), (3, .ref (w.2 (134))), (4, .ref (w.2 (135))), (5, .int (z))] 125 []
          refine zr_aload_n X 9 dL_acts_125 rfl rfl ?_
          refine zr_iload X 0 dL_acts_126 rfl ?_
          refine zr_aload_n X 7 dL_acts_128 rfl rfl ?_
          refine zr_iconst X (v := 2) dL_acts_129 (by decide) ?_
          refine zr_lld X hw lr_g (2) (2) (rfl) (by decide) rfl dL_acts_130 ?_
          refine zr_lst X hw lr_p (6 * bk) (55 + 6 * bk) (rfl) (by omega) (by omega) dL_acts_131 ?_
          refine zr_aload_n X 9 dL_acts_132 rfl rfl ?_
          refine zr_iload X 0 dL_acts_133 rfl ?_
          refine zr_iconst X (v := 1) dL_acts_135 (by decide) ?_
          refine zr_iadd X dL_acts_136 ?_
          refine zr_iload X 3 dL_acts_137 rfl ?_
          refine zr_lst X hw lr_p (6 * bk + 1) (55 + 6 * bk + 1) (nI_add _ 1) (by omega) (by omega) dL_acts_139 ?_
          refine zr_aload_n X 9 dL_acts_140 rfl rfl ?_
          refine zr_iload X 0 dL_acts_141 rfl ?_
          refine zr_iconst X (v := 2) dL_acts_143 (by decide) ?_
          refine zr_iadd X dL_acts_144 ?_
          refine zr_aload_n X 7 dL_acts_145 rfl rfl ?_
          refine zr_iconst X (v := 3) dL_acts_146 (by decide) ?_
          refine zr_lld X hw lr_g (3) (3) (rfl) (by decide) rfl dL_acts_147 ?_
          refine zr_iload X 2 dL_acts_148 rfl ?_
          refine zr_iadd X dL_acts_150 ?_
          refine zr_lst X hw lr_p (6 * bk + 2) (55 + 6 * bk + 2) (nI_add _ 2) (by omega) (by omega) dL_acts_151 ?_
          refine zr_aload_n X 9 dL_acts_152 rfl rfl ?_
          refine zr_iload X 0 dL_acts_153 rfl ?_
          refine zr_iconst X (v := 3) dL_acts_155 (by decide) ?_
          refine zr_iadd X dL_acts_156 ?_
          refine zr_iload X 1 dL_acts_157 rfl ?_
          refine zr_lst X hw lr_p (6 * bk + 3) (55 + 6 * bk + 3) (nI_add _ 3) (by omega) (by omega) dL_acts_159 ?_
          refine zr_aload_n X 9 dL_acts_160 rfl rfl ?_
          refine zr_iload X 0 dL_acts_161 rfl ?_
          refine zr_iconst X (v := 4) dL_acts_163 (by decide) ?_
          refine zr_iadd X dL_acts_164 ?_
          refine zr_iconst X (v := 0) dL_acts_165 (by decide) ?_
          refine zr_lst X hw lr_p (6 * bk + 4) (55 + 6 * bk + 4) (nI_add _ 4) (by omega) (by omega) dL_acts_166 ?_
          refine zr_aload_n X 9 dL_acts_167 rfl rfl ?_
          refine zr_iload X 0 dL_acts_168 rfl ?_
          refine zr_iconst X (v := 5) dL_acts_170 (by decide) ?_
          refine zr_iadd X dL_acts_171 ?_
          refine zr_iconst X (v := 0) dL_acts_172 (by decide) ?_
          refine zr_lst X hw lr_p (6 * bk + 5) (55 + 6 * bk + 5) (nI_add _ 5) (by omega) (by omega) dL_acts_173 ?_
          refine zr_aload_n X 7 dL_acts_174 rfl rfl ?_
          refine zr_iconst X (v := 1) dL_acts_175 (by decide) ?_
          refine zr_dup2 X dL_acts_176 rfl rfl ?_
          refine zr_lld X hw lr_g (1) (1) (rfl) (by decide) rfl dL_acts_177 ?_
          refine zr_iconst X (v := 1) dL_acts_178 (by decide) ?_
          refine zr_iadd X dL_acts_179 ?_
          refine zr_lst X hw lr_g (1) (1) (rfl) (by decide) rfl dL_acts_180 ?_
          refine zr_aload_n X 7 dL_acts_181 rfl rfl ?_
          refine zr_iconst X (v := 2) dL_acts_182 (by decide) ?_
          refine zr_dup2 X dL_acts_183 rfl rfl ?_
          refine zr_lld X hw lr_g (2) (2) (rfl) (by decide) rfl dL_acts_184 ?_
          refine zr_iconst X (v := 1) dL_acts_185 (by decide) ?_
          refine zr_iadd X dL_acts_186 ?_
          refine zr_lst X hw lr_g (2) (2) (rfl) (by decide) rfl dL_acts_187 ?_
          refine zcw (f2 := lW cy f (dGr s bk (nI A) (nI C) (nI N))) rfl ?_
          refine zr_aload_n X 6 dL_acts_188 rfl rfl ?_
          refine zr_iload X 3 dL_acts_189 rfl ?_
          refine zr_iload X 2 dL_acts_191 rfl ?_
          refine zr_iload X 1 dL_acts_193 rfl ?_
          refine zr_cVp X (As := [.int (nI A), .int (nI C), .int (nI N)]) (rest := []) zc_X8_group (0) (show 0 < w.1 by rw [hw]; decide) ((lW_lo (by decide)).trans (CX_0 hX)) (q9 := _) rfl rfl (zSp.d (ca_group bk hb hb10 hw (CX_lW hX) (by omega)) (gr_d2 hA1 hA2 (by omega) hN1 (by omega) h59)) ⟨Nat.le_of_ble_eq_true rfl, Nat.le_of_ble_eq_true rfl⟩ ⟨Nat.le_refl _, Nat.le_refl _⟩ rfl (Nat.le_of_ble_eq_true rfl) zm_2_155 rfl dL_acts_195 (fun r9_30 g9_30 hp30 => ?_)
          obtain ⟨rfl, hQ30, hF30⟩ := hp30
          have hX30 : CX w cy g9_30 (B + 60) (dGr s bk (nI A) (nI C) (nI N)) := hQ30
          refine zcw (f2 := lW cy g9_30 (dGr s bk (nI A) (nI C) (nI N))) (lW_back hF30) ?_
          show G (w, 0, 0) (lW cy g9_30 (dGr s bk (nI A) (nI C) (nI N))) [(11, .int (nI (6 * bk))), (10, .int (nI N)), (9, .int (nI C)), (8, .int (nI A)), (7, .int (nI W)), (6, .int (nI Y)), (0, .ref (w.2 (0))), (1, .ref (w.2 (132))), (2, .ref (w.2 (133))), (3, .ref (w.2 (134))), (4, .ref (w.2 (135))), (5, .int (z))] 198 [.int ((dGr s bk (nI A) (nI C) (nI N)) 2 - 1)]
          refine zr_aload_n X 7 dL_acts_198 rfl rfl ?_
          refine zr_iconst X (v := 2) dL_acts_199 (by decide) ?_
          refine zr_lld X hw lr_g (2) (2) (rfl) (by decide) rfl dL_acts_200 ?_
          refine zr_iconst X (v := 1) dL_acts_201 (by decide) ?_
          refine zr_isub X dL_acts_202 ?_
          refine zr_icmp_ne X (tgt := 210) dL_acts_203 (by decide) (fun h => False.elim (h rfl)) (fun _ => ?_)
          refine zr_iconst X (v := 1) dL_acts_206 (by decide) ?_
          refine zr_goto X (tgt := 211) dL_acts_207 (by decide) ?_
          exact zretp_z E rfl (Or.inr rfl) dL_acts_211 (aend (LX_mono (Kn.lx (B := B + 60) hX30 ((dGr_out (by omega) (by decide) (by decide)).trans hm) hm4 (bk := bk + 1) (by rw [dGr_1.1, hb]; exact nI_1 bk) (bcl hb hb10 h59) (jn_group jn hm4 (bcl hb hb10 h59) (v.2.2.2.2.2.2.2 (by omega)).1 (by have := (v.2.2.2.2.2.2.2 (by omega)).2; omega))) (by omega)))
        · refine zr_aload_n X 5 dL_acts_96 rfl rfl ?_
          refine zr_iload X 2 dL_acts_97 rfl ?_
          refine zr_iload X 1 dL_acts_99 rfl ?_
          refine zr_iload X 0 dL_acts_101 rfl ?_
          refine zr_cVp X (As := [.int (nI A), .int (nI C), .int (nI N)]) (rest := []) zc_X8_group (0) (show 0 < w.1 by rw [hw]; decide) ((lW_lo (by decide)).trans (CX_0 hX)) (q9 := _) rfl rfl (zSp.d (ca_group bk hb hb10 hw (CX_lW hX) (by omega)) (gr_d1 hA1 hA2 (by omega) hN1 (by omega) h60)) ⟨Nat.le_of_ble_eq_true rfl, Nat.le_of_ble_eq_true rfl⟩ ⟨Nat.le_refl _, Nat.le_refl _⟩ rfl (Nat.le_of_ble_eq_true rfl) zm_2_155 rfl dL_acts_103 (fun r9_31 g9_31 hp31 => ?_)
          obtain ⟨rfl, hQ31, hF31⟩ := hp31
          have hX31 : CX w cy g9_31 (B + 60) (s) := hQ31
          refine zcw (f2 := lW cy g9_31 s) (lW_back hF31) ?_
          show G (w, 0, 0) (lW cy g9_31 s) [(10, .int (nI N)), (9, .int (nI C)), (8, .int (nI A)), (7, .int (nI W)), (6, .int (nI Y)), (0, .ref (w.2 (0))), (1, .ref (w.2 (132))), (2, .ref (w.2 (133))), (3, .ref (w.2 (134))), (4, .ref (w.2 (135))), (5, .int (z))] 106 [.int ((-1000003))]
          refine zr_ldc X zm_2_124 dL_acts_106 ?_
          refine zr_icmp_ne X (tgt := 115) dL_acts_108 (by decide) (fun h => False.elim (h rfl)) (fun _ => ?_)
          refine zr_iconst X (v := 1) dL_acts_111 (by decide) ?_
          refine zr_goto X (tgt := 116) dL_acts_112 (by decide) ?_
          exact zretp_z E rfl (Or.inr rfl) dL_acts_116 (aend (LX_mono (Kn.lx (B := B + 60) hX31 hm hm4 hb hb10 jn) (by omega)))
  · refine zr_aload_n X 2 dL_acts_27 rfl rfl ?_
    refine zr_aload_n X 3 dL_acts_28 rfl rfl ?_
    refine zr_aload_n X 4 dL_acts_29 rfl rfl ?_
    refine zr_iload X 0 dL_acts_30 rfl ?_
    refine zr_iload X 1 dL_acts_32 rfl ?_
    refine zr_cSp X (As := [.ref (w.2 (0)), .ref (w.2 (132)), .ref (w.2 (133)), .int (nI W), .int (nI Y)]) (rest := []) zc_L_mules (kl_mules hw hL hB hY) ⟨Nat.le_of_ble_eq_true rfl, Nat.le_of_ble_eq_true rfl⟩ ⟨Nat.le_refl _, Nat.le_refl _⟩ rfl (Nat.le_of_ble_eq_true rfl) zm_2_67 rfl dL_acts_34 (fun r9 g9 hp9 => ?_)
    obtain ⟨rfl, hp9⟩ := hp9
    show G (w, 0, 0) g9 [(7, .int (nI W)), (6, .int (nI Y)), (0, .ref (w.2 (0))), (1, .ref (w.2 (132))), (2, .ref (w.2 (133))), (3, .ref (w.2 (134))), (4, .ref (w.2 (135))), (5, .int (z))] 37 [.int 1]
    exact zretp_z E rfl (Or.inr rfl) dL_acts_37 ⟨rfl, hp9⟩
