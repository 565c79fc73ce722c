/-! THE LAW'S mules: new ones, rest, send -/
theorem nm_dv {Y n : Nat} (hY : Y < 2147483648) (hn : 0 < n) (hn2 : n < 2147483648) : nI Y / nI n = nI (Y / n) := by
  have e1 := tnI hY
  have e2 := tnI hn2
  have le : Y / n ≤ Y := Nat.div_le_self Y n
  apply tinj
  rw [tdiv (by omega) (by omega), e1, e2, tnI (by omega)]
  exact (Int.natCast_ediv Y n).symm
theorem nm_md {Y n : Nat} (hY : Y < 2147483648) (hn : 0 < n) (hn2 : n < 2147483648) : nI Y - nI Y / nI n * nI n = nI (Y % n) := by
  rw [nm_dv hY hn hn2, nI_ml]
  have h1 : Y / n * n ≤ Y := Nat.div_mul_le_self Y n
  rw [nI_sub h1 hY]
  congr 1
  have := Nat.div_add_mod Y n
  rw [Nat.mul_comm] at this
  omega
theorem nm_1 {Y n c : Nat} (hY : Y < 2147483648) (hn : 0 < n) (hn2 : n < 2147483648) : ∃ A, c ≤ A ∧ A < c + n ∧ nI c + (nI Y - nI Y / nI n * nI n) = nI A := by
  have := Nat.mod_lt Y hn
  exact ⟨c + Y % n, by omega, by omega, by rw [nm_md hY hn hn2, nI_add]⟩
theorem nm_2 {Y d n c : Nat} (hY : Y < 2147483648) (hd : 0 < d) (hd2 : d < 2147483648) (hn : 0 < n) (hn2 : n < 2147483648) : ∃ A, c ≤ A ∧ A < c + n ∧ nI c + (nI Y / nI d - nI Y / nI d / nI n * nI n) = nI A := by
  rw [nm_dv hY hd hd2]
  exact nm_1 (Nat.lt_of_le_of_lt (Nat.div_le_self Y d) hY) hn hn2
theorem nm_3 {Y d n : Nat} (hY : Y < 2147483648) (hd : 0 < d) (hd2 : d < 2147483648) (hn : 0 < n) (hn2 : n < 2147483648) : ∃ A, A < n ∧ nI Y / nI d - nI Y / nI d / nI n * nI n = nI A := by
  rw [nm_dv hY hd hd2]
  have := Nat.mod_lt (Y / d) hn
  exact ⟨Y / d % n, this, nm_md (Nat.lt_of_le_of_lt (Nat.div_le_self Y d) hY) hn hn2⟩
theorem zw_in {A lo hi : Nat} (h1 : lo ≤ A) (h2 : A ≤ hi) (h3 : hi < 2147483648) : ¬ zwin (nI A) (nI lo) (nI hi) = 0 := by
  unfold zwin
  rw [if_neg (fun z => by have y := tlt.mp z; rw [tnI (by omega), tnI (by omega)] at y; omega), if_neg (fun z => by have y := tlt.mp z; rw [tnI (by omega), tnI (by omega)] at y; omega)]
  decide
theorem zw30 {A : Nat} (h1 : 1 ≤ A) (h2 : A < 1 + 30) : ¬ zwin (nI A) 1 30 = 0 := zw_in (lo := 1) (hi := 30) h1 (by omega) (by decide)
theorem zw9 {A : Nat} (h1 : 1 ≤ A) (h2 : A ≤ 9) : ¬ zwin (nI A) 1 9 = 0 := zw_in (lo := 1) (hi := 9) h1 h2 (by decide)
theorem dIs_in {s : Nat → Int32} {mc q : Nat} (hm : s 0 = nI mc) (hmc : mc ≤ 4) (hq : q < mc) : ¬ dIs s (nI q) = 0 := by
  unfold dIs
  rw [if_neg (fun z => by have y := tlt.mp z; rw [tnI (by omega), tk0] at y; omega), if_neg (fun z => by have y := tle.mp z; rw [hm, tnI (by omega), tnI (by omega)] at y; omega)]
  decide
theorem zSp.d {l : Launch} {D : va_G} {cy : Nat → ClassId} {w : zW} {f : zF} {y : MethodName} {cc : ByteArray} {nL fr lo : Nat} {av : List Value} {B : Int} {s : Nat → Int32} {d d' : Int32 × Bool × (Nat → Int32)} (h : zSp l D cy y cc nL (some .int) fr lo av w f (Ans w cy f B s d)) (e : d = d') : zSp l D cy y cc nL (some .int) fr lo av w f (Ans w cy f B s d') := e ▸ h
theorem lW_back {cy : Nat → ClassId} {F g : zF} {s : Nat → Int32} (h : ∀ t, 132 ≤ t → g t = lW cy F s t) : g = lW cy g s := (lW_of (fun t n o z => (h t (by rcases z with ⟨rfl, -⟩ | ⟨rfl, -⟩ | ⟨rfl, -⟩ | ⟨rfl, -⟩ <;> decide)).trans (lW_at z))).symm
theorem mu_d1 {s : Nat → Int32} {mc A C : Nat} (h1 : 1 ≤ A) (h2 : A < 1 + 30) (h3 : 1 ≤ C) (h4 : C ≤ 9) (h : s 0 = 4) : dMule s mc (nI A) (nI C) = (-1000003, false, s) := by
  unfold dMule
  rw [if_neg (zw30 h1 h2), if_neg (zw9 h3 h4), if_pos h]
theorem mu_d2 {s : Nat → Int32} {mc A C : Nat} (h1 : 1 ≤ A) (h2 : A < 1 + 30) (h3 : 1 ≤ C) (h4 : C ≤ 9) (h : ¬ s 0 = 4) : dMule s mc (nI A) (nI C) = (s 0, true, upd (dMn s mc (nI A) (nI C)) 0 ((dMn s mc (nI A) (nI C)) 0 + 1)) := by
  unfold dMule
  rw [if_neg (zw30 h1 h2), if_neg (zw9 h3 h4), if_neg h]
/-- a new mule's numbers, one by one -/
def lMl (s : Nat → Int32) (mc : Nat) (a c : Int32) (n : Nat) : Nat → Int32 := zfold (fun i p => upd p (19 + 9 * mc + i) (if nI i = 0 then a else if nI i = 1 then c else 0)) s n
theorem lMl_s {s : Nat → Int32} {mc n : Nat} {a c : Int32} : lMl s mc a c (n + 1) = upd (lMl s mc a c n) (19 + 9 * mc + n) (if nI n = 0 then a else if nI n = 1 then c else 0) := rfl
theorem lMl_out {s : Nat → Int32} {mc i : Nat} {a c : Int32} : ∀ n, (i < 19 + 9 * mc ∨ 19 + 9 * mc + n ≤ i) → lMl s mc a c n i = s i
  | 0, _ => rfl
  | n + 1, h => by
    rw [lMl_s, upd_ne (by omega)]
    exact lMl_out n (by omega)
theorem lMl_at {s : Nat → Int32} {mc i : Nat} {a c : Int32} : ∀ n, i < n → lMl s mc a c n (19 + 9 * mc + i) = if nI i = 0 then a else if nI i = 1 then c else 0
  | 0, h => absurd h (Nat.not_lt_zero i)
  | n + 1, h => by
    rw [lMl_s]
    by_cases e : i = n
    · rw [e, upd_eq]
    · rw [upd_ne (by omega)]
      exact lMl_at n (by omega)
theorem lMl_eq {s : Nat → Int32} {mc : Nat} {a c : Int32} : lMl s mc a c 9 = dMn s mc a c := by
  funext i
  by_cases h : i < 19 + 9 * mc ∨ 19 + 9 * mc + 9 ≤ i
  · rw [lMl_out 9 h, dMn_out h]
  · obtain ⟨j, hj, rfl⟩ : ∃ j, j < 9 ∧ i = 19 + 9 * mc + j := ⟨i - (19 + 9 * mc), by omega, by omega⟩
    rw [lMl_at 9 hj, dMn_at hj]
    by_cases e0 : j = 0
    · rw [e0, if_pos (show nI 0 = 0 from rfl), if_pos rfl]
    · rw [if_neg e0, if_neg (show ¬ nI j = 0 from fun z => e0 (nI_inj4 (b := 0) z (by omega) (by decide)))]
      by_cases e1 : j = 1
      · rw [e1, if_pos (show nI 1 = 1 from rfl), if_pos rfl]
      · rw [if_neg e1, if_neg (show ¬ nI j = 1 from fun z => e1 (nI_inj4 (b := 1) z (by omega) (by decide)))]
theorem no_send {s : Nat → Int32} (h : s 0 = 0) : dSend s 0 1 = (-1000001, false, s) := by
  unfold dSend dIs
  rw [h]
  rfl
theorem no_rest {s : Nat → Int32} (h : s 0 = 0) : dRest s 0 = (-1000001, false, s) := by
  unfold dRest dIs
  rw [h]
  rfl
theorem wh_0 {s : Nat → Int32} {q : Nat} (h : iMu s q) : s (19 + 9 * q + 2) ≤ 0 ↔ s (19 + 9 * q + 2) = 0 := by
  rcases h.2.2.1 with e | e | e | e <;> rw [e] <;> decide
theorem re_d1 {s : Nat → Int32} {mc q : Nat} (hm : s 0 = nI mc) (hmc : mc ≤ 4) (hq : q < mc) (h : iMu s q) (c : ¬ s (19 + 9 * q + 2) ≤ 0) : dRest s (nI q) = (-1000002, false, s) := by
  unfold dRest
  rw [if_neg (dIs_in hm hmc hq), nI_clamp (by omega), if_neg (fun z => c ((wh_0 h).mpr z))]
theorem re_d2 {s : Nat → Int32} {mc q : Nat} (hm : s 0 = nI mc) (hmc : mc ≤ 4) (hq : q < mc) (h : iMu s q) (c : s (19 + 9 * q + 2) ≤ 0) : dRest s (nI q) = (s (19 + 9 * q + 6), true, upd s (19 + 9 * q + 6) 0) := by
  unfold dRest
  rw [if_neg (dIs_in hm hmc hq), nI_clamp (by omega), if_pos ((wh_0 h).mp c)]
theorem why_eq {s : Nat → Int32} {q : Nat} {n : Int32} (h : iMu s q) : lWhy s q n = dWhy s q n := by
  unfold lWhy dWhy
  rw [Int32.mul_comm (s 15) n]
  by_cases c : s (19 + 9 * q + 2) = 0
  · rw [if_pos c, if_pos ((wh_0 h).mpr c)]
    rfl
  · rw [if_neg c, if_neg (fun z => c ((wh_0 h).mp z))]
theorem se_d1 {s : Nat → Int32} {mc q N : Nat} (hm : s 0 = nI mc) (hmc : mc ≤ 4) (hq : q < mc) (h : iMu s q) (h1 : 1 ≤ N) (h2 : N < 1 + 30) (c : ¬ lWhy s q (nI N) ≤ 0) : dSend s (nI q) (nI N) = (-1000002, false, s) := by
  rw [why_eq h] at c
  unfold dSend
  rw [if_neg (dIs_in hm hmc hq), if_neg (zw30 h1 h2), nI_clamp (by omega), if_neg c]
theorem se_d2 {s : Nat → Int32} {mc q N : Nat} (hm : s 0 = nI mc) (hmc : mc ≤ 4) (hq : q < mc) (h : iMu s q) (h1 : 1 ≤ N) (h2 : N < 1 + 30) (c : lWhy s q (nI N) ≤ 0) : dSend s (nI q) (nI N) = ((dSe s q (nI N)) 6, true, dSe s q (nI N)) := by
  rw [why_eq h] at c
  unfold dSend
  rw [if_neg (dIs_in hm hmc hq), if_neg (zw30 h1 h2), nI_clamp (by omega), if_pos c]
theorem why_0 {s : Nat → Int32} {q : Nat} {n : Int32} (h : iMu s q) (c : lWhy s q n ≤ 0) : s (19 + 9 * q + 2) = 0 := by
  unfold lWhy at c
  by_cases z : s (19 + 9 * q + 2) ≤ 0
  · exact (wh_0 h).mp z
  · rw [if_neg z] at c
    exact absurd c (by decide)
theorem LX_lW {w : zW} {cy : Nat → ClassId} {f : zF} {B : Int} {s t : Nat → Int32} (h : LX w cy f B s) : LX w cy (lW cy f t) B s := ⟨CX_lW h.1, h.2⟩
/-- an act's end: the law's hut and the class's are alike, as they are at a call -/
def Aend (w : zW) (cy : Nat → ClassId) (B : Int) : Option Value → zF → Prop := fun r9 g => r9 = some (.int 1) ∧ ∃ s', LX w cy g B s' ∧ g = lW cy g s'
theorem aend {w : zW} {cy : Nat → ClassId} {F : zF} {B : Int} {s : Nat → Int32} (h : LX w cy F B s) : Aend w cy B (some (.int 1)) (lW cy F s) := ⟨rfl, s, LX_lW h, lW_lW.symm⟩
theorem LX_mono {w : zW} {cy : Nat → ClassId} {f : zF} {B B' : Int} {s : Nat → Int32} (h : LX w cy f B s) (hB : B ≤ B') : LX w cy f B' s := ⟨CX_mono h.1 hB, h.2⟩
theorem dSe_lo {s : Nat → Int32} {k i : Nat} {n : Int32} (hk : k < 4) (hi : i < 6) : dSe s k n i = s i := by
  rw [dSe_n hk, upd_ne (by omega), upd_ne (by omega), upd_ne (by omega), upd_ne (by omega), upd_ne (by omega), upd_ne (by omega), upd_ne (by omega)]
def lSe (s : Nat → Int32) (k : Nat) (n : Int32) : Nat → Int32 :=
  let a1 := upd s (19 + 9 * k + 2) 1
  let a2 := upd a1 (19 + 9 * k + 3) 2
  let a3 := upd a2 (19 + 9 * k + 4) n
  let a4 := upd a3 (19 + 9 * k + 5) (a3 3)
  let a5 := upd a4 (19 + 9 * k + 6) (a4 (19 + 9 * k + 6) + 1)
  let a6 := upd a5 6 (a5 6 + a5 15 * n)
  upd a6 7 (a6 7 + n)
theorem lSe_eq {s : Nat → Int32} {k : Nat} {n : Int32} (hk : k < 4) : lSe s k n = dSe s k n := by
  rw [dSe_n hk]
  unfold lSe
  dsimp only
  rw [show ∀ a b c, (upd (upd (upd s (19 + 9 * k + 2) a) (19 + 9 * k + 3) b) (19 + 9 * k + 4) c) 3 = s 3 from fun a b c => (upd_ne (by omega)).trans ((upd_ne (by omega)).trans (upd_ne (by omega)))]
  rw [show ∀ a b c d, (upd (upd (upd (upd s (19 + 9 * k + 2) a) (19 + 9 * k + 3) b) (19 + 9 * k + 4) c) (19 + 9 * k + 5) d) (19 + 9 * k + 6) = s (19 + 9 * k + 6) from fun a b c d => (upd_ne (by omega)).trans ((upd_ne (by omega)).trans ((upd_ne (by omega)).trans (upd_ne (by omega))))]
  rw [show ∀ a b c d e, (upd (upd (upd (upd (upd s (19 + 9 * k + 2) a) (19 + 9 * k + 3) b) (19 + 9 * k + 4) c) (19 + 9 * k + 5) d) (19 + 9 * k + 6) e) 6 = s 6 from fun a b c d e => (upd_ne (by omega)).trans ((upd_ne (by omega)).trans ((upd_ne (by omega)).trans ((upd_ne (by omega)).trans (upd_ne (by omega)))))]
  rw [show ∀ a b c d e, (upd (upd (upd (upd (upd s (19 + 9 * k + 2) a) (19 + 9 * k + 3) b) (19 + 9 * k + 4) c) (19 + 9 * k + 5) d) (19 + 9 * k + 6) e) 15 = s 15 from fun a b c d e => (upd_ne (by omega)).trans ((upd_ne (by omega)).trans ((upd_ne (by omega)).trans ((upd_ne (by omega)).trans (upd_ne (by omega)))))]
  rw [show ∀ a b c d e f, (upd (upd (upd (upd (upd (upd s (19 + 9 * k + 2) a) (19 + 9 * k + 3) b) (19 + 9 * k + 4) c) (19 + 9 * k + 5) d) (19 + 9 * k + 6) e) 6 f) 7 = s 7 from fun a b c d e f => (upd_ne (by omega)).trans ((upd_ne (by omega)).trans ((upd_ne (by omega)).trans ((upd_ne (by omega)).trans ((upd_ne (by omega)).trans (upd_ne (by omega))))))]
  rw [Int32.mul_comm (s 15) n, upd_co (i := 6) (j := 7) (by decide)]
theorem nm_ld {s : Nat → Int32} {q Y : Nat} (hY : Y < 2147483648) (h : iMu s q) : ∃ N, 1 ≤ N ∧ N < 1 + 30 ∧ (1 : Int32) + (nI Y / 4 - nI Y / 4 / s (19 + 9 * q) * s (19 + 9 * q)) = nI N := by
  have h1 : 1 ≤ (s (19 + 9 * q)).toInt := h.1.1
  have h2 : (s (19 + 9 * q)).toInt ≤ 30 := h.1.2
  have c0 := tk0
  have e := zix1 (x := s (19 + 9 * q)) (fun z => by have := tlt.mp z; omega)
  have b1 : 1 ≤ (s (19 + 9 * q)).toNatClampNeg := by show 1 ≤ (s (19 + 9 * q)).toInt.toNat; omega
  have b2 : (s (19 + 9 * q)).toNatClampNeg ≤ 30 := by show (s (19 + 9 * q)).toInt.toNat ≤ 30; omega
  obtain ⟨N, n1, n2, n3⟩ := nm_2 (Y := Y) (d := 4) (n := (s (19 + 9 * q)).toNatClampNeg) (c := 1) hY (by decide) (by decide) (by omega) (by omega)
  rw [← e] at n3
  exact ⟨N, n1, by omega, n3⟩
theorem ld_ne {s : Nat → Int32} {q : Nat} (h : iMu s q) : ¬ s (19 + 9 * q) = 0 := fun z => by
  have h1 : 1 ≤ (s (19 + 9 * q)).toInt := h.1.1
  rw [z, tk0] at h1
  omega
theorem nm_mo {x : Int32} {m Y : Nat} (hY : Y < 2147483648) (hm : x = nI m) (hm4 : m ≤ 10) (c : ¬ x = 0) : ∃ q, q < m ∧ nI Y - nI Y / x * x = nI q := by
  have h0 : 0 < m := by
    rcases Nat.eq_zero_or_pos m with z | z
    · rw [z] at hm
      exact absurd hm c
    · exact z
  rw [hm, nm_md hY h0 (by omega)]
  exact ⟨_, Nat.mod_lt Y h0, rfl⟩
theorem mcl {s : Nat → Int32} {m : Nat} (hm : s 0 = nI m) (hm4 : m ≤ 4) (c : ¬ s 0 = 4) : m < 4 := by
  rcases Nat.lt_or_ge m 4 with z | z
  · exact z
  · rw [show m = 4 by omega] at hm
    exact absurd hm c
set_option maxHeartbeats 8000000 in
set_option maxRecDepth 100000 in
theorem kl_mules {l : Launch} {D : va_G} {cy : Nat → ClassId} {w : zW} {f : zF} {s : Nat → Int32} {B : Int} {x : Int32} {Y : Nat} (hw : w.1 = 136) (hL : LX w cy f B s) (hB : B ≤ 1000000) (hY : Y < 10000000) : zSp l D cy yL_mules cL_mules 8 (some .boolean) 5 111 [.ref (w.2 (0)), .ref (w.2 (132)), .ref (w.2 (133)), .int (x), .int (nI Y)] w (lW cy f s) (Aend w cy (B + 120)) := by
  refine zSp.intro (by decide) (Nat.le_of_ble_eq_true rfl) (fun G X E => ?_)
  obtain ⟨gs, mc, bk, fr, kn⟩ := LX_kn hL
  obtain ⟨r, o, v, jn, e17, hfr⟩ := id kn
  have hX := hL.1
  have hm := r.s0.1
  have hm4 := r.s0.2
  have hb := r.s1.1
  have hb10 := r.s1.2
  have hM := v.1
  show G (w, 0, 0) (lW cy f s) [(0, .ref (w.2 (0))), (1, .ref (w.2 (132))), (2, .ref (w.2 (133))), (3, .int (x)), (4, .int (nI Y))] 0 []
  refine zr_iload_n X 3 dL_mules_0 rfl rfl ?_
  refine zr_iconst X (v := 2) dL_mules_1 (by decide) ?_
  refine zr_icmp_ge X (tgt := 141) dL_mules_2 (by decide) (fun h1 => ?_) (fun h2 => ?_)
  · refine zr_aload_n X 1 dL_mules_141 rfl rfl ?_
    refine zr_iconst X (v := 0) dL_mules_142 (by decide) ?_
    refine zr_lld X hw lr_g (0) (0) (rfl) (by decide) rfl dL_mules_143 ?_
    refine zr_if_ne X (tgt := 174) dL_mules_144 (by decide) (fun h3 => ?_) (fun h4 => ?_)
    · refine zr_iload X 4 dL_mules_174 rfl ?_
      refine zr_aload_n X 1 dL_mules_176 rfl rfl ?_
      refine zr_iconst X (v := 0) dL_mules_177 (by decide) ?_
      refine zr_lld X hw lr_g (0) (0) (rfl) (by decide) rfl dL_mules_178 ?_
      refine zr_irem X dL_mules_179 (h3) ?_
      refine zr_istore X (ls' := [(5, .int ((nI Y) - (nI Y) / (s 0) * (s 0))), (0, .ref (w.2 (0))), (1, .ref (w.2 (132))), (2, .ref (w.2 (133))), (3, .int (x)), (4, .int (nI Y))]) dL_mules_180 (by decide) rfl ?_
      obtain ⟨q, hq, eq9⟩ := nm_mo (Y := Y) (by omega) hm (by omega) h3
      rw [eq9]
      show G (w, 0, 0) (lW cy f s) [(5, .int (nI q)), (0, .ref (w.2 (0))), (1, .ref (w.2 (132))), (2, .ref (w.2 (133))), (3, .int (x)), (4, .int (nI Y))] 182 []
      refine zr_bipush X (v := 9) dL_mules_182 (by decide) ?_
      refine zr_iload X 0 dL_mules_184 rfl ?_
      refine zr_imul X dL_mules_186 ?_
      refine zr_istore X (ls' := [(6, .int (9 * (nI q))), (5, .int (nI q)), (0, .ref (w.2 (0))), (1, .ref (w.2 (132))), (2, .ref (w.2 (133))), (3, .int (x)), (4, .int (nI Y))]) dL_mules_187 (by decide) rfl ?_
      rw [show (9 : Int32) * nI q = nI (9 * q) from nI_ml (c := 9)]
      show G (w, 0, 0) (lW cy f s) [(6, .int (nI (9 * q))), (5, .int (nI q)), (0, .ref (w.2 (0))), (1, .ref (w.2 (132))), (2, .ref (w.2 (133))), (3, .int (x)), (4, .int (nI Y))] 189 []
      refine zr_iload_n X 5 dL_mules_189 rfl rfl ?_
      refine zr_iconst X (v := 2) dL_mules_190 (by decide) ?_
      refine zr_icmp_ne X (tgt := 254) dL_mules_191 (by decide) (fun h5 => ?_) (fun h6 => ?_)
      · refine zr_iload X 6 dL_mules_254 rfl ?_
        refine zr_bipush X (v := 6) dL_mules_256 (by decide) ?_
        refine zr_irem X dL_mules_258 (by decide) ?_
        refine zr_if_ne X (tgt := 274) dL_mules_259 (by decide) (fun h7 => ?_) (fun h8 => ?_)
        · refine zr_iconst X (v := 1) dL_mules_274 (by decide) ?_
          refine zr_iload X 6 dL_mules_275 rfl ?_
          refine zr_iconst X (v := 4) dL_mules_277 (by decide) ?_
          refine zr_idiv X dL_mules_278 (by decide) ?_
          refine zr_aload_n X 4 dL_mules_279 rfl rfl ?_
          refine zr_iload X 0 dL_mules_280 rfl ?_
          refine zr_lld X hw lr_m (9 * q) (19 + 9 * q) (rfl) (by omega) (by omega) dL_mules_282 ?_
          refine zr_irem X dL_mules_283 (ld_ne (hM q hq)) ?_
          refine zr_iadd X dL_mules_284 ?_
          refine zr_istore X (ls' := [(7, .int (1 + (((nI Y) / 4) - ((nI Y) / 4) / (s (19 + 9 * q)) * (s (19 + 9 * q))))), (6, .int (nI (9 * q))), (5, .int (nI q)), (0, .ref (w.2 (0))), (1, .ref (w.2 (132))), (2, .ref (w.2 (133))), (3, .int (x)), (4, .int (nI Y))]) dL_mules_285 (by decide) rfl ?_
          obtain ⟨N, hN1, hN2, eN⟩ := nm_ld (Y := Y) (by omega) (hM q hq)
          rw [eN]
          show G (w, 0, 0) (lW cy f s) [(7, .int (nI N)), (6, .int (nI (9 * q))), (5, .int (nI q)), (0, .ref (w.2 (0))), (1, .ref (w.2 (132))), (2, .ref (w.2 (133))), (3, .int (x)), (4, .int (nI Y))] 287 []
          refine zr_aload_n X 4 dL_mules_287 rfl rfl ?_
          refine zr_aload_n X 5 dL_mules_288 rfl rfl ?_
          refine zr_iload X 2 dL_mules_289 rfl ?_
          refine zr_iload X 0 dL_mules_291 rfl ?_
          refine zr_cS X (As := [.ref (w.2 (132)), .ref (w.2 (133)), .int (nI q), .int (nI N)]) (rest := []) (f' := lW cy f s) (st' := [.int (lWhy s q (nI N))]) zc_L_why (kl_why (k := q) hw (by omega)) ⟨Nat.le_of_ble_eq_true rfl, Nat.le_of_ble_eq_true rfl⟩ ⟨Nat.le_refl _, Nat.le_refl _⟩ rfl (Nat.le_of_ble_eq_true rfl) zm_2_152 rfl dL_mules_293 rfl ?_
          refine zr_if_le X (tgt := 318) dL_mules_296 (by decide) (fun h9 => ?_) (fun h10 => ?_)
          · refine zr_aload_n X 5 dL_mules_318 rfl rfl ?_
            refine zr_iload X 1 dL_mules_319 rfl ?_
            refine zr_iconst X (v := 2) dL_mules_321 (by decide) ?_
            refine zr_iadd X dL_mules_322 ?_
            refine zr_iconst X (v := 1) dL_mules_323 (by decide) ?_
            refine zr_lst X hw lr_m (9 * q + 2) (19 + 9 * q + 2) (nI_add _ 2) (by omega) (by omega) dL_mules_324 ?_
            refine zr_aload_n X 5 dL_mules_325 rfl rfl ?_
            refine zr_iload X 1 dL_mules_326 rfl ?_
            refine zr_iconst X (v := 3) dL_mules_328 (by decide) ?_
            refine zr_iadd X dL_mules_329 ?_
            refine zr_iconst X (v := 2) dL_mules_330 (by decide) ?_
            refine zr_lst X hw lr_m (9 * q + 3) (19 + 9 * q + 3) (nI_add _ 3) (by omega) (by omega) dL_mules_331 ?_
            refine zr_aload_n X 5 dL_mules_332 rfl rfl ?_
            refine zr_iload X 1 dL_mules_333 rfl ?_
            refine zr_iconst X (v := 4) dL_mules_335 (by decide) ?_
            refine zr_iadd X dL_mules_336 ?_
            refine zr_iload X 0 dL_mules_337 rfl ?_
            refine zr_lst X hw lr_m (9 * q + 4) (19 + 9 * q + 4) (nI_add _ 4) (by omega) (by omega) dL_mules_339 ?_
            refine zr_aload_n X 5 dL_mules_340 rfl rfl ?_
            refine zr_iload X 1 dL_mules_341 rfl ?_
            refine zr_iconst X (v := 5) dL_mules_343 (by decide) ?_
            refine zr_iadd X dL_mules_344 ?_
            refine zr_aload_n X 4 dL_mules_345 rfl rfl ?_
            refine zr_iconst X (v := 3) dL_mules_346 (by decide) ?_
            refine zr_lld X hw lr_g (3) (3) (rfl) (by decide) rfl dL_mules_347 ?_
            refine zr_lst X hw lr_m (9 * q + 5) (19 + 9 * q + 5) (nI_add _ 5) (by omega) (by omega) dL_mules_348 ?_
            refine zr_aload_n X 5 dL_mules_349 rfl rfl ?_
            refine zr_iload X 1 dL_mules_350 rfl ?_
            refine zr_bipush X (v := 6) dL_mules_352 (by decide) ?_
            refine zr_iadd X dL_mules_354 ?_
            refine zr_dup2 X dL_mules_355 rfl rfl ?_
            refine zr_lld X hw lr_m (9 * q + 6) (19 + 9 * q + 6) (nI_add _ 6) (by omega) (by omega) dL_mules_356 ?_
            refine zr_iconst X (v := 1) dL_mules_357 (by decide) ?_
            refine zr_iadd X dL_mules_358 ?_
            refine zr_lst X hw lr_m (9 * q + 6) (19 + 9 * q + 6) (nI_add _ 6) (by omega) (by omega) dL_mules_359 ?_
            refine zr_aload_n X 4 dL_mules_360 rfl rfl ?_
            refine zr_bipush X (v := 6) dL_mules_361 (by decide) ?_
            refine zr_dup2 X dL_mules_363 rfl rfl ?_
            refine zr_lld X hw lr_g (6) (6) (rfl) (by decide) rfl dL_mules_364 ?_
            refine zr_aload_n X 4 dL_mules_365 rfl rfl ?_
            refine zr_bipush X (v := 15) dL_mules_366 (by decide) ?_
            refine zr_lld X hw lr_g (15) (15) (rfl) (by decide) rfl dL_mules_368 ?_
            refine zr_iload X 0 dL_mules_369 rfl ?_
            refine zr_imul X dL_mules_371 ?_
            refine zr_iadd X dL_mules_372 ?_
            refine zr_lst X hw lr_g (6) (6) (rfl) (by decide) rfl dL_mules_373 ?_
            refine zr_aload_n X 4 dL_mules_374 rfl rfl ?_
            refine zr_bipush X (v := 7) dL_mules_375 (by decide) ?_
            refine zr_dup2 X dL_mules_377 rfl rfl ?_
            refine zr_lld X hw lr_g (7) (7) (rfl) (by decide) rfl dL_mules_378 ?_
            refine zr_iload X 0 dL_mules_379 rfl ?_
            refine zr_iadd X dL_mules_381 ?_
            refine zr_lst X hw lr_g (7) (7) (rfl) (by decide) rfl dL_mules_382 ?_
            refine zcw (f2 := lW cy f (lSe s q (nI N))) rfl ?_
            rw [lSe_eq (by omega)]
            refine zr_aload_n X 3 dL_mules_383 rfl rfl ?_
            refine zr_iload X 2 dL_mules_384 rfl ?_
            refine zr_iload X 0 dL_mules_386 rfl ?_
            refine zr_cVp X (As := [.int (nI q), .int (nI N)]) (rest := []) zc_X8_send (0) (show 0 < w.1 by rw [hw]; decide) ((lW_lo (by decide)).trans (CX_0 hX)) (q9 := _) rfl rfl (zSp.d (ca_send  hw (CX_lW hX) (by omega)) (se_d2 hm hm4 hq (hM q hq) hN1 hN2 h9)) ⟨Nat.le_of_ble_eq_true rfl, Nat.le_of_ble_eq_true rfl⟩ ⟨Nat.le_refl _, Nat.le_refl _⟩ rfl (Nat.le_of_ble_eq_true rfl) zm_2_125 rfl dL_mules_388 (fun r9_1 g9_1 hp1 => ?_)
            obtain ⟨rfl, hQ1, hF1⟩ := hp1
            have hX1 : CX w cy g9_1 (B + 60) (dSe s q (nI N)) := hQ1
            refine zcw (f2 := lW cy g9_1 (dSe s q (nI N))) (lW_back hF1) ?_
            show G (w, 0, 0) (lW cy g9_1 (dSe s q (nI N))) [(7, .int (nI N)), (6, .int (nI (9 * q))), (5, .int (nI q)), (0, .ref (w.2 (0))), (1, .ref (w.2 (132))), (2, .ref (w.2 (133))), (3, .int (x)), (4, .int (nI Y))] 391 [.int ((dSe s q (nI N)) 6)]
            refine zr_aload_n X 4 dL_mules_391 rfl rfl ?_
            refine zr_bipush X (v := 6) dL_mules_392 (by decide) ?_
            refine zr_lld X hw lr_g (6) (6) (rfl) (by decide) rfl dL_mules_394 ?_
            refine zr_icmp_ne X (tgt := 402) dL_mules_395 (by decide) (fun h => False.elim (h rfl)) (fun _ => ?_)
            refine zr_iconst X (v := 1) dL_mules_398 (by decide) ?_
            refine zr_goto X (tgt := 403) dL_mules_399 (by decide) ?_
            exact zretp_z E rfl (Or.inr rfl) dL_mules_403 (aend (LX_mono (Kn.lx (B := B + 60) hX1 ((dSe_lo (by omega) (by decide)).trans hm) hm4 ((dSe_lo (by omega) (by decide)).trans hb) hb10 (jn_send hm4 hb10 hq (why_0 (hM q hq) h9) jn)) (by omega)))
          · refine zr_aload_n X 3 dL_mules_299 rfl rfl ?_
            refine zr_iload X 2 dL_mules_300 rfl ?_
            refine zr_iload X 0 dL_mules_302 rfl ?_
            refine zr_cVp X (As := [.int (nI q), .int (nI N)]) (rest := []) zc_X8_send (0) (show 0 < w.1 by rw [hw]; decide) ((lW_lo (by decide)).trans (CX_0 hX)) (q9 := _) rfl rfl (zSp.d (ca_send  hw (CX_lW hX) (by omega)) (se_d1 hm hm4 hq (hM q hq) hN1 hN2 h10)) ⟨Nat.le_of_ble_eq_true rfl, Nat.le_of_ble_eq_true rfl⟩ ⟨Nat.le_refl _, Nat.le_refl _⟩ rfl (Nat.le_of_ble_eq_true rfl) zm_2_125 rfl dL_mules_304 (fun r9_2 g9_2 hp2 => ?_)
            obtain ⟨rfl, hQ2, hF2⟩ := hp2
            have hX2 : CX w cy g9_2 (B + 60) (s) := hQ2
            refine zcw (f2 := lW cy g9_2 s) (lW_back hF2) ?_
            show G (w, 0, 0) (lW cy g9_2 s) [(7, .int (nI N)), (6, .int (nI (9 * q))), (5, .int (nI q)), (0, .ref (w.2 (0))), (1, .ref (w.2 (132))), (2, .ref (w.2 (133))), (3, .int (x)), (4, .int (nI Y))] 307 [.int ((-1000002))]
            refine zr_ldc X zm_2_151 dL_mules_307 ?_
            refine zr_icmp_ne X (tgt := 316) dL_mules_309 (by decide) (fun h => False.elim (h rfl)) (fun _ => ?_)
            refine zr_iconst X (v := 1) dL_mules_312 (by decide) ?_
            refine zr_goto X (tgt := 317) dL_mules_313 (by decide) ?_
            exact zretp_z E rfl (Or.inr rfl) dL_mules_317 (aend (LX_mono (Kn.lx (B := B + 60) hX2 hm hm4 hb hb10 jn) (by omega)))
        · refine zr_iconst X (v := 1) dL_mules_262 (by decide) ?_
          refine zr_iload X 6 dL_mules_263 rfl ?_
          refine zr_iconst X (v := 4) dL_mules_265 (by decide) ?_
          refine zr_idiv X dL_mules_266 (by decide) ?_
          refine zr_bipush X (v := 30) dL_mules_267 (by decide) ?_
          refine zr_irem X dL_mules_269 (by decide) ?_
          refine zr_iadd X dL_mules_270 ?_
          refine zr_goto X (tgt := 285) dL_mules_271 (by decide) ?_
          refine zr_istore X (ls' := [(7, .int (1 + (((nI Y) / 4) - ((nI Y) / 4) / 30 * 30))), (6, .int (nI (9 * q))), (5, .int (nI q)), (0, .ref (w.2 (0))), (1, .ref (w.2 (132))), (2, .ref (w.2 (133))), (3, .int (x)), (4, .int (nI Y))]) dL_mules_285 (by decide) rfl ?_
          obtain ⟨N, hN1, hN2, eN⟩ := nm_2 (Y := Y) (d := 4) (n := 30) (c := 1) (by omega) (by decide) (by decide) (by decide) (by decide)
          rw [show (1 : Int32) + (nI Y / 4 - nI Y / 4 / 30 * 30) = nI N from eN]
          show G (w, 0, 0) (lW cy f s) [(7, .int (nI N)), (6, .int (nI (9 * q))), (5, .int (nI q)), (0, .ref (w.2 (0))), (1, .ref (w.2 (132))), (2, .ref (w.2 (133))), (3, .int (x)), (4, .int (nI Y))] 287 []
          refine zr_aload_n X 4 dL_mules_287 rfl rfl ?_
          refine zr_aload_n X 5 dL_mules_288 rfl rfl ?_
          refine zr_iload X 2 dL_mules_289 rfl ?_
          refine zr_iload X 0 dL_mules_291 rfl ?_
          refine zr_cS X (As := [.ref (w.2 (132)), .ref (w.2 (133)), .int (nI q), .int (nI N)]) (rest := []) (f' := lW cy f s) (st' := [.int (lWhy s q (nI N))]) zc_L_why (kl_why (k := q) hw (by omega)) ⟨Nat.le_of_ble_eq_true rfl, Nat.le_of_ble_eq_true rfl⟩ ⟨Nat.le_refl _, Nat.le_refl _⟩ rfl (Nat.le_of_ble_eq_true rfl) zm_2_152 rfl dL_mules_293 rfl ?_
          refine zr_if_le X (tgt := 318) dL_mules_296 (by decide) (fun h11 => ?_) (fun h12 => ?_)
          · refine zr_aload_n X 5 dL_mules_318 rfl rfl ?_
            refine zr_iload X 1 dL_mules_319 rfl ?_
            refine zr_iconst X (v := 2) dL_mules_321 (by decide) ?_
            refine zr_iadd X dL_mules_322 ?_
            refine zr_iconst X (v := 1) dL_mules_323 (by decide) ?_
            refine zr_lst X hw lr_m (9 * q + 2) (19 + 9 * q + 2) (nI_add _ 2) (by omega) (by omega) dL_mules_324 ?_
            refine zr_aload_n X 5 dL_mules_325 rfl rfl ?_
            refine zr_iload X 1 dL_mules_326 rfl ?_
            refine zr_iconst X (v := 3) dL_mules_328 (by decide) ?_
            refine zr_iadd X dL_mules_329 ?_
            refine zr_iconst X (v := 2) dL_mules_330 (by decide) ?_
            refine zr_lst X hw lr_m (9 * q + 3) (19 + 9 * q + 3) (nI_add _ 3) (by omega) (by omega) dL_mules_331 ?_
            refine zr_aload_n X 5 dL_mules_332 rfl rfl ?_
            refine zr_iload X 1 dL_mules_333 rfl ?_
            refine zr_iconst X (v := 4) dL_mules_335 (by decide) ?_
            refine zr_iadd X dL_mules_336 ?_
            refine zr_iload X 0 dL_mules_337 rfl ?_
            refine zr_lst X hw lr_m (9 * q + 4) (19 + 9 * q + 4) (nI_add _ 4) (by omega) (by omega) dL_mules_339 ?_
            refine zr_aload_n X 5 dL_mules_340 rfl rfl ?_
            refine zr_iload X 1 dL_mules_341 rfl ?_
            refine zr_iconst X (v := 5) dL_mules_343 (by decide) ?_
            refine zr_iadd X dL_mules_344 ?_
            refine zr_aload_n X 4 dL_mules_345 rfl rfl ?_
            refine zr_iconst X (v := 3) dL_mules_346 (by decide) ?_
            refine zr_lld X hw lr_g (3) (3) (rfl) (by decide) rfl dL_mules_347 ?_
            refine zr_lst X hw lr_m (9 * q + 5) (19 + 9 * q + 5) (nI_add _ 5) (by omega) (by omega) dL_mules_348 ?_
            refine zr_aload_n X 5 dL_mules_349 rfl rfl ?_
            refine zr_iload X 1 dL_mules_350 rfl ?_
            refine zr_bipush X (v := 6) dL_mules_352 (by decide) ?_
            refine zr_iadd X dL_mules_354 ?_
            refine zr_dup2 X dL_mules_355 rfl rfl ?_
            refine zr_lld X hw lr_m (9 * q + 6) (19 + 9 * q + 6) (nI_add _ 6) (by omega) (by omega) dL_mules_356 ?_
            refine zr_iconst X (v := 1) dL_mules_357 (by decide) ?_
            refine zr_iadd X dL_mules_358 ?_
            refine zr_lst X hw lr_m (9 * q + 6) (19 + 9 * q + 6) (nI_add _ 6) (by omega) (by omega) dL_mules_359 ?_
            refine zr_aload_n X 4 dL_mules_360 rfl rfl ?_
            refine zr_bipush X (v := 6) dL_mules_361 (by decide) ?_
            refine zr_dup2 X dL_mules_363 rfl rfl ?_
            refine zr_lld X hw lr_g (6) (6) (rfl) (by decide) rfl dL_mules_364 ?_
            refine zr_aload_n X 4 dL_mules_365 rfl rfl ?_
            refine zr_bipush X (v := 15) dL_mules_366 (by decide) ?_
            refine zr_lld X hw lr_g (15) (15) (rfl) (by decide) rfl dL_mules_368 ?_
            refine zr_iload X 0 dL_mules_369 rfl ?_
            refine zr_imul X dL_mules_371 ?_
            refine zr_iadd X dL_mules_372 ?_
            refine zr_lst X hw lr_g (6) (6) (rfl) (by decide) rfl dL_mules_373 ?_
            refine zr_aload_n X 4 dL_mules_374 rfl rfl ?_
            refine zr_bipush X (v := 7) dL_mules_375 (by decide) ?_
            refine zr_dup2 X dL_mules_377 rfl rfl ?_
            refine zr_lld X hw lr_g (7) (7) (rfl) (by decide) rfl dL_mules_378 ?_
            refine zr_iload X 0 dL_mules_379 rfl ?_
            refine zr_iadd X dL_mules_381 ?_
            refine zr_lst X hw lr_g (7) (7) (rfl) (by decide) rfl dL_mules_382 ?_
            refine zcw (f2 := lW cy f (lSe s q (nI N))) rfl ?_
            rw [lSe_eq (by omega)]
            refine zr_aload_n X 3 dL_mules_383 rfl rfl ?_
            refine zr_iload X 2 dL_mules_384 rfl ?_
            refine zr_iload X 0 dL_mules_386 rfl ?_
            refine zr_cVp X (As := [.int (nI q), .int (nI N)]) (rest := []) zc_X8_send (0) (show 0 < w.1 by rw [hw]; decide) ((lW_lo (by decide)).trans (CX_0 hX)) (q9 := _) rfl rfl (zSp.d (ca_send  hw (CX_lW hX) (by omega)) (se_d2 hm hm4 hq (hM q hq) hN1 hN2 h11)) ⟨Nat.le_of_ble_eq_true rfl, Nat.le_of_ble_eq_true rfl⟩ ⟨Nat.le_refl _, Nat.le_refl _⟩ rfl (Nat.le_of_ble_eq_true rfl) zm_2_125 rfl dL_mules_388 (fun r9_3 g9_3 hp3 => ?_)
            obtain ⟨rfl, hQ3, hF3⟩ := hp3
            have hX3 : CX w cy g9_3 (B + 60) (dSe s q (nI N)) := hQ3
            refine zcw (f2 := lW cy g9_3 (dSe s q (nI N))) (lW_back hF3) ?_
            show G (w, 0, 0) (lW cy g9_3 (dSe s q (nI N))) [(7, .int (nI N)), (6, .int (nI (9 * q))), (5, .int (nI q)), (0, .ref (w.2 (0))), (1, .ref (w.2 (132))), (2, .ref (w.2 (133))), (3, .int (x)), (4, .int (nI Y))] 391 [.int ((dSe s q (nI N)) 6)]
            refine zr_aload_n X 4 dL_mules_391 rfl rfl ?_
            refine zr_bipush X (v := 6) dL_mules_392 (by decide) ?_
            refine zr_lld X hw lr_g (6) (6) (rfl) (by decide) rfl dL_mules_394 ?_
            refine zr_icmp_ne X (tgt := 402) dL_mules_395 (by decide) (fun h => False.elim (h rfl)) (fun _ => ?_)
            refine zr_iconst X (v := 1) dL_mules_398 (by decide) ?_
            refine zr_goto X (tgt := 403) dL_mules_399 (by decide) ?_
            exact zretp_z E rfl (Or.inr rfl) dL_mules_403 (aend (LX_mono (Kn.lx (B := B + 60) hX3 ((dSe_lo (by omega) (by decide)).trans hm) hm4 ((dSe_lo (by omega) (by decide)).trans hb) hb10 (jn_send hm4 hb10 hq (why_0 (hM q hq) h11) jn)) (by omega)))
          · refine zr_aload_n X 3 dL_mules_299 rfl rfl ?_
            refine zr_iload X 2 dL_mules_300 rfl ?_
            refine zr_iload X 0 dL_mules_302 rfl ?_
            refine zr_cVp X (As := [.int (nI q), .int (nI N)]) (rest := []) zc_X8_send (0) (show 0 < w.1 by rw [hw]; decide) ((lW_lo (by decide)).trans (CX_0 hX)) (q9 := _) rfl rfl (zSp.d (ca_send  hw (CX_lW hX) (by omega)) (se_d1 hm hm4 hq (hM q hq) hN1 hN2 h12)) ⟨Nat.le_of_ble_eq_true rfl, Nat.le_of_ble_eq_true rfl⟩ ⟨Nat.le_refl _, Nat.le_refl _⟩ rfl (Nat.le_of_ble_eq_true rfl) zm_2_125 rfl dL_mules_304 (fun r9_4 g9_4 hp4 => ?_)
            obtain ⟨rfl, hQ4, hF4⟩ := hp4
            have hX4 : CX w cy g9_4 (B + 60) (s) := hQ4
            refine zcw (f2 := lW cy g9_4 s) (lW_back hF4) ?_
            show G (w, 0, 0) (lW cy g9_4 s) [(7, .int (nI N)), (6, .int (nI (9 * q))), (5, .int (nI q)), (0, .ref (w.2 (0))), (1, .ref (w.2 (132))), (2, .ref (w.2 (133))), (3, .int (x)), (4, .int (nI Y))] 307 [.int ((-1000002))]
            refine zr_ldc X zm_2_151 dL_mules_307 ?_
            refine zr_icmp_ne X (tgt := 316) dL_mules_309 (by decide) (fun h => False.elim (h rfl)) (fun _ => ?_)
            refine zr_iconst X (v := 1) dL_mules_312 (by decide) ?_
            refine zr_goto X (tgt := 317) dL_mules_313 (by decide) ?_
            exact zretp_z E rfl (Or.inr rfl) dL_mules_317 (aend (LX_mono (Kn.lx (B := B + 60) hX4 hm hm4 hb hb10 jn) (by omega)))
      · refine zr_aload_n X 4 dL_mules_194 rfl rfl ?_
        refine zr_iload X 0 dL_mules_195 rfl ?_
        refine zr_iconst X (v := 2) dL_mules_197 (by decide) ?_
        refine zr_iadd X dL_mules_198 ?_
        refine zr_lld X hw lr_m (9 * q + 2) (19 + 9 * q + 2) (nI_add _ 2) (by omega) (by omega) dL_mules_199 ?_
        refine zr_if_le X (tgt := 220) dL_mules_200 (by decide) (fun h13 => ?_) (fun h14 => ?_)
        · refine zr_aload_n X 4 dL_mules_220 rfl rfl ?_
          refine zr_iload X 0 dL_mules_221 rfl ?_
          refine zr_bipush X (v := 6) dL_mules_223 (by decide) ?_
          refine zr_iadd X dL_mules_225 ?_
          refine zr_lld X hw lr_m (9 * q + 6) (19 + 9 * q + 6) (nI_add _ 6) (by omega) (by omega) dL_mules_226 ?_
          refine zr_istore X (ls' := [(7, .int (s (19 + 9 * q + 6))), (6, .int (nI (9 * q))), (5, .int (nI q)), (0, .ref (w.2 (0))), (1, .ref (w.2 (132))), (2, .ref (w.2 (133))), (3, .int (x)), (4, .int (nI Y))]) dL_mules_227 (by decide) rfl ?_
          refine zr_aload_n X 5 dL_mules_229 rfl rfl ?_
          refine zr_iload X 1 dL_mules_230 rfl ?_
          refine zr_bipush X (v := 6) dL_mules_232 (by decide) ?_
          refine zr_iadd X dL_mules_234 ?_
          refine zr_iconst X (v := 0) dL_mules_235 (by decide) ?_
          refine zr_lst X hw lr_m (9 * q + 6) (19 + 9 * q + 6) (nI_add _ 6) (by omega) (by omega) dL_mules_236 ?_
          refine zr_aload_n X 3 dL_mules_237 rfl rfl ?_
          refine zr_iload X 2 dL_mules_238 rfl ?_
          refine zr_cVp X (As := [.int (nI q)]) (rest := []) zc_X8_rest (0) (show 0 < w.1 by rw [hw]; decide) ((lW_lo (by decide)).trans (CX_0 hX)) (q9 := _) rfl rfl (zSp.d (ca_rest  hw (CX_lW hX) (by omega)) (re_d2 hm hm4 hq (hM q hq) h13)) ⟨Nat.le_of_ble_eq_true rfl, Nat.le_of_ble_eq_true rfl⟩ ⟨Nat.le_refl _, Nat.le_refl _⟩ rfl (Nat.le_of_ble_eq_true rfl) zm_2_143 rfl dL_mules_240 (fun r9_5 g9_5 hp5 => ?_)
          obtain ⟨rfl, hQ5, hF5⟩ := hp5
          have hX5 : CX w cy g9_5 (B + 60) (upd s (19 + 9 * q + 6) 0) := hQ5
          refine zcw (f2 := lW cy g9_5 (upd s (19 + 9 * q + 6) 0)) (lW_back hF5) ?_
          show G (w, 0, 0) (lW cy g9_5 (upd s (19 + 9 * q + 6) 0)) [(7, .int (s (19 + 9 * q + 6))), (6, .int (nI (9 * q))), (5, .int (nI q)), (0, .ref (w.2 (0))), (1, .ref (w.2 (132))), (2, .ref (w.2 (133))), (3, .int (x)), (4, .int (nI Y))] 243 [.int (s (19 + 9 * q + 6))]
          refine zr_iload X 0 dL_mules_243 rfl ?_
          refine zr_icmp_ne X (tgt := 252) dL_mules_245 (by decide) (fun h => False.elim (h rfl)) (fun _ => ?_)
          refine zr_iconst X (v := 1) dL_mules_248 (by decide) ?_
          refine zr_goto X (tgt := 253) dL_mules_249 (by decide) ?_
          exact zretp_z E rfl (Or.inr rfl) dL_mules_253 (aend (LX_mono (Kn.lx (B := B + 60) hX5 ((upd_ne (by omega)).trans hm) hm4 ((upd_ne (by omega)).trans hb) hb10 (jn_rest (by omega) jn hm4 hb10)) (by omega)))
        · refine zr_aload_n X 2 dL_mules_203 rfl rfl ?_
          refine zr_iload X 1 dL_mules_204 rfl ?_
          refine zr_cVp X (As := [.int (nI q)]) (rest := []) zc_X8_rest (0) (show 0 < w.1 by rw [hw]; decide) ((lW_lo (by decide)).trans (CX_0 hX)) (q9 := _) rfl rfl (zSp.d (ca_rest  hw (CX_lW hX) (by omega)) (re_d1 hm hm4 hq (hM q hq) h14)) ⟨Nat.le_of_ble_eq_true rfl, Nat.le_of_ble_eq_true rfl⟩ ⟨Nat.le_refl _, Nat.le_refl _⟩ rfl (Nat.le_of_ble_eq_true rfl) zm_2_143 rfl dL_mules_206 (fun r9_6 g9_6 hp6 => ?_)
          obtain ⟨rfl, hQ6, hF6⟩ := hp6
          have hX6 : CX w cy g9_6 (B + 60) (s) := hQ6
          refine zcw (f2 := lW cy g9_6 s) (lW_back hF6) ?_
          show G (w, 0, 0) (lW cy g9_6 s) [(6, .int (nI (9 * q))), (5, .int (nI q)), (0, .ref (w.2 (0))), (1, .ref (w.2 (132))), (2, .ref (w.2 (133))), (3, .int (x)), (4, .int (nI Y))] 209 [.int ((-1000002))]
          refine zr_ldc X zm_2_151 dL_mules_209 ?_
          refine zr_icmp_ne X (tgt := 218) dL_mules_211 (by decide) (fun h => False.elim (h rfl)) (fun _ => ?_)
          refine zr_iconst X (v := 1) dL_mules_214 (by decide) ?_
          refine zr_goto X (tgt := 219) dL_mules_215 (by decide) ?_
          exact zretp_z E rfl (Or.inr rfl) dL_mules_219 (aend (LX_mono (Kn.lx (B := B + 60) hX6 hm hm4 hb hb10 jn) (by omega)))
    · refine zr_aload_n X 0 dL_mules_147 rfl rfl ?_
      refine zr_iconst X (v := 0) dL_mules_148 (by decide) ?_
      refine zr_iconst X (v := 1) dL_mules_149 (by decide) ?_
      refine zr_cVp X (As := [.int (0), .int (1)]) (rest := []) zc_X8_send (0) (show 0 < w.1 by rw [hw]; decide) ((lW_lo (by decide)).trans (CX_0 hX)) (q9 := _) rfl rfl (zSp.d (ca_send  hw (CX_lW hX) (by omega)) (no_send h4)) ⟨Nat.le_of_ble_eq_true rfl, Nat.le_of_ble_eq_true rfl⟩ ⟨Nat.le_refl _, Nat.le_refl _⟩ rfl (Nat.le_of_ble_eq_true rfl) zm_2_125 rfl dL_mules_150 (fun r9_7 g9_7 hp7 => ?_)
      obtain ⟨rfl, hQ7, hF7⟩ := hp7
      have hX7 : CX w cy g9_7 (B + 60) (s) := hQ7
      refine zcw (f2 := lW cy g9_7 s) (lW_back hF7) ?_
      show G (w, 0, 0) (lW cy g9_7 s) [(0, .ref (w.2 (0))), (1, .ref (w.2 (132))), (2, .ref (w.2 (133))), (3, .int (x)), (4, .int (nI Y))] 153 [.int ((-1000001))]
      refine zr_ldc X zm_2_142 dL_mules_153 ?_
      refine zr_icmp_ne X (tgt := 172) dL_mules_155 (by decide) (fun h => False.elim (h rfl)) (fun _ => ?_)
      refine zr_aload_n X 0 dL_mules_158 rfl rfl ?_
      refine zr_iconst X (v := 0) dL_mules_159 (by decide) ?_
      refine zr_cVp X (As := [.int (0)]) (rest := []) zc_X8_rest (0) (show 0 < w.1 by rw [hw]; decide) ((lW_lo (by decide)).trans (CX_0 hX7)) (q9 := _) rfl rfl (zSp.d (ca_rest  hw (CX_lW hX7) (by omega)) (no_rest h4)) ⟨Nat.le_of_ble_eq_true rfl, Nat.le_of_ble_eq_true rfl⟩ ⟨Nat.le_refl _, Nat.le_refl _⟩ rfl (Nat.le_of_ble_eq_true rfl) zm_2_143 rfl dL_mules_160 (fun r9_8 g9_8 hp8 => ?_)
      obtain ⟨rfl, hQ8, hF8⟩ := hp8
      have hX8 : CX w cy g9_8 (B + 60 + 60) (s) := hQ8
      refine zcw (f2 := lW cy g9_8 s) (lW_back hF8) ?_
      show G (w, 0, 0) (lW cy g9_8 s) [(0, .ref (w.2 (0))), (1, .ref (w.2 (132))), (2, .ref (w.2 (133))), (3, .int (x)), (4, .int (nI Y))] 163 [.int ((-1000001))]
      refine zr_ldc X zm_2_142 dL_mules_163 ?_
      refine zr_icmp_ne X (tgt := 172) dL_mules_165 (by decide) (fun h => False.elim (h rfl)) (fun _ => ?_)
      refine zr_iconst X (v := 1) dL_mules_168 (by decide) ?_
      refine zr_goto X (tgt := 173) dL_mules_169 (by decide) ?_
      exact zretp_z E rfl (Or.inr rfl) dL_mules_173 (aend (LX_mono (Kn.lx (B := B + 60 + 60) hX8 hm hm4 hb hb10 jn) (by omega)))
  · refine zr_iconst X (v := 1) dL_mules_5 (by decide) ?_
    refine zr_iload X 4 dL_mules_6 rfl ?_
    refine zr_bipush X (v := 30) dL_mules_8 (by decide) ?_
    refine zr_irem X dL_mules_10 (by decide) ?_
    refine zr_iadd X dL_mules_11 ?_
    refine zr_istore X (ls' := [(5, .int (1 + ((nI Y) - (nI Y) / 30 * 30))), (0, .ref (w.2 (0))), (1, .ref (w.2 (132))), (2, .ref (w.2 (133))), (3, .int (x)), (4, .int (nI Y))]) dL_mules_12 (by decide) rfl ?_
    obtain ⟨A, hA1, hA2, eA⟩ := nm_1 (Y := Y) (n := 30) (c := 1) (by omega) (by decide) (by decide)
    rw [show (1 : Int32) + (nI Y - nI Y / 30 * 30) = nI A from eA]
    show G (w, 0, 0) (lW cy f s) [(5, .int (nI A)), (0, .ref (w.2 (0))), (1, .ref (w.2 (132))), (2, .ref (w.2 (133))), (3, .int (x)), (4, .int (nI Y))] 14 []
    refine zr_iconst X (v := 1) dL_mules_14 (by decide) ?_
    refine zr_iload X 5 dL_mules_15 rfl ?_
    refine zr_bipush X (v := 30) dL_mules_17 (by decide) ?_
    refine zr_idiv X dL_mules_19 (by decide) ?_
    refine zr_iload X 5 dL_mules_20 rfl ?_
    refine zr_iconst X (v := 4) dL_mules_22 (by decide) ?_
    refine zr_irem X dL_mules_23 (by decide) ?_
    refine zr_if_ne X (tgt := 32) dL_mules_24 (by decide) (fun h15 => ?_) (fun h16 => ?_)
    · refine zr_iconst X (v := 3) dL_mules_32 (by decide) ?_
      refine zr_irem X dL_mules_33 (by decide) ?_
      refine zr_iadd X dL_mules_34 ?_
      refine zr_istore X (ls' := [(6, .int (1 + (((nI Y) / 30) - ((nI Y) / 30) / 3 * 3))), (5, .int (nI A)), (0, .ref (w.2 (0))), (1, .ref (w.2 (132))), (2, .ref (w.2 (133))), (3, .int (x)), (4, .int (nI Y))]) dL_mules_35 (by decide) rfl ?_
      obtain ⟨C, hC1, hC2, eC⟩ := nm_2 (Y := Y) (d := 30) (n := 3) (c := 1) (by omega) (by decide) (by decide) (by decide) (by decide)
      rw [show (1 : Int32) + (nI Y / 30 - nI Y / 30 / 3 * 3) = nI C from eC]
      show G (w, 0, 0) (lW cy f s) [(6, .int (nI C)), (5, .int (nI A)), (0, .ref (w.2 (0))), (1, .ref (w.2 (132))), (2, .ref (w.2 (133))), (3, .int (x)), (4, .int (nI Y))] 37 []
      refine zr_aload_n X 3 dL_mules_37 rfl rfl ?_
      refine zr_iconst X (v := 0) dL_mules_38 (by decide) ?_
      refine zr_lld X hw lr_g (0) (0) (rfl) (by decide) rfl dL_mules_39 ?_
      refine zr_iconst X (v := 4) dL_mules_40 (by decide) ?_
      refine zr_icmp_ne X (tgt := 63) dL_mules_41 (by decide) (fun h17 => ?_) (fun h18 => ?_)
      · refine zr_iconst X (v := 0) dL_mules_63 (by decide) ?_
        refine zr_istore X (ls' := [(7, .int (0)), (6, .int (nI C)), (5, .int (nI A)), (0, .ref (w.2 (0))), (1, .ref (w.2 (132))), (2, .ref (w.2 (133))), (3, .int (x)), (4, .int (nI Y))]) dL_mules_64 (by decide) rfl ?_
        refine zr_loc X (ls' := [(0, .ref (w.2 (0))), (1, .ref (w.2 (132))), (2, .ref (w.2 (133))), (3, .int (x)), (4, .int (nI Y)), (5, .int (nI A)), (6, .int (nI C)), (7, .int (0))]) [3, 4, 5, 6, 7, 2, 1, 0] rfl ?_
        refine zcast (f2 := lW cy f (lMl s mc (nI A) (nI C) (0))) (ls2 := [(0, .ref (w.2 (0))), (1, .ref (w.2 (132))), (2, .ref (w.2 (133))), (3, .int (x)), (4, .int (nI Y)), (5, .int (nI A)), (6, .int (nI C)), (7, .int (nI (0)))]) rfl rfl ?_
        refine zdown (P := fun n => G (w, 0, 0) (lW cy f (lMl s mc (nI A) (nI C) (n))) [(0, .ref (w.2 (0))), (1, .ref (w.2 (132))), (2, .ref (w.2 (133))), (3, .int (x)), (4, .int (nI Y)), (5, .int (nI A)), (6, .int (nI C)), (7, .int (nI (n)))] 66 []) (B := 9) ?_ (fun n hn66 ih66 => ?_) 0 (Nat.zero_le _) 
        · show G (w, 0, 0) (lW cy f (lMl s mc (nI A) (nI C) (9))) [(0, .ref (w.2 (0))), (1, .ref (w.2 (132))), (2, .ref (w.2 (133))), (3, .int (x)), (4, .int (nI Y)), (5, .int (nI A)), (6, .int (nI C)), (7, .int (nI (9)))] 66 []
          refine zr_iload X 7 dL_mules_66 rfl ?_
          refine zr_bipush X (v := 9) dL_mules_68 (by decide) ?_
          refine zr_icmp_ge X (tgt := 112) dL_mules_70 (by decide) (fun _ => ?_) (fun h => False.elim (h (by decide)))
          refine zr_aload_n X 1 dL_mules_112 rfl rfl ?_
          refine zr_iconst X (v := 0) dL_mules_113 (by decide) ?_
          refine zr_dup2 X dL_mules_114 rfl rfl ?_
          refine zr_lld X hw lr_g (0) (0) (rfl) (by decide) rfl dL_mules_115 ?_
          refine zr_iconst X (v := 1) dL_mules_116 (by decide) ?_
          refine zr_iadd X dL_mules_117 ?_
          refine zr_lst X hw lr_g (0) (0) (rfl) (by decide) rfl dL_mules_118 ?_
          refine zcw (f2 := lW cy f (upd (dMn s mc (nI A) (nI C)) 0 ((dMn s mc (nI A) (nI C)) 0 + 1))) (by rw [lMl_eq]) ?_
          refine zr_aload_n X 0 dL_mules_119 rfl rfl ?_
          refine zr_iload X 5 dL_mules_120 rfl ?_
          refine zr_iload X 6 dL_mules_122 rfl ?_
          refine zr_cVp X (As := [.int (nI A), .int (nI C)]) (rest := []) zc_X8_mule (0) (show 0 < w.1 by rw [hw]; decide) ((lW_lo (by decide)).trans (CX_0 hX)) (q9 := _) rfl rfl (zSp.d (ca_mule mc hm hm4 hw (CX_lW hX) (by omega)) (mu_d2 hA1 hA2 hC1 (by omega) h17)) ⟨Nat.le_of_ble_eq_true rfl, Nat.le_of_ble_eq_true rfl⟩ ⟨Nat.le_refl _, Nat.le_refl _⟩ rfl (Nat.le_of_ble_eq_true rfl) zm_2_70 rfl dL_mules_124 (fun r9_9 g9_9 hp9 => ?_)
          obtain ⟨rfl, hQ9, hF9⟩ := hp9
          have hX9 : CX w cy g9_9 (B + 60) (upd (dMn s mc (nI A) (nI C)) 0 ((dMn s mc (nI A) (nI C)) 0 + 1)) := hQ9
          refine zcw (f2 := lW cy g9_9 (upd (dMn s mc (nI A) (nI C)) 0 ((dMn s mc (nI A) (nI C)) 0 + 1))) (lW_back hF9) ?_
          show G (w, 0, 0) (lW cy g9_9 (upd (dMn s mc (nI A) (nI C)) 0 ((dMn s mc (nI A) (nI C)) 0 + 1))) [(0, .ref (w.2 (0))), (1, .ref (w.2 (132))), (2, .ref (w.2 (133))), (3, .int (x)), (4, .int (nI Y)), (5, .int (nI A)), (6, .int (nI C)), (7, .int (nI (9)))] 127 [.int (s 0)]
          refine zr_aload_n X 1 dL_mules_127 rfl rfl ?_
          refine zr_iconst X (v := 0) dL_mules_128 (by decide) ?_
          refine zr_lld X hw lr_g (0) (0) (rfl) (by decide) rfl dL_mules_129 ?_
          refine zr_iconst X (v := 1) dL_mules_130 (by decide) ?_
          refine zr_isub X dL_mules_131 ?_
          refine zr_icmp_ne X (tgt := 139) dL_mules_132 (by decide) (fun h => False.elim (h (by rw [upd_eq, dMn_out (.inl (by omega))]; exact (Int32.add_sub_cancel _ _).symm))) (fun _ => ?_)
          refine zr_iconst X (v := 1) dL_mules_135 (by decide) ?_
          refine zr_goto X (tgt := 140) dL_mules_136 (by decide) ?_
          exact zretp_z E rfl (Or.inr rfl) dL_mules_140 (aend (LX_mono (Kn.lx (B := B + 60) hX9 (mc := mc + 1) (by rw [upd_eq, dMn_out (.inl (by omega)), hm]; exact nI_1 mc) (mcl hm hm4 h17) ((upd_ne (by decide)).trans ((dMn_out (.inl (by omega))).trans hb)) hb10 (jn_mule (mcl hm hm4 h17) hb10 jn)) (by omega)))
        · show G (w, 0, 0) (lW cy f (lMl s mc (nI A) (nI C) (n))) [(0, .ref (w.2 (0))), (1, .ref (w.2 (132))), (2, .ref (w.2 (133))), (3, .int (x)), (4, .int (nI Y)), (5, .int (nI A)), (6, .int (nI C)), (7, .int (nI (n)))] 66 []
          refine zr_iload X 7 dL_mules_66 rfl ?_
          refine zr_bipush X (v := 9) dL_mules_68 (by decide) ?_
          refine zr_icmp_ge X (tgt := 112) dL_mules_70 (by decide) (fun h => False.elim (nI_ge hn66 (by decide) h)) (fun _ => ?_)
          refine zr_aload_n X 2 dL_mules_73 rfl rfl ?_
          refine zr_bipush X (v := 9) dL_mules_74 (by decide) ?_
          refine zr_aload_n X 1 dL_mules_76 rfl rfl ?_
          refine zr_iconst X (v := 0) dL_mules_77 (by decide) ?_
          refine zr_lld X hw lr_g (0) (0) (rfl) (by decide) rfl dL_mules_78 ?_
          refine zr_imul X dL_mules_79 ?_
          refine zr_iload X 7 dL_mules_80 rfl ?_
          refine zr_iadd X dL_mules_82 ?_
          refine zr_iload X 7 dL_mules_83 rfl ?_
          refine zr_if_ne X (tgt := 93) dL_mules_85 (by decide) (fun h19 => ?_) (fun h20 => ?_)
          · refine zr_iload X 7 dL_mules_93 rfl ?_
            refine zr_iconst X (v := 1) dL_mules_95 (by decide) ?_
            refine zr_icmp_ne X (tgt := 104) dL_mules_96 (by decide) (fun h21 => ?_) (fun h22 => ?_)
            · refine zr_iconst X (v := 0) dL_mules_104 (by decide) ?_
              refine zr_lst X hw lr_m (9 * mc + n) (19 + 9 * mc + n) ((by rw [lMl_out _ (.inl (by omega)), hm]; exact nI_mul9 (c := 9))) (by have := mcl hm hm4 h17; omega) (by omega) dL_mules_105 ?_
              refine zr_iinc X (v := nI (n + 1)) (ls' := [(7, .int (nI (n + 1))), (0, .ref (w.2 (0))), (1, .ref (w.2 (132))), (2, .ref (w.2 (133))), (3, .int (x)), (4, .int (nI Y)), (5, .int (nI A)), (6, .int (nI C))]) 7 dL_mules_106 rfl (zinc1 _) (by decide) rfl ?_
              refine zr_goto X (tgt := 66) dL_mules_109 (by decide) ?_
              refine zr_loc X (ls' := [(0, .ref (w.2 (0))), (1, .ref (w.2 (132))), (2, .ref (w.2 (133))), (3, .int (x)), (4, .int (nI Y)), (5, .int (nI A)), (6, .int (nI C)), (7, .int (nI (n + 1)))]) [1, 2, 3, 4, 5, 6, 7, 0] rfl ?_
              exact zcast (f2 := lW cy f (lMl s mc (nI A) (nI C) (n + 1))) (ls2 := [(0, .ref (w.2 (0))), (1, .ref (w.2 (132))), (2, .ref (w.2 (133))), (3, .int (x)), (4, .int (nI Y)), (5, .int (nI A)), (6, .int (nI C)), (7, .int (nI (n + 1)))]) (by rw [lMl_s]; rw [if_neg h19, if_neg h21]) rfl ih66
            · refine zr_iload X 6 dL_mules_99 rfl ?_
              refine zr_goto X (tgt := 105) dL_mules_101 (by decide) ?_
              refine zr_lst X hw lr_m (9 * mc + n) (19 + 9 * mc + n) ((by rw [lMl_out _ (.inl (by omega)), hm]; exact nI_mul9 (c := 9))) (by have := mcl hm hm4 h17; omega) (by omega) dL_mules_105 ?_
              refine zr_iinc X (v := nI (n + 1)) (ls' := [(7, .int (nI (n + 1))), (0, .ref (w.2 (0))), (1, .ref (w.2 (132))), (2, .ref (w.2 (133))), (3, .int (x)), (4, .int (nI Y)), (5, .int (nI A)), (6, .int (nI C))]) 7 dL_mules_106 rfl (zinc1 _) (by decide) rfl ?_
              refine zr_goto X (tgt := 66) dL_mules_109 (by decide) ?_
              refine zr_loc X (ls' := [(0, .ref (w.2 (0))), (1, .ref (w.2 (132))), (2, .ref (w.2 (133))), (3, .int (x)), (4, .int (nI Y)), (5, .int (nI A)), (6, .int (nI C)), (7, .int (nI (n + 1)))]) [1, 2, 3, 4, 5, 6, 7, 0] rfl ?_
              exact zcast (f2 := lW cy f (lMl s mc (nI A) (nI C) (n + 1))) (ls2 := [(0, .ref (w.2 (0))), (1, .ref (w.2 (132))), (2, .ref (w.2 (133))), (3, .int (x)), (4, .int (nI Y)), (5, .int (nI A)), (6, .int (nI C)), (7, .int (nI (n + 1)))]) (by rw [lMl_s]; rw [if_neg h19, if_pos h22]) rfl ih66
          · refine zr_iload X 5 dL_mules_88 rfl ?_
            refine zr_goto X (tgt := 105) dL_mules_90 (by decide) ?_
            refine zr_lst X hw lr_m (9 * mc + n) (19 + 9 * mc + n) ((by rw [lMl_out _ (.inl (by omega)), hm]; exact nI_mul9 (c := 9))) (by have := mcl hm hm4 h17; omega) (by omega) dL_mules_105 ?_
            refine zr_iinc X (v := nI (n + 1)) (ls' := [(7, .int (nI (n + 1))), (0, .ref (w.2 (0))), (1, .ref (w.2 (132))), (2, .ref (w.2 (133))), (3, .int (x)), (4, .int (nI Y)), (5, .int (nI A)), (6, .int (nI C))]) 7 dL_mules_106 rfl (zinc1 _) (by decide) rfl ?_
            refine zr_goto X (tgt := 66) dL_mules_109 (by decide) ?_
            refine zr_loc X (ls' := [(0, .ref (w.2 (0))), (1, .ref (w.2 (132))), (2, .ref (w.2 (133))), (3, .int (x)), (4, .int (nI Y)), (5, .int (nI A)), (6, .int (nI C)), (7, .int (nI (n + 1)))]) [1, 2, 3, 4, 5, 6, 7, 0] rfl ?_
            exact zcast (f2 := lW cy f (lMl s mc (nI A) (nI C) (n + 1))) (ls2 := [(0, .ref (w.2 (0))), (1, .ref (w.2 (132))), (2, .ref (w.2 (133))), (3, .int (x)), (4, .int (nI Y)), (5, .int (nI A)), (6, .int (nI C)), (7, .int (nI (n + 1)))]) (by rw [lMl_s]; rw [if_pos h20]) rfl ih66
      · refine zr_aload_n X 2 dL_mules_44 rfl rfl ?_
        refine zr_iload X 1 dL_mules_45 rfl ?_
        refine zr_iload X 0 dL_mules_47 rfl ?_
        refine zr_cVp X (As := [.int (nI A), .int (nI C)]) (rest := []) zc_X8_mule (0) (show 0 < w.1 by rw [hw]; decide) ((lW_lo (by decide)).trans (CX_0 hX)) (q9 := _) rfl rfl (zSp.d (ca_mule mc hm hm4 hw (CX_lW hX) (by omega)) (mu_d1 hA1 hA2 hC1 (by omega) h18)) ⟨Nat.le_of_ble_eq_true rfl, Nat.le_of_ble_eq_true rfl⟩ ⟨Nat.le_refl _, Nat.le_refl _⟩ rfl (Nat.le_of_ble_eq_true rfl) zm_2_70 rfl dL_mules_49 (fun r9_10 g9_10 hp10 => ?_)
        obtain ⟨rfl, hQ10, hF10⟩ := hp10
        have hX10 : CX w cy g9_10 (B + 60) (s) := hQ10
        refine zcw (f2 := lW cy g9_10 s) (lW_back hF10) ?_
        show G (w, 0, 0) (lW cy g9_10 s) [(6, .int (nI C)), (5, .int (nI A)), (0, .ref (w.2 (0))), (1, .ref (w.2 (132))), (2, .ref (w.2 (133))), (3, .int (x)), (4, .int (nI Y))] 52 [.int ((-1000003))]
        refine zr_ldc X zm_2_124 dL_mules_52 ?_
        refine zr_icmp_ne X (tgt := 61) dL_mules_54 (by decide) (fun h => False.elim (h rfl)) (fun _ => ?_)
        refine zr_iconst X (v := 1) dL_mules_57 (by decide) ?_
        refine zr_goto X (tgt := 62) dL_mules_58 (by decide) ?_
        exact zretp_z E rfl (Or.inr rfl) dL_mules_62 (aend (LX_mono (Kn.lx (B := B + 60) hX10 hm hm4 hb hb10 jn) (by omega)))
    · refine zr_bipush X (v := 9) dL_mules_27 (by decide) ?_
      refine zr_goto X (tgt := 33) dL_mules_29 (by decide) ?_
      refine zr_irem X dL_mules_33 (by decide) ?_
      refine zr_iadd X dL_mules_34 ?_
      refine zr_istore X (ls' := [(6, .int (1 + (((nI Y) / 30) - ((nI Y) / 30) / 9 * 9))), (5, .int (nI A)), (0, .ref (w.2 (0))), (1, .ref (w.2 (132))), (2, .ref (w.2 (133))), (3, .int (x)), (4, .int (nI Y))]) dL_mules_35 (by decide) rfl ?_
      obtain ⟨C, hC1, hC2, eC⟩ := nm_2 (Y := Y) (d := 30) (n := 9) (c := 1) (by omega) (by decide) (by decide) (by decide) (by decide)
      rw [show (1 : Int32) + (nI Y / 30 - nI Y / 30 / 9 * 9) = nI C from eC]
      show G (w, 0, 0) (lW cy f s) [(6, .int (nI C)), (5, .int (nI A)), (0, .ref (w.2 (0))), (1, .ref (w.2 (132))), (2, .ref (w.2 (133))), (3, .int (x)), (4, .int (nI Y))] 37 []
      refine zr_aload_n X 3 dL_mules_37 rfl rfl ?_
      refine zr_iconst X (v := 0) dL_mules_38 (by decide) ?_
      refine zr_lld X hw lr_g (0) (0) (rfl) (by decide) rfl dL_mules_39 ?_
      refine zr_iconst X (v := 4) dL_mules_40 (by decide) ?_
      refine zr_icmp_ne X (tgt := 63) dL_mules_41 (by decide) (fun h23 => ?_) (fun h24 => ?_)
      · refine zr_iconst X (v := 0) dL_mules_63 (by decide) ?_
        refine zr_istore X (ls' := [(7, .int (0)), (6, .int (nI C)), (5, .int (nI A)), (0, .ref (w.2 (0))), (1, .ref (w.2 (132))), (2, .ref (w.2 (133))), (3, .int (x)), (4, .int (nI Y))]) dL_mules_64 (by decide) rfl ?_
        refine zr_loc X (ls' := [(0, .ref (w.2 (0))), (1, .ref (w.2 (132))), (2, .ref (w.2 (133))), (3, .int (x)), (4, .int (nI Y)), (5, .int (nI A)), (6, .int (nI C)), (7, .int (0))]) [3, 4, 5, 6, 7, 2, 1, 0] rfl ?_
        refine zcast (f2 := lW cy f (lMl s mc (nI A) (nI C) (0))) (ls2 := [(0, .ref (w.2 (0))), (1, .ref (w.2 (132))), (2, .ref (w.2 (133))), (3, .int (x)), (4, .int (nI Y)), (5, .int (nI A)), (6, .int (nI C)), (7, .int (nI (0)))]) rfl rfl ?_
        refine zdown (P := fun n => G (w, 0, 0) (lW cy f (lMl s mc (nI A) (nI C) (n))) [(0, .ref (w.2 (0))), (1, .ref (w.2 (132))), (2, .ref (w.2 (133))), (3, .int (x)), (4, .int (nI Y)), (5, .int (nI A)), (6, .int (nI C)), (7, .int (nI (n)))] 66 []) (B := 9) ?_ (fun n hn66 ih66 => ?_) 0 (Nat.zero_le _) 
        · show G (w, 0, 0) (lW cy f (lMl s mc (nI A) (nI C) (9))) [(0, .ref (w.2 (0))), (1, .ref (w.2 (132))), (2, .ref (w.2 (133))), (3, .int (x)), (4, .int (nI Y)), (5, .int (nI A)), (6, .int (nI C)), (7, .int (nI (9)))] 66 []
          refine zr_iload X 7 dL_mules_66 rfl ?_
          refine zr_bipush X (v := 9) dL_mules_68 (by decide) ?_
          refine zr_icmp_ge X (tgt := 112) dL_mules_70 (by decide) (fun _ => ?_) (fun h => False.elim (h (by decide)))
          refine zr_aload_n X 1 dL_mules_112 rfl rfl ?_
          refine zr_iconst X (v := 0) dL_mules_113 (by decide) ?_
          refine zr_dup2 X dL_mules_114 rfl rfl ?_
          refine zr_lld X hw lr_g (0) (0) (rfl) (by decide) rfl dL_mules_115 ?_
          refine zr_iconst X (v := 1) dL_mules_116 (by decide) ?_
          refine zr_iadd X dL_mules_117 ?_
          refine zr_lst X hw lr_g (0) (0) (rfl) (by decide) rfl dL_mules_118 ?_
          refine zcw (f2 := lW cy f (upd (dMn s mc (nI A) (nI C)) 0 ((dMn s mc (nI A) (nI C)) 0 + 1))) (by rw [lMl_eq]) ?_
          refine zr_aload_n X 0 dL_mules_119 rfl rfl ?_
          refine zr_iload X 5 dL_mules_120 rfl ?_
          refine zr_iload X 6 dL_mules_122 rfl ?_
          refine zr_cVp X (As := [.int (nI A), .int (nI C)]) (rest := []) zc_X8_mule (0) (show 0 < w.1 by rw [hw]; decide) ((lW_lo (by decide)).trans (CX_0 hX)) (q9 := _) rfl rfl (zSp.d (ca_mule mc hm hm4 hw (CX_lW hX) (by omega)) (mu_d2 hA1 hA2 hC1 (by omega) h23)) ⟨Nat.le_of_ble_eq_true rfl, Nat.le_of_ble_eq_true rfl⟩ ⟨Nat.le_refl _, Nat.le_refl _⟩ rfl (Nat.le_of_ble_eq_true rfl) zm_2_70 rfl dL_mules_124 (fun r9_11 g9_11 hp11 => ?_)
          obtain ⟨rfl, hQ11, hF11⟩ := hp11
          have hX11 : CX w cy g9_11 (B + 60) (upd (dMn s mc (nI A) (nI C)) 0 ((dMn s mc (nI A) (nI C)) 0 + 1)) := hQ11
          refine zcw (f2 := lW cy g9_11 (upd (dMn s mc (nI A) (nI C)) 0 ((dMn s mc (nI A) (nI C)) 0 + 1))) (lW_back hF11) ?_
          show G (w, 0, 0) (lW cy g9_11 (upd (dMn s mc (nI A) (nI C)) 0 ((dMn s mc (nI A) (nI C)) 0 + 1))) [(0, .ref (w.2 (0))), (1, .ref (w.2 (132))), (2, .ref (w.2 (133))), (3, .int (x)), (4, .int (nI Y)), (5, .int (nI A)), (6, .int (nI C)), (7, .int (nI (9)))] 127 [.int (s 0)]
          refine zr_aload_n X 1 dL_mules_127 rfl rfl ?_
          refine zr_iconst X (v := 0) dL_mules_128 (by decide) ?_
          refine zr_lld X hw lr_g (0) (0) (rfl) (by decide) rfl dL_mules_129 ?_
          refine zr_iconst X (v := 1) dL_mules_130 (by decide) ?_
          refine zr_isub X dL_mules_131 ?_
          refine zr_icmp_ne X (tgt := 139) dL_mules_132 (by decide) (fun h => False.elim (h (by rw [upd_eq, dMn_out (.inl (by omega))]; exact (Int32.add_sub_cancel _ _).symm))) (fun _ => ?_)
          refine zr_iconst X (v := 1) dL_mules_135 (by decide) ?_
          refine zr_goto X (tgt := 140) dL_mules_136 (by decide) ?_
          exact zretp_z E rfl (Or.inr rfl) dL_mules_140 (aend (LX_mono (Kn.lx (B := B + 60) hX11 (mc := mc + 1) (by rw [upd_eq, dMn_out (.inl (by omega)), hm]; exact nI_1 mc) (mcl hm hm4 h23) ((upd_ne (by decide)).trans ((dMn_out (.inl (by omega))).trans hb)) hb10 (jn_mule (mcl hm hm4 h23) hb10 jn)) (by omega)))
        · show G (w, 0, 0) (lW cy f (lMl s mc (nI A) (nI C) (n))) [(0, .ref (w.2 (0))), (1, .ref (w.2 (132))), (2, .ref (w.2 (133))), (3, .int (x)), (4, .int (nI Y)), (5, .int (nI A)), (6, .int (nI C)), (7, .int (nI (n)))] 66 []
          refine zr_iload X 7 dL_mules_66 rfl ?_
          refine zr_bipush X (v := 9) dL_mules_68 (by decide) ?_
          refine zr_icmp_ge X (tgt := 112) dL_mules_70 (by decide) (fun h => False.elim (nI_ge hn66 (by decide) h)) (fun _ => ?_)
          refine zr_aload_n X 2 dL_mules_73 rfl rfl ?_
          refine zr_bipush X (v := 9) dL_mules_74 (by decide) ?_
          refine zr_aload_n X 1 dL_mules_76 rfl rfl ?_
          refine zr_iconst X (v := 0) dL_mules_77 (by decide) ?_
          refine zr_lld X hw lr_g (0) (0) (rfl) (by decide) rfl dL_mules_78 ?_
          refine zr_imul X dL_mules_79 ?_
          refine zr_iload X 7 dL_mules_80 rfl ?_
          refine zr_iadd X dL_mules_82 ?_
          refine zr_iload X 7 dL_mules_83 rfl ?_
          refine zr_if_ne X (tgt := 93) dL_mules_85 (by decide) (fun h25 => ?_) (fun h26 => ?_)
          · refine zr_iload X 7 dL_mules_93 rfl ?_
            refine zr_iconst X (v := 1) dL_mules_95 (by decide) ?_
            refine zr_icmp_ne X (tgt := 104) dL_mules_96 (by decide) (fun h27 => ?_) (fun h28 => ?_)
            · refine zr_iconst X (v := 0) dL_mules_104 (by decide) ?_
              refine zr_lst X hw lr_m (9 * mc + n) (19 + 9 * mc + n) ((by rw [lMl_out _ (.inl (by omega)), hm]; exact nI_mul9 (c := 9))) (by have := mcl hm hm4 h23; omega) (by omega) dL_mules_105 ?_
              refine zr_iinc X (v := nI (n + 1)) (ls' := [(7, .int (nI (n + 1))), (0, .ref (w.2 (0))), (1, .ref (w.2 (132))), (2, .ref (w.2 (133))), (3, .int (x)), (4, .int (nI Y)), (5, .int (nI A)), (6, .int (nI C))]) 7 dL_mules_106 rfl (zinc1 _) (by decide) rfl ?_
              refine zr_goto X (tgt := 66) dL_mules_109 (by decide) ?_
              refine zr_loc X (ls' := [(0, .ref (w.2 (0))), (1, .ref (w.2 (132))), (2, .ref (w.2 (133))), (3, .int (x)), (4, .int (nI Y)), (5, .int (nI A)), (6, .int (nI C)), (7, .int (nI (n + 1)))]) [1, 2, 3, 4, 5, 6, 7, 0] rfl ?_
              exact zcast (f2 := lW cy f (lMl s mc (nI A) (nI C) (n + 1))) (ls2 := [(0, .ref (w.2 (0))), (1, .ref (w.2 (132))), (2, .ref (w.2 (133))), (3, .int (x)), (4, .int (nI Y)), (5, .int (nI A)), (6, .int (nI C)), (7, .int (nI (n + 1)))]) (by rw [lMl_s]; rw [if_neg h25, if_neg h27]) rfl ih66
            · refine zr_iload X 6 dL_mules_99 rfl ?_
              refine zr_goto X (tgt := 105) dL_mules_101 (by decide) ?_
              refine zr_lst X hw lr_m (9 * mc + n) (19 + 9 * mc + n) ((by rw [lMl_out _ (.inl (by omega)), hm]; exact nI_mul9 (c := 9))) (by have := mcl hm hm4 h23; omega) (by omega) dL_mules_105 ?_
              refine zr_iinc X (v := nI (n + 1)) (ls' := [(7, .int (nI (n + 1))), (0, .ref (w.2 (0))), (1, .ref (w.2 (132))), (2, .ref (w.2 (133))), (3, .int (x)), (4, .int (nI Y)), (5, .int (nI A)), (6, .int (nI C))]) 7 dL_mules_106 rfl (zinc1 _) (by decide) rfl ?_
              refine zr_goto X (tgt := 66) dL_mules_109 (by decide) ?_
              refine zr_loc X (ls' := [(0, .ref (w.2 (0))), (1, .ref (w.2 (132))), (2, .ref (w.2 (133))), (3, .int (x)), (4, .int (nI Y)), (5, .int (nI A)), (6, .int (nI C)), (7, .int (nI (n + 1)))]) [1, 2, 3, 4, 5, 6, 7, 0] rfl ?_
              exact zcast (f2 := lW cy f (lMl s mc (nI A) (nI C) (n + 1))) (ls2 := [(0, .ref (w.2 (0))), (1, .ref (w.2 (132))), (2, .ref (w.2 (133))), (3, .int (x)), (4, .int (nI Y)), (5, .int (nI A)), (6, .int (nI C)), (7, .int (nI (n + 1)))]) (by rw [lMl_s]; rw [if_neg h25, if_pos h28]) rfl ih66
          · refine zr_iload X 5 dL_mules_88 rfl ?_
            refine zr_goto X (tgt := 105) dL_mules_90 (by decide) ?_
            refine zr_lst X hw lr_m (9 * mc + n) (19 + 9 * mc + n) ((by rw [lMl_out _ (.inl (by omega)), hm]; exact nI_mul9 (c := 9))) (by have := mcl hm hm4 h23; omega) (by omega) dL_mules_105 ?_
            refine zr_iinc X (v := nI (n + 1)) (ls' := [(7, .int (nI (n + 1))), (0, .ref (w.2 (0))), (1, .ref (w.2 (132))), (2, .ref (w.2 (133))), (3, .int (x)), (4, .int (nI Y)), (5, .int (nI A)), (6, .int (nI C))]) 7 dL_mules_106 rfl (zinc1 _) (by decide) rfl ?_
            refine zr_goto X (tgt := 66) dL_mules_109 (by decide) ?_
            refine zr_loc X (ls' := [(0, .ref (w.2 (0))), (1, .ref (w.2 (132))), (2, .ref (w.2 (133))), (3, .int (x)), (4, .int (nI Y)), (5, .int (nI A)), (6, .int (nI C)), (7, .int (nI (n + 1)))]) [1, 2, 3, 4, 5, 6, 7, 0] rfl ?_
            exact zcast (f2 := lW cy f (lMl s mc (nI A) (nI C) (n + 1))) (ls2 := [(0, .ref (w.2 (0))), (1, .ref (w.2 (132))), (2, .ref (w.2 (133))), (3, .int (x)), (4, .int (nI Y)), (5, .int (nI A)), (6, .int (nI C)), (7, .int (nI (n + 1)))]) (by rw [lMl_s]; rw [if_pos h26]) rfl ih66
      · refine zr_aload_n X 2 dL_mules_44 rfl rfl ?_
        refine zr_iload X 1 dL_mules_45 rfl ?_
        refine zr_iload X 0 dL_mules_47 rfl ?_
        refine zr_cVp X (As := [.int (nI A), .int (nI C)]) (rest := []) zc_X8_mule (0) (show 0 < w.1 by rw [hw]; decide) ((lW_lo (by decide)).trans (CX_0 hX)) (q9 := _) rfl rfl (zSp.d (ca_mule mc hm hm4 hw (CX_lW hX) (by omega)) (mu_d1 hA1 hA2 hC1 (by omega) h24)) ⟨Nat.le_of_ble_eq_true rfl, Nat.le_of_ble_eq_true rfl⟩ ⟨Nat.le_refl _, Nat.le_refl _⟩ rfl (Nat.le_of_ble_eq_true rfl) zm_2_70 rfl dL_mules_49 (fun r9_12 g9_12 hp12 => ?_)
        obtain ⟨rfl, hQ12, hF12⟩ := hp12
        have hX12 : CX w cy g9_12 (B + 60) (s) := hQ12
        refine zcw (f2 := lW cy g9_12 s) (lW_back hF12) ?_
        show G (w, 0, 0) (lW cy g9_12 s) [(6, .int (nI C)), (5, .int (nI A)), (0, .ref (w.2 (0))), (1, .ref (w.2 (132))), (2, .ref (w.2 (133))), (3, .int (x)), (4, .int (nI Y))] 52 [.int ((-1000003))]
        refine zr_ldc X zm_2_124 dL_mules_52 ?_
        refine zr_icmp_ne X (tgt := 61) dL_mules_54 (by decide) (fun h => False.elim (h rfl)) (fun _ => ?_)
        refine zr_iconst X (v := 1) dL_mules_57 (by decide) ?_
        refine zr_goto X (tgt := 62) dL_mules_58 (by decide) ?_
        exact zretp_z E rfl (Or.inr rfl) dL_mules_62 (aend (LX_mono (Kn.lx (B := B + 60) hX12 hm hm4 hb hb10 jn) (by omega)))
