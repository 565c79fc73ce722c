def zLowI : Nat → Int32
  | 0 => 1
  | 1 => 10
  | _ => 0
def zHighI : Nat → Int32
  | 0 => 9
  | 1 => 500
  | 2 => 15
  | _ => 90
theorem zLow_i : ∀ j, zLow j = .int (zLowI j)
  | 0 => rfl
  | 1 => rfl
  | _ + 2 => rfl
theorem zHigh_i : ∀ j, zHigh j = .int (zHighI j)
  | 0 => rfl
  | 1 => rfl
  | 2 => rfl
  | _ + 3 => rfl
/-- a static row that nobody writes, as a walk sees it -/
def zTab (G : zJ) (cc : ByteArray) (t : Nat) (v : Nat → Int32) : Prop :=
  (∀ (κ : zκ) (f : zF) (ls : List (Nat × Value)) (pc : Nat) (st : List Value), decode cc pc = .ok (.arraylength, 1) → G κ f ls (pc + 1) (.int 4 :: st) → G κ f ls pc (.ref t :: st)) ∧
  ∀ (κ : zκ) (f : zF) (ls : List (Nat × Value)) (pc : Nat) (st : List Value) (i : Int32) (j : Nat), i = nI j → j < 4 → decode cc pc = .ok (.iaload, 1) → G κ f ls (pc + 1) (.int (v j) :: st) → G κ f ls pc (.int i :: .ref t :: st)
section ZT
variable {l : Launch} {D : va_G} {cy : Nat → ClassId} {own : String} {cc : ByteArray} {nL : Nat} {R : Room} {nm : String} {G : zJ} {κ : zκ} {f : zF} {ls : List (Nat × Value)} {pc : Nat} {st : List Value}
theorem zr_getLow (X : zX l D cy own cc nL R nm G) {index : Nat} {host : String} (hlink : Cond.fieldLinkNest own index "HutLoaves" "LOWEST_VALUES" "[I" host ∈ zNests) (d : decode cc pc = .ok (.getstatic index, 3)) (k : ∀ t : Nat, zTab G cc t zLowI → G κ f ls (pc + 3) (.ref t :: st)) : G κ f ls pc st := by
  obtain ⟨p, e, s, m, args, below, meth, c, Q, A, rfl, hx, hb, hml, hnm, hown, hts, hA, hK⟩ := X
  intro H locs arr hP hI hAl hS hl
  obtain ⟨tl, th, h1, h2, h3, h4⟩ := hK.2.2.1
  refine va_getsN hx hb h1 hS hown (va_Nw.use rfl (hK.2.1 _ hlink)) (fun _ h9 => h9) d (k tl ⟨fun κ f ls pc st d k H locs arr hP hI hAl hS hl => ?_, fun κ f ls pc st i j hi hj d k H locs arr hP hI hAl hS hl => ?_⟩ H locs arr hP hI hAl hS hl)
  · exact va_tlen hx hb h2 hS rfl d (k H locs arr hP hI hAl hS hl)
  · subst hi
    exact va_ti hx hb h2 hS (vp_in_nI hj (by decide)) (by rw [nI_clamp (by omega)]; exact zLow_i j) d (k H locs arr hP hI hAl hS hl)
theorem zr_getHigh (X : zX l D cy own cc nL R nm G) {index : Nat} {host : String} (hlink : Cond.fieldLinkNest own index "HutLoaves" "HIGHEST_VALUES" "[I" host ∈ zNests) (d : decode cc pc = .ok (.getstatic index, 3)) (k : ∀ t : Nat, zTab G cc t zHighI → G κ f ls (pc + 3) (.ref t :: st)) : G κ f ls pc st := by
  obtain ⟨p, e, s, m, args, below, meth, c, Q, A, rfl, hx, hb, hml, hnm, hown, hts, hA, hK⟩ := X
  intro H locs arr hP hI hAl hS hl
  obtain ⟨tl, th, h1, h2, h3, h4⟩ := hK.2.2.1
  refine va_getsN hx hb h3 hS hown (va_Nw.use rfl (hK.2.1 _ hlink)) (fun _ h9 => h9) d (k th ⟨fun κ f ls pc st d k H locs arr hP hI hAl hS hl => ?_, fun κ f ls pc st i j hi hj d k H locs arr hP hI hAl hS hl => ?_⟩ H locs arr hP hI hAl hS hl)
  · exact va_tlen hx hb h4 hS rfl d (k H locs arr hP hI hAl hS hl)
  · subst hi
    exact va_ti hx hb h4 hS (vp_in_nI hj (by decide)) (by rw [nI_clamp (by omega)]; exact zHigh_i j) d (k H locs arr hP hI hAl hS hl)
end ZT
def sChgV (v : Nat → Int32) (x y : Int32) : Nat → Int32 := if x = 0 then upd v 0 y else if x = 1 then upd v 1 y else if x = 2 then upd v 2 y else upd v 3 y
def sChg (v : Nat → Int32) (x y : Int32) : Int32 × (Nat → Int32) := if x < 0 then (-1000001, v) else if 4 ≤ x then (-1000001, v) else if (zwin y (zLowI x.toNatClampNeg) (zHighI x.toNatClampNeg)) = 0 then (-1000001, v) else (sTell v x, sChgV v x y)
set_option maxHeartbeats 4000000 in
set_option maxRecDepth 100000 in
theorem k_Sett_change {l : Launch} {D : va_G} {cy : Nat → ClassId} {w : zW} {f : zF} {t : Nat} {v : Nat → Int32} {x y : Int32} (ht : t < w.1) (hf : f t = eSett v) : zSd l D cy yX6_change cX6_change 4 (some .int) 1 22 [.ref (w.2 (t)), .int (x), .int (y)] w f (some (.int ((sChg v x y).1))) (va_up f t (eSett (sChg v x y).2)) := by
  refine zSd.intro (by decide) (Nat.le_of_ble_eq_true rfl) (fun G X E => ?_)
  show G (w, 0, 0) f [(0, .ref (w.2 (t))), (1, .int (x)), (2, .int (y))] 0 []
  refine zr_iload_n X 1 dX6_change_0 rfl rfl ?_
  refine zr_if_lt X (tgt := 37) dX6_change_1 (by decide) (fun h1 => ?_) (fun h2 => ?_)
  · refine zr_ldc X zm_2_53 dX6_change_37 ?_
    exact zret_i E rfl dX6_change_39 (by simp only [sChg, sChgV, if_pos h1]) (zsame_up hf (by simp only [sChg, sChgV, if_pos h1]))
  · refine zr_iload_n X 1 dX6_change_4 rfl rfl ?_
    refine zr_getLow X (List.mem_of_getElem? (i := 29) rfl) dX6_change_5 (fun t1 ht1 => ?_)
    refine ht1.1 _ _ _ _ _ dX6_change_8 ?_
    refine zr_icmp_ge X (tgt := 37) dX6_change_9 (by decide) (fun h3 => ?_) (fun h4 => ?_)
    · refine zr_ldc X zm_2_53 dX6_change_37 ?_
      exact zret_i E rfl dX6_change_39 (by simp only [sChg, sChgV, if_neg h2, if_pos h3]) (zsame_up hf (by simp only [sChg, sChgV, if_neg h2, if_pos h3]))
    · refine zr_iload_n X 1 dX6_change_12 rfl rfl ?_
      refine zr_getHigh X (List.mem_of_getElem? (i := 30) rfl) dX6_change_13 (fun t2 ht2 => ?_)
      refine ht2.1 _ _ _ _ _ dX6_change_16 ?_
      refine zr_icmp_ge X (tgt := 37) dX6_change_17 (by decide) (fun h5 => absurd h5 h4) (fun _ => ?_)
      refine zr_iload_n X 2 dX6_change_20 rfl rfl ?_
      refine zr_getLow X (List.mem_of_getElem? (i := 29) rfl) dX6_change_21 (fun t3 ht3 => ?_)
      refine zr_iload_n X 1 dX6_change_24 rfl rfl ?_
      refine ht3.2 _ _ _ _ _ _ (x).toNatClampNeg (zix1 h2) (zix2 h2 (by decide) h4) dX6_change_25 ?_
      refine zr_getHigh X (List.mem_of_getElem? (i := 30) rfl) dX6_change_26 (fun t4 ht4 => ?_)
      refine zr_iload_n X 1 dX6_change_29 rfl rfl ?_
      refine ht4.2 _ _ _ _ _ _ (x).toNatClampNeg (zix1 h2) (zix2 h2 (by decide) h4) dX6_change_30 ?_
      refine zr_cSN X (As := [.int (y), .int (zLowI (x).toNatClampNeg), .int (zHighI (x).toNatClampNeg)]) (rest := []) (f' := f) (st' := [.int (zwin y (zLowI (x).toNatClampNeg) (zHighI (x).toNatClampNeg))]) zc_X8_isWithin k_isWithin ⟨Nat.le_of_ble_eq_true rfl, Nat.le_of_ble_eq_true rfl⟩ ⟨Nat.le_refl _, Nat.le_refl _⟩ rfl (Nat.le_of_ble_eq_true rfl) (List.mem_of_getElem? (i := 38) rfl) rfl dX6_change_31 rfl ?_
      refine zr_if_ne X (tgt := 40) dX6_change_34 (by decide) (fun h6 => ?_) (fun h7 => ?_)
      · refine zr_aload_n X 0 dX6_change_40 rfl rfl ?_
        refine zr_iload_n X 1 dX6_change_41 rfl rfl ?_
        refine zr_cV X (As := [.int (x)]) (rest := []) (f' := f) (st' := [.int (sTell v x)]) zc_X6_tell (t) ht hf (q9 := _) rfl rfl (k_Sett_tell ht hf) ⟨Nat.le_of_ble_eq_true rfl, Nat.le_of_ble_eq_true rfl⟩ ⟨Nat.le_refl _, Nat.le_refl _⟩ rfl (Nat.le_of_ble_eq_true rfl) zm_3_37 rfl dX6_change_42 rfl ?_
        refine zr_istore_n X (ls' := [(3, .int (sTell v x)), (0, .ref (w.2 (t))), (1, .int (x)), (2, .int (y))]) dX6_change_45 rfl (by decide) rfl ?_
        refine zr_iload_n X 2 dX6_change_46 rfl rfl ?_
        by_cases h8 : x = 0
        · refine zr_tableIn X (off := 25) (tgt := 72) dX6_change_47 (by rw [h8]; decide) (by rw [h8]; decide) (by rw [h8]; decide) (by decide) ?_
          refine zr_aload_n X 1 dX6_change_72 rfl rfl ?_
          refine zr_iload_n X 3 dX6_change_73 rfl rfl ?_
          refine zr_put X zfd_RX6_9 zty_6_0 (t) ht hf rfl rfl (Nat.le_of_ble_eq_true rfl) (eSett_set _ _ 0 (by decide)) dX6_change_74 ?_
          refine zr_goto X (tgt := 101) dX6_change_77 (by decide) ?_
          refine zr_iload_n X 0 dX6_change_101 rfl rfl ?_
          exact zret_i E rfl dX6_change_102 (by simp only [sChg, sChgV, if_neg h2, if_neg h4, if_neg h6, if_pos h8]) (by simp only [sChg, sChgV, if_neg h2, if_neg h4, if_neg h6, if_pos h8])
        by_cases h9 : x = 1
        · refine zr_tableIn X (off := 33) (tgt := 80) dX6_change_47 (by rw [h9]; decide) (by rw [h9]; decide) (by rw [h9]; decide) (by decide) ?_
          refine zr_aload_n X 1 dX6_change_80 rfl rfl ?_
          refine zr_iload_n X 3 dX6_change_81 rfl rfl ?_
          refine zr_put X zfd_RX6_15 zty_6_1 (t) ht hf rfl rfl (Nat.le_of_ble_eq_true rfl) (eSett_set _ _ 1 (by decide)) dX6_change_82 ?_
          refine zr_goto X (tgt := 101) dX6_change_85 (by decide) ?_
          refine zr_iload_n X 0 dX6_change_101 rfl rfl ?_
          exact zret_i E rfl dX6_change_102 (by simp only [sChg, sChgV, if_neg h2, if_neg h4, if_neg h6, if_neg h8, if_pos h9]) (by simp only [sChg, sChgV, if_neg h2, if_neg h4, if_neg h6, if_neg h8, if_pos h9])
        by_cases h10 : x = 2
        · refine zr_tableIn X (off := 41) (tgt := 88) dX6_change_47 (by rw [h10]; decide) (by rw [h10]; decide) (by rw [h10]; decide) (by decide) ?_
          refine zr_aload_n X 1 dX6_change_88 rfl rfl ?_
          refine zr_iload_n X 3 dX6_change_89 rfl rfl ?_
          refine zr_put X zfd_RX6_18 zty_6_2 (t) ht hf rfl rfl (Nat.le_of_ble_eq_true rfl) (eSett_set _ _ 2 (by decide)) dX6_change_90 ?_
          refine zr_goto X (tgt := 101) dX6_change_93 (by decide) ?_
          refine zr_iload_n X 0 dX6_change_101 rfl rfl ?_
          exact zret_i E rfl dX6_change_102 (by simp only [sChg, sChgV, if_neg h2, if_neg h4, if_neg h6, if_neg h8, if_neg h9, if_pos h10]) (by simp only [sChg, sChgV, if_neg h2, if_neg h4, if_neg h6, if_neg h8, if_neg h9, if_pos h10])
        refine zr_tableOut X (tgt := 96) dX6_change_47 (by have e0 := lv_neT h8 (show (0 : Int32).toInt = 0 from by decide); have e1 := lv_neT h9 (show (1 : Int32).toInt = 1 from by decide); have e2 := lv_neT h10 (show (2 : Int32).toInt = 2 from by decide); omega) (by decide) ?_
        refine zr_aload_n X 1 dX6_change_96 rfl rfl ?_
        refine zr_iload_n X 3 dX6_change_97 rfl rfl ?_
        refine zr_put X zfd_RX6_21 zty_6_3 (t) ht hf rfl rfl (Nat.le_of_ble_eq_true rfl) (eSett_set _ _ 3 (by decide)) dX6_change_98 ?_
        refine zr_iload_n X 0 dX6_change_101 rfl rfl ?_
        exact zret_i E rfl dX6_change_102 (by simp only [sChg, sChgV, if_neg h2, if_neg h4, if_neg h6, if_neg h8, if_neg h9, if_neg h10]) (by simp only [sChg, sChgV, if_neg h2, if_neg h4, if_neg h6, if_neg h8, if_neg h9, if_neg h10])
      · refine zr_ldc X zm_2_53 dX6_change_37 ?_
        exact zret_i E rfl dX6_change_39 (by simp only [sChg, sChgV, if_neg h2, if_neg h4, if_pos h7]) (zsame_up hf (by simp only [sChg, sChgV, if_neg h2, if_neg h4, if_pos h7]))
theorem k_addMuleF {l : Launch} {D : va_G} {cy : Nat → ClassId} {w : zW} {f : zF} {b mc bk : Nat} {γ : Nat → Nat} {σ : Nat → Int32} {a : Int32} {c : Int32} (hO : ∀ o, o < 21 → f (b + o) = zHut w cy b γ σ o) (hb : b + 21 ≤ w.1) (hm : σ 0 = nI mc) (hmc : mc ≤ 4) (hg : σ 1 = nI bk) (hbk : bk ≤ 10) (hγ : ∀ k, k < 10 → γ k < 10)  : zSd l D cy yX2_addMule cX2_addMule 5 (some .int) 1 22 [.ref (w.2 b), .int a, .int c] w f (some (.int (hAddMule mc σ a c).1)) (zPut f b (zHut w cy b γ (hAddMule mc σ a c).2)) := by
  have r := k_addMule (l := l) (D := D) (cy := cy) (w := w) (f := f) (a := a) (c := c) hb hm hmc hg hbk hγ 
  rw [zPut_self hO] at r
  exact r
theorem k_sendMuleF {l : Launch} {D : va_G} {cy : Nat → ClassId} {w : zW} {f : zF} {b mc bk : Nat} {γ : Nat → Nat} {σ : Nat → Int32} {x : Int32} {n : Int32} (hO : ∀ o, o < 21 → f (b + o) = zHut w cy b γ σ o) (hb : b + 21 ≤ w.1) (hm : σ 0 = nI mc) (hmc : mc ≤ 4) (hg : σ 1 = nI bk) (hbk : bk ≤ 10) (hγ : ∀ k, k < 10 → γ k < 10)  : zSd l D cy yX2_sendMule cX2_sendMule 5 (some .int) 2 45 [.ref (w.2 b), .int x, .int n] w f (some (.int (hSend σ x n).1)) (zPut f b (zHut w cy b γ (hSend σ x n).2)) := by
  have r := k_sendMule (l := l) (D := D) (cy := cy) (w := w) (f := f) (x := x) (n := n) hb hm hmc hg hbk hγ 
  rw [zPut_self hO] at r
  exact r
theorem k_restMuleF {l : Launch} {D : va_G} {cy : Nat → ClassId} {w : zW} {f : zF} {b mc bk : Nat} {γ : Nat → Nat} {σ : Nat → Int32} {x : Int32} (hO : ∀ o, o < 21 → f (b + o) = zHut w cy b γ σ o) (hb : b + 21 ≤ w.1) (hm : σ 0 = nI mc) (hmc : mc ≤ 4) (hg : σ 1 = nI bk) (hbk : bk ≤ 10) (hγ : ∀ k, k < 10 → γ k < 10)  : zSd l D cy yX2_restMule cX2_restMule 4 (some .int) 1 21 [.ref (w.2 b), .int x] w f (some (.int (hRest σ x).1)) (zPut f b (zHut w cy b γ (hRest σ x).2)) := by
  have r := k_restMule (l := l) (D := D) (cy := cy) (w := w) (f := f) (x := x) hb hm hmc hg hbk hγ 
  rw [zPut_self hO] at r
  exact r
theorem k_payBakerF {l : Launch} {D : va_G} {cy : Nat → ClassId} {w : zW} {f : zF} {b mc bk : Nat} {γ : Nat → Nat} {σ : Nat → Int32} {m : Int32} (hO : ∀ o, o < 21 → f (b + o) = zHut w cy b γ σ o) (hb : b + 21 ≤ w.1) (hm : σ 0 = nI mc) (hmc : mc ≤ 4) (hg : σ 1 = nI bk) (hbk : bk ≤ 10) (hγ : ∀ k, k < 10 → γ k < 10)  : zSd l D cy yX2_payBaker cX2_payBaker 2 (some .int) 1 22 [.ref (w.2 b), .int m] w f (some (.int (hPay σ m).1)) (zPut f b (zHut w cy b γ (hPay σ m).2)) := by
  have r := k_payBaker (l := l) (D := D) (cy := cy) (w := w) (f := f) (m := m) hb hm hmc hg hbk hγ 
  rw [zPut_self hO] at r
  exact r
theorem k_bookGroupF {l : Launch} {D : va_G} {cy : Nat → ClassId} {w : zW} {f : zF} {b mc bk : Nat} {γ : Nat → Nat} {σ : Nat → Int32} {p : Int32} {d : Int32} {n : Int32} (hO : ∀ o, o < 21 → f (b + o) = zHut w cy b γ σ o) (hb : b + 21 ≤ w.1) (hm : σ 0 = nI mc) (hmc : mc ≤ 4) (hg : σ 1 = nI bk) (hbk : bk ≤ 10) (hγ : ∀ k, k < 10 → γ k < 10)  : zSd l D cy yX2_bookGroup cX2_bookGroup 6 (some .int) 1 24 [.ref (w.2 b), .int p, .int d, .int n] w f (some (.int (hBook bk γ σ p d n).1)) (zPut f b (zHut w cy b γ (hBook bk γ σ p d n).2)) := by
  have r := k_bookGroup (l := l) (D := D) (cy := cy) (w := w) (f := f) (p := p) (d := d) (n := n) hb hm hmc hg hbk hγ 
  rw [zPut_self hO] at r
  exact r
theorem k_callOffF {l : Launch} {D : va_G} {cy : Nat → ClassId} {w : zW} {f : zF} {b mc bk : Nat} {γ : Nat → Nat} {σ : Nat → Int32} {x : Int32} (hO : ∀ o, o < 21 → f (b + o) = zHut w cy b γ σ o) (hb : b + 21 ≤ w.1) (hm : σ 0 = nI mc) (hmc : mc ≤ 4) (hg : σ 1 = nI bk) (hbk : bk ≤ 10) (hγ : ∀ k, k < 10 → γ k < 10)  : zSd l D cy yX2_callOff cX2_callOff 3 (some .int) 2 44 [.ref (w.2 b), .int x] w f (some (.int (hOff bk γ σ x).1)) (zPut f b (zHut w cy b (hOff bk γ σ x).2.1 (hOff bk γ σ x).2.2)) := by
  have r := k_callOff (l := l) (D := D) (cy := cy) (w := w) (f := f) (x := x) hb hm hmc hg hbk hγ 
  rw [zPut_self hO] at r
  exact r
theorem k_endDaysF {l : Launch} {D : va_G} {cy : Nat → ClassId} {w : zW} {f : zF} {b mc bk : Nat} {γ : Nat → Nat} {σ : Nat → Int32} {d : Int32} (hO : ∀ o, o < 21 → f (b + o) = zHut w cy b γ σ o) (hb : b + 21 ≤ w.1) (hm : σ 0 = nI mc) (hmc : mc ≤ 4) (hg : σ 1 = nI bk) (hbk : bk ≤ 10) (hγ : ∀ k, k < 10 → γ k < 10)  : zSd l D cy yX2_endDays cX2_endDays 4 (some .int) 3 77 [.ref (w.2 b), .int d] w f (some (.int (hEnd (γ, σ) d).1)) (zPut f b (zHut w cy b (hEnd (γ, σ) d).2.1 (hEnd (γ, σ) d).2.2)) := by
  have r := k_endDays (l := l) (D := D) (cy := cy) (w := w) (f := f) (d := d) hb hm hmc hg hbk hγ 
  rw [zPut_self hO] at r
  exact r
theorem k_endDayF {l : Launch} {D : va_G} {cy : Nat → ClassId} {w : zW} {f : zF} {b mc bk : Nat} {γ : Nat → Nat} {σ : Nat → Int32}  (hO : ∀ o, o < 21 → f (b + o) = zHut w cy b γ σ o) (hb : b + 21 ≤ w.1) (hm : σ 0 = nI mc) (hmc : mc ≤ 4) (hg : σ 1 = nI bk) (hbk : bk ≤ 10) (hγ : ∀ k, k < 10 → γ k < 10)  : zSd l D cy yX2_endDay cX2_endDay 4 none 2 54 [.ref (w.2 b)] w f none (zPut f b (zHut w cy b (hDayB mc bk (γ, σ)).1 (hDayB mc bk (γ, σ)).2)) := by
  have r := k_endDay (l := l) (D := D) (cy := cy) (w := w) (f := f)  hb hm hmc hg hbk hγ 
  rw [zPut_self hO] at r
  exact r
theorem k_whyNotF {l : Launch} {D : va_G} {cy : Nat → ClassId} {w : zW} {f : zF} {b mc bk : Nat} {γ : Nat → Nat} {σ : Nat → Int32} {x : Int32} {n : Int32} (hO : ∀ o, o < 21 → f (b + o) = zHut w cy b γ σ o) (hb : b + 21 ≤ w.1) (hm : σ 0 = nI mc) (hmc : mc ≤ 4) (hg : σ 1 = nI bk) (hbk : bk ≤ 10) (hγ : ∀ k, k < 10 → γ k < 10)  : zSd l D cy yX2_whyNot cX2_whyNot 4 (some .int) 1 22 [.ref (w.2 b), .int x, .int n] w f (some (.int (hWhy σ x n))) f := by
  have r := k_whyNot (l := l) (D := D) (cy := cy) (w := w) (f := f) (x := x) (n := n) hb hm hmc hg hbk hγ 
  rw [zPut_self hO] at r
  exact r
theorem k_Hut_tellF {l : Launch} {D : va_G} {cy : Nat → ClassId} {w : zW} {f : zF} {b mc bk : Nat} {γ : Nat → Nat} {σ : Nat → Int32} {x : Int32} (hO : ∀ o, o < 21 → f (b + o) = zHut w cy b γ σ o) (hb : b + 21 ≤ w.1) (hm : σ 0 = nI mc) (hmc : mc ≤ 4) (hg : σ 1 = nI bk) (hbk : bk ≤ 10) (hγ : ∀ k, k < 10 → γ k < 10)  : zSd l D cy yX2_tell cX2_tell 2 (some .int) 2 44 [.ref (w.2 b), .int x] w f (some (.int (hTell mc σ x))) f := by
  have r := k_Hut_tell (l := l) (D := D) (cy := cy) (w := w) (f := f) (x := x) hb hm hmc hg hbk hγ 
  rw [zPut_self hO] at r
  exact r
theorem k_placeOfGroupF {l : Launch} {D : va_G} {cy : Nat → ClassId} {w : zW} {f : zF} {b mc bk : Nat} {γ : Nat → Nat} {σ : Nat → Int32} {x : Int32} (hO : ∀ o, o < 21 → f (b + o) = zHut w cy b γ σ o) (hb : b + 21 ≤ w.1) (hm : σ 0 = nI mc) (hmc : mc ≤ 4) (hg : σ 1 = nI bk) (hbk : bk ≤ 10) (hγ : ∀ k, k < 10 → γ k < 10)  : zSd l D cy yX2_placeOfGroup cX2_placeOfGroup 4 (some .int) 1 21 [.ref (w.2 b), .int x] w f (some (.int (hPlace γ σ x bk 0))) f := by
  have r := k_placeOfGroup (l := l) (D := D) (cy := cy) (w := w) (f := f) (x := x) hb hm hmc hg hbk hγ 
  rw [zPut_self hO] at r
  exact r
theorem k_muleAtNF {l : Launch} {D : va_G} {cy : Nat → ClassId} {w : zW} {f : zF} {b mc bk : Nat} {γ : Nat → Nat} {σ : Nat → Int32} {x : Int32} (hO : ∀ o, o < 21 → f (b + o) = zHut w cy b γ σ o) (hb : b + 21 ≤ w.1) (hm : σ 0 = nI mc) (hmc : mc ≤ 4) (hg : σ 1 = nI bk) (hbk : bk ≤ 10) (hγ : ∀ k, k < 10 → γ k < 10) (hx : x < 0 ∨ σ 0 ≤ x) : zSd l D cy yX2_muleAt cX2_muleAt 2 (some (.object "HutLoaves$Mule")) 0 0 [.ref (w.2 b), .int x] w f (some .null) f := by
  have r := k_muleAtN (l := l) (D := D) (cy := cy) (w := w) (f := f) (x := x) hb hm hmc hg hbk hγ hx
  rw [zPut_self hO] at r
  exact r
theorem k_muleAtXF {l : Launch} {D : va_G} {cy : Nat → ClassId} {w : zW} {f : zF} {b mc bk : Nat} {γ : Nat → Nat} {σ : Nat → Int32} {x : Int32} (hO : ∀ o, o < 21 → f (b + o) = zHut w cy b γ σ o) (hb : b + 21 ≤ w.1) (hm : σ 0 = nI mc) (hmc : mc ≤ 4) (hg : σ 1 = nI bk) (hbk : bk ≤ 10) (hγ : ∀ k, k < 10 → γ k < 10) (h0 : ¬ x < 0) (h1 : ¬ σ 0 ≤ x) : zSd l D cy yX2_muleAt cX2_muleAt 2 (some (.object "HutLoaves$Mule")) 0 0 [.ref (w.2 b), .int x] w f (some (.ref (w.2 (b + (7 + x.toNatClampNeg))))) f := by
  have r := k_muleAtX (l := l) (D := D) (cy := cy) (w := w) (f := f) (x := x) hb hm hmc hg hbk hγ h0 h1
  rw [zPut_self hO] at r
  exact r
theorem k_groupAtNF {l : Launch} {D : va_G} {cy : Nat → ClassId} {w : zW} {f : zF} {b mc bk : Nat} {γ : Nat → Nat} {σ : Nat → Int32} {x : Int32} (hO : ∀ o, o < 21 → f (b + o) = zHut w cy b γ σ o) (hb : b + 21 ≤ w.1) (hm : σ 0 = nI mc) (hmc : mc ≤ 4) (hg : σ 1 = nI bk) (hbk : bk ≤ 10) (hγ : ∀ k, k < 10 → γ k < 10) (hx : x < 0 ∨ σ 1 ≤ x) : zSd l D cy yX2_groupAt cX2_groupAt 2 (some (.object "HutLoaves$Group")) 0 0 [.ref (w.2 b), .int x] w f (some .null) f := by
  have r := k_groupAtN (l := l) (D := D) (cy := cy) (w := w) (f := f) (x := x) hb hm hmc hg hbk hγ hx
  rw [zPut_self hO] at r
  exact r
theorem k_groupAtXF {l : Launch} {D : va_G} {cy : Nat → ClassId} {w : zW} {f : zF} {b mc bk : Nat} {γ : Nat → Nat} {σ : Nat → Int32} {x : Int32} (hO : ∀ o, o < 21 → f (b + o) = zHut w cy b γ σ o) (hb : b + 21 ≤ w.1) (hm : σ 0 = nI mc) (hmc : mc ≤ 4) (hg : σ 1 = nI bk) (hbk : bk ≤ 10) (hγ : ∀ k, k < 10 → γ k < 10) (h0 : ¬ x < 0) (h1 : ¬ σ 1 ≤ x) : zSd l D cy yX2_groupAt cX2_groupAt 2 (some (.object "HutLoaves$Group")) 0 0 [.ref (w.2 b), .int x] w f (some (.ref (w.2 (b + (11 + γ x.toNatClampNeg))))) f := by
  have r := k_groupAtX (l := l) (D := D) (cy := cy) (w := w) (f := f) (x := x) hb hm hmc hg hbk hγ h0 h1
  rw [zPut_self hO] at r
  exact r
theorem k_Hut_copyFromF {l : Launch} {D : va_G} {cy : Nat → ClassId} {w : zW} {f : zF} {b b2 mc bk : Nat} {γ γ2 : Nat → Nat} {σ σ2 : Nat → Int32} (hO1 : ∀ o, o < 21 → f (b + o) = zHut w cy b γ σ o) (hb : b + 21 ≤ w.1) (hb2 : b2 + 21 ≤ w.1) (hd : b2 + 21 ≤ b ∨ b + 21 ≤ b2) (hO : ∀ o, o < 21 → f (b2 + o) = zHut w cy b2 γ2 σ2 o) (hm : σ2 0 = nI mc) (hmc : mc ≤ 4) (hg : σ2 1 = nI bk) (hbk : bk ≤ 10) (hγ : ∀ k, k < 10 → γ k < 10) (hγ2 : ∀ k, k < 10 → γ2 k < 10) : zSd l D cy yX2_copyFrom cX2_copyFrom 5 none 1 22 [.ref (w.2 b), .ref (w.2 b2)] w f none (zPut f b (zHut w cy b γ (hCpG mc γ γ2 σ σ2 bk))) := by
  have r := k_Hut_copyFrom (l := l) (D := D) (cy := cy) (w := w) (f := f) (γ := γ) (σ := σ) hb hb2 hd hO hm hmc hg hbk hγ hγ2
  rw [zPut_self hO1] at r
  exact r
