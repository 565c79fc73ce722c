theorem zle_eq {x y : Int32} (h : x = y) : x ≤ y := h ▸ Int32.le_refl x
def hDay (s : zGS) : zGS := hDayB (s.2 0).toNatClampNeg (s.2 1).toNatClampNeg s
theorem hDay_eq {mc bk : Nat} {s : zGS} (h2 : s.2 0 = nI mc) (hmc : mc ≤ 4) (h3 : s.2 1 = nI bk) (h4 : bk ≤ 10) : hDay s = hDayB mc bk s := by
  unfold hDay
  rw [h2, h3, nI_clamp (by omega), nI_clamp (by omega)]
def hDays (s : zGS) (n : Nat) : zGS := zfold (fun _ s => hDay s) s n
theorem hDays_s {s : zGS} {n : Nat} : hDays s (n + 1) = hDay (hDays s n) := rfl
def zOk (mc : Nat) (s : zGS) : Prop := (∀ k, k < 10 → s.1 k < 10) ∧ s.2 0 = nI mc ∧ ∃ c, c ≤ 10 ∧ s.2 1 = nI c
theorem hDays_ok {mc : Nat} {s : zGS} (hmc : mc ≤ 4) (h : zOk mc s) : ∀ n, zOk mc (hDays s n)
  | 0 => h
  | n + 1 => by
    obtain ⟨a, b, c, d, e⟩ := hDays_ok hmc h n
    rw [hDays_s, hDay_eq b hmc e d]
    obtain ⟨a2, b2, c2, d2, e2⟩ := hDayB_ok (mc := mc) (bk := c) (s := hDays s n) a b e d
    exact ⟨a2, b2, c2, by omega, e2⟩
def hEnd (s : zGS) (d : Int32) : Int32 × zGS := if (zwin d 1 60) = 0 then (-1000001, s) else if (s.2 3 + d) ≤ 9999 then ((hDays s d.toNatClampNeg).2 8 - s.2 8, hDays s d.toNatClampNeg) else (-1000003, s)
theorem zwin_lo {x lo hi : Int32} (h : ¬ (zwin x lo hi) = 0) : ¬ x < lo ∧ ¬ hi < x := by
  unfold zwin at h
  by_cases h1 : x < lo
  · rw [if_pos h1] at h; exact absurd rfl h
  · rw [if_neg h1] at h
    by_cases h2 : hi < x
    · rw [if_pos h2] at h; exact absurd rfl h
    · exact ⟨h1, h2⟩
theorem zwin_nn {x lo hi : Int32} (h : ¬ (zwin x lo hi) = 0) (h0 : 0 ≤ lo) : ¬ x < 0 := by
  intro q
  have a := (zwin_lo h).1
  rw [Int32.lt_iff_toInt_lt] at a q
  rw [Int32.le_iff_toInt_le] at h0
  omega
theorem zwin_hi {x lo hi : Int32} {n : Nat} (h : ¬ (zwin x lo hi) = 0) (h0 : 0 ≤ lo) (hn : hi = nI n) (h31 : n < 2147483648) : x.toNatClampNeg ≤ n := by
  have a := (zwin_lo h).2
  obtain ⟨j, hj, rfl⟩ := nI_of (zwin_nn h h0)
  rw [hn, nI_ltI h31 hj] at a
  rw [nI_clamp hj]
  omega
set_option maxHeartbeats 4000000 in
set_option maxRecDepth 100000 in
theorem k_endDays {l : Launch} {D : va_G} {cy : Nat → ClassId} {w : zW} {f : zF} {b mc bk : Nat} {γ : Nat → Nat} {σ : Nat → Int32} {d : Int32} (hb : b + 21 ≤ w.1) (hm : σ 0 = nI mc) (hmc : mc ≤ 4) (hg : σ 1 = nI bk) (hbk : bk ≤ 10) (hγ : ∀ k, k < 10 → γ k < 10)  : zSd l D cy yX2_endDays cX2_endDays 4 (some .int) 3 77 [.ref (w.2 (b)), .int (d)] w (zPut f b (zHut w cy b γ σ)) (some (.int ((hEnd (γ, σ) d).1))) (zPut f b (zHut w cy b (hEnd (γ, σ) d).2.1 (hEnd (γ, σ) d).2.2)) := by
  refine zSd.intro (by decide) (Nat.le_of_ble_eq_true rfl) (fun G X E => ?_)
  show G (w, 0, 0) (zPut f b (zHut w cy b γ σ)) [(0, .ref (w.2 (b))), (1, .int (d))] 0 []
  refine zr_iload_n X 1 dX2_endDays_0 rfl rfl ?_
  refine zr_iconst X (v := 1) dX2_endDays_1 (by decide) ?_
  refine zr_bipush X (v := 60) dX2_endDays_2 (by decide) ?_
  refine zr_cSN X (As := [.int (d), .int (1), .int (60)]) (rest := []) (f' := zPut f b (zHut w cy b γ σ)) (st' := [.int (zwin d 1 60)]) zc_X8_isWithin k_isWithin ⟨Nat.le_of_ble_eq_true rfl, Nat.le_of_ble_eq_true rfl⟩ ⟨Nat.le_refl _, Nat.le_refl _⟩ rfl (Nat.le_of_ble_eq_true rfl) (List.mem_of_getElem? (i := 37) rfl) rfl dX2_endDays_4 rfl ?_
  refine zr_if_ne X (tgt := 13) dX2_endDays_7 (by decide) (fun h1 => ?_) (fun h2 => ?_)
  · refine zr_aload_n X 0 dX2_endDays_13 rfl rfl ?_
    refine zr_get X zfd_RX2_59 (b) (show b < w.1 by omega) (zPut_in (o := 0) (by omega)) (v := .int (σ 3)) rfl dX2_endDays_14 ?_
    refine zr_iload_n X 1 dX2_endDays_17 rfl rfl ?_
    refine zr_iadd X dX2_endDays_18 ?_
    refine zr_sipush X (v := 9999) dX2_endDays_19 (by decide) ?_
    refine zr_icmp_le X (tgt := 28) dX2_endDays_22 (by decide) (fun h3 => ?_) (fun h4 => ?_)
    · have hd1 := zwin_nn h1 (by decide)
      have hd2 := zwin_hi h1 (by decide) (show (60 : Int32) = nI 60 from rfl) (by decide)
      have hdn := zix1 hd1
      refine zr_aload_n X 0 dX2_endDays_28 rfl rfl ?_
      refine zr_get X zfd_RX2_33 (b) (show b < w.1 by omega) (zPut_in (o := 0) (by omega)) (v := .ref (w.2 (b + 5))) rfl dX2_endDays_29 ?_
      refine zr_getN X zfn_RX2_145 (b + 5) (show b + 5 < w.1 by omega) (zPut_in (o := 5) (by omega)) (v := .int (σ 8)) rfl dX2_endDays_32 ?_
      refine zr_istore_n X (ls' := [(2, .int (σ 8)), (0, .ref (w.2 (b))), (1, .int (d))]) dX2_endDays_35 rfl (by decide) rfl ?_
      refine zr_iconst X (v := 0) dX2_endDays_36 (by decide) ?_
      refine zr_istore_n X (ls' := [(3, .int (0)), (2, .int (σ 8)), (0, .ref (w.2 (b))), (1, .int (d))]) dX2_endDays_37 rfl (by decide) rfl ?_
      refine zr_loc X (ls' := [(0, .ref (w.2 (b))), (1, .int (d)), (2, .int (σ 8)), (3, .int (0))]) [2, 3, 1, 0] rfl ?_
      refine zcast (f2 := zPut f b (zHut w cy b ((hDays (γ, σ) (0)).1) ((hDays (γ, σ) (0)).2))) (ls2 := [(0, .ref (w.2 (b))), (1, .int (d)), (2, .int (σ 8)), (3, .int (nI (0)))]) rfl rfl ?_
      refine zdown (P := fun n => G (w, 0, 0) (zPut f b (zHut w cy b ((hDays (γ, σ) (n)).1) ((hDays (γ, σ) (n)).2))) [(0, .ref (w.2 (b))), (1, .int (d)), (2, .int (σ 8)), (3, .int (nI (n)))] 38 []) (B := d.toNatClampNeg) ?_ (fun n hn38 ih38 => ?_) 0 (Nat.zero_le _) 
      · show G (w, 0, 0) (zPut f b (zHut w cy b ((hDays (γ, σ) (d.toNatClampNeg)).1) ((hDays (γ, σ) (d.toNatClampNeg)).2))) [(0, .ref (w.2 (b))), (1, .int (d)), (2, .int (σ 8)), (3, .int (nI (d.toNatClampNeg)))] 38 []
        refine zr_iload_n X 3 dX2_endDays_38 rfl rfl ?_
        refine zr_iload_n X 1 dX2_endDays_39 rfl rfl ?_
        refine zr_icmp_ge X (tgt := 53) dX2_endDays_40 (by decide) (fun _ => ?_) (fun h => False.elim (h (zle_eq hdn)))
        refine zr_aload_n X 0 dX2_endDays_53 rfl rfl ?_
        refine zr_get X zfd_RX2_33 (b) (show b < w.1 by omega) (zPut_in (o := 0) (by omega)) (v := .ref (w.2 (b + 5))) rfl dX2_endDays_54 ?_
        refine zr_getN X zfn_RX2_145 (b + 5) (show b + 5 < w.1 by omega) (zPut_in (o := 5) (by omega)) (v := .int (((hDays (γ, σ) (d.toNatClampNeg)).2) 8)) rfl dX2_endDays_57 ?_
        refine zr_iload_n X 2 dX2_endDays_60 rfl rfl ?_
        refine zr_isub X dX2_endDays_61 ?_
        exact zret_i E rfl dX2_endDays_62 (by simp only [hEnd, if_neg h1, if_pos h3]) (by simp only [hEnd, if_neg h1, if_pos h3])
      · show G (w, 0, 0) (zPut f b (zHut w cy b ((hDays (γ, σ) (n)).1) ((hDays (γ, σ) (n)).2))) [(0, .ref (w.2 (b))), (1, .int (d)), (2, .int (σ 8)), (3, .int (nI (n)))] 38 []
        obtain ⟨oa, ob, oc, od, oe⟩ := hDays_ok hmc (show zOk mc (γ, σ) from ⟨hγ, hm, bk, hbk, hg⟩) n
        refine zr_iload_n X 3 dX2_endDays_38 rfl rfl ?_
        refine zr_iload_n X 1 dX2_endDays_39 rfl rfl ?_
        refine zr_icmp_ge X (tgt := 53) dX2_endDays_40 (by decide) (fun h => False.elim (nI_ge hn38 (by omega) (by rw [← hdn]; exact h))) (fun _ => ?_)
        refine zr_aload_n X 0 dX2_endDays_43 rfl rfl ?_
        refine zr_cV X (As := []) (rest := []) (f' := zPut f b (zHut w cy b ((hDayB mc oc ((hDays (γ, σ) (n)).1, ((hDays (γ, σ) (n)).2))).1) ((hDayB mc oc ((hDays (γ, σ) (n)).1, ((hDays (γ, σ) (n)).2))).2))) (st' := []) zc_X2_endDay (b) (show b < w.1 by omega) (zPut_in (o := 0) (by omega)) (q9 := _) rfl rfl (k_endDay hb ob hmc oe od oa) ⟨Nat.le_of_ble_eq_true rfl, Nat.le_of_ble_eq_true rfl⟩ ⟨Nat.le_refl _, Nat.le_refl _⟩ rfl (Nat.le_of_ble_eq_true rfl) zm_2_202 rfl dX2_endDays_44 rfl ?_
        refine zr_iinc X (v := nI (n + 1)) (ls' := [(3, .int (nI (n + 1))), (0, .ref (w.2 (b))), (1, .int (d)), (2, .int (σ 8))]) 3 dX2_endDays_47 rfl (zinc1 _) (by decide) rfl ?_
        refine zr_goto X (tgt := 38) dX2_endDays_50 (by decide) ?_
        refine zr_loc X (ls' := [(0, .ref (w.2 (b))), (1, .int (d)), (2, .int (σ 8)), (3, .int (nI (n + 1)))]) [1, 2, 3, 0] rfl ?_
        exact zcast (f2 := zPut f b (zHut w cy b ((hDays (γ, σ) (n + 1)).1) ((hDays (γ, σ) (n + 1)).2))) (ls2 := [(0, .ref (w.2 (b))), (1, .int (d)), (2, .int (σ 8)), (3, .int (nI (n + 1)))]) (by rw [hDays_s, hDay_eq ob hmc oe od]) rfl ih38
    · refine zr_ldc X zm_2_106 dX2_endDays_25 ?_
      exact zret_i E rfl dX2_endDays_27 (by simp only [hEnd, if_neg h1, if_neg h4]) (by simp only [hEnd, if_neg h1, if_neg h4])
  · refine zr_ldc X zm_2_54 dX2_endDays_10 ?_
    exact zret_i E rfl dX2_endDays_12 (by simp only [hEnd, if_pos h2]) (by simp only [hEnd, if_pos h2])
def hCp1 (σ σ2 : Nat → Int32) : Nat → Int32 := upd (upd (upd (upd (upd σ 0 (σ2 0)) 1 (σ2 1)) 2 (σ2 2)) 3 (σ2 3)) 4 (σ2 4)
def hCp2 (σ σ2 : Nat → Int32) : Nat → Int32 := setA (hCp1 σ σ2) (shCopy (fun k9 => hCp1 σ σ2 (115 + k9)) (fun k9 => σ2 (115 + k9)) 21)
def hCp3 (σ σ2 : Nat → Int32) : Nat → Int32 := setR (setR (hCp2 σ σ2) 5 10 (fun i9 => σ2 (5 + i9))) 15 4 (fun i9 => σ2 (15 + i9))
def hCpM (σ σ2 : Nat → Int32) (n : Nat) : Nat → Int32 := zfold (fun k s => setR s (19 + 9 * k) 9 (fun i9 => σ2 (19 + 9 * k + i9))) (hCp3 σ σ2) n
def hCpG (mc : Nat) (γ γ2 : Nat → Nat) (σ σ2 : Nat → Int32) (n : Nat) : Nat → Int32 := zfold (fun k s => setR s (55 + 6 * γ k) 6 (fun i9 => σ2 (55 + 6 * γ2 k + i9))) (hCpM σ σ2 mc) n
theorem hCp3_lo {σ σ2 : Nat → Int32} : ∀ i, i < 5 → hCp3 σ σ2 i = σ2 i := by
  intro i hi
  unfold hCp3 hCp2
  rw [setR_out (by omega), setR_out (by omega), setA_lo (by omega)]
  rcases (show i = 0 ∨ i = 1 ∨ i = 2 ∨ i = 3 ∨ i = 4 by omega) with rfl | rfl | rfl | rfl | rfl <;> rfl
theorem hCpM_lo {σ σ2 : Nat → Int32} : ∀ n i, i < 5 → hCpM σ σ2 n i = σ2 i
  | 0, i, hi => by
    unfold hCpM zfold
    exact hCp3_lo i hi
  | n + 1, i, hi => by
    show setR (hCpM σ σ2 n) (19 + 9 * n) 9 (fun i9 => σ2 (19 + 9 * n + i9)) i = σ2 i
    rw [setR_out (by omega), hCpM_lo n i hi]
theorem hCpG_lo {mc : Nat} {γ γ2 : Nat → Nat} {σ σ2 : Nat → Int32} : ∀ n i, i < 5 → hCpG mc γ γ2 σ σ2 n i = σ2 i
  | 0, i, hi => by
    unfold hCpG zfold
    exact hCpM_lo mc i hi
  | n + 1, i, hi => by
    show setR (hCpG mc γ γ2 σ σ2 n) (55 + 6 * γ n) 6 (fun i9 => σ2 (55 + 6 * γ2 n + i9)) i = σ2 i
    rw [setR_out (by omega), hCpG_lo n i hi]
theorem k_muleAtF {l : Launch} {D : va_G} {cy : Nat → ClassId} {w : zW} {f : zF} {b mc bk : Nat} {γ : Nat → Nat} {σ : Nat → Int32} {k : Nat} (hO : ∀ o, o < 21 → f (b + o) = zHut w cy b γ σ o) (hb : b + 21 ≤ w.1) (hm : σ 0 = nI mc) (hmc : mc ≤ 4) (hg : σ 1 = nI bk) (hbk : bk ≤ 10) (hγ : ∀ k, k < 10 → γ k < 10) (hk : k < mc) : zSd l D cy yX2_muleAt cX2_muleAt 2 (some (.object "HutLoaves$Mule")) 0 0 [.ref (w.2 b), .int (nI k)] w f (some (.ref (w.2 (b + (7 + k))))) f := by
  have r := k_muleAt (l := l) (D := D) (cy := cy) (w := w) (f := f) hb hm hmc hg hbk hγ hk
  rw [zPut_self hO] at r
  exact r
theorem k_groupAtF {l : Launch} {D : va_G} {cy : Nat → ClassId} {w : zW} {f : zF} {b mc bk : Nat} {γ : Nat → Nat} {σ : Nat → Int32} {k : Nat} (hO : ∀ o, o < 21 → f (b + o) = zHut w cy b γ σ o) (hb : b + 21 ≤ w.1) (hm : σ 0 = nI mc) (hmc : mc ≤ 4) (hg : σ 1 = nI bk) (hbk : bk ≤ 10) (hγ : ∀ k, k < 10 → γ k < 10) (hk : k < bk) : zSd l D cy yX2_groupAt cX2_groupAt 2 (some (.object "HutLoaves$Group")) 0 0 [.ref (w.2 b), .int (nI k)] w f (some (.ref (w.2 (b + (11 + γ k))))) f := by
  have r := k_groupAt (l := l) (D := D) (cy := cy) (w := w) (f := f) hb hm hmc hg hbk hγ hk
  rw [zPut_self hO] at r
  exact r
set_option maxHeartbeats 4000000 in
set_option maxRecDepth 100000 in
theorem k_Hut_copyFrom {l : Launch} {D : va_G} {cy : Nat → ClassId} {w : zW} {f : zF} {b b2 mc bk : Nat} {γ γ2 : Nat → Nat} {σ σ2 : Nat → Int32} (hb : b + 21 ≤ w.1) (hb2 : b2 + 21 ≤ w.1) (hd : b2 + 21 ≤ b ∨ b + 21 ≤ b2) (hO : ∀ o, o < 21 → f (b2 + o) = zHut w cy b2 γ2 σ2 o) (hm : σ2 0 = nI mc) (hmc : mc ≤ 4) (hg : σ2 1 = nI bk) (hbk : bk ≤ 10) (hγ : ∀ k, k < 10 → γ k < 10) (hγ2 : ∀ k, k < 10 → γ2 k < 10) : zSd l D cy yX2_copyFrom cX2_copyFrom 5 none 1 22 [.ref (w.2 (b)), .ref (w.2 (b2))] w (zPut f b (zHut w cy b γ σ)) none (zPut f b (zHut w cy b γ (hCpG mc γ γ2 σ σ2 bk))) := by
  refine zSd.intro (by decide) (Nat.le_of_ble_eq_true rfl) (fun G X E => ?_)
  show G (w, 0, 0) (zPut f b (zHut w cy b γ σ)) [(0, .ref (w.2 (b))), (1, .ref (w.2 (b2)))] 0 []
  refine zr_aload_n X 0 dX2_copyFrom_0 rfl rfl ?_
  refine zr_aload_n X 1 dX2_copyFrom_1 rfl rfl ?_
  refine zr_get X zfd_RX2_50 (b2) (show b2 < w.1 by omega) ((zPut_out (by omega)).trans (hO 0 (by omega))) (v := .int (σ2 0)) rfl dX2_copyFrom_2 ?_
  refine zr_put X zfd_RX2_50 zty_2_5 (b) (show b < w.1 by omega) (zPut_in (o := 0) (by omega)) rfl rfl (Nat.le_of_ble_eq_true rfl) (eHut_set _ _ _ _ 0 (by decide)) dX2_copyFrom_5 ?_
  refine zcw (f2 := zPut f b (zHut w cy b γ (upd σ 0 (σ2 0)))) (zu_hut (i := 0) (by decide)) ?_
  refine zr_aload_n X 0 dX2_copyFrom_8 rfl rfl ?_
  refine zr_aload_n X 1 dX2_copyFrom_9 rfl rfl ?_
  refine zr_get X zfd_RX2_53 (b2) (show b2 < w.1 by omega) ((zPut_out (by omega)).trans (hO 0 (by omega))) (v := .int (σ2 1)) rfl dX2_copyFrom_10 ?_
  refine zr_put X zfd_RX2_53 zty_2_6 (b) (show b < w.1 by omega) (zPut_in (o := 0) (by omega)) rfl rfl (Nat.le_of_ble_eq_true rfl) (eHut_set _ _ _ _ 1 (by decide)) dX2_copyFrom_13 ?_
  refine zcw (f2 := zPut f b (zHut w cy b γ (upd (upd σ 0 (σ2 0)) 1 (σ2 1)))) (zu_hut (i := 1) (by decide)) ?_
  refine zr_aload_n X 0 dX2_copyFrom_16 rfl rfl ?_
  refine zr_aload_n X 1 dX2_copyFrom_17 rfl rfl ?_
  refine zr_get X zfd_RX2_56 (b2) (show b2 < w.1 by omega) ((zPut_out (by omega)).trans (hO 0 (by omega))) (v := .int (σ2 2)) rfl dX2_copyFrom_18 ?_
  refine zr_put X zfd_RX2_56 zty_2_7 (b) (show b < w.1 by omega) (zPut_in (o := 0) (by omega)) rfl rfl (Nat.le_of_ble_eq_true rfl) (eHut_set _ _ _ _ 2 (by decide)) dX2_copyFrom_21 ?_
  refine zcw (f2 := zPut f b (zHut w cy b γ (upd (upd (upd σ 0 (σ2 0)) 1 (σ2 1)) 2 (σ2 2)))) (zu_hut (i := 2) (by decide)) ?_
  refine zr_aload_n X 0 dX2_copyFrom_24 rfl rfl ?_
  refine zr_aload_n X 1 dX2_copyFrom_25 rfl rfl ?_
  refine zr_get X zfd_RX2_59 (b2) (show b2 < w.1 by omega) ((zPut_out (by omega)).trans (hO 0 (by omega))) (v := .int (σ2 3)) rfl dX2_copyFrom_26 ?_
  refine zr_put X zfd_RX2_59 zty_2_8 (b) (show b < w.1 by omega) (zPut_in (o := 0) (by omega)) rfl rfl (Nat.le_of_ble_eq_true rfl) (eHut_set _ _ _ _ 3 (by decide)) dX2_copyFrom_29 ?_
  refine zcw (f2 := zPut f b (zHut w cy b γ (upd (upd (upd (upd σ 0 (σ2 0)) 1 (σ2 1)) 2 (σ2 2)) 3 (σ2 3)))) (zu_hut (i := 3) (by decide)) ?_
  refine zr_aload_n X 0 dX2_copyFrom_32 rfl rfl ?_
  refine zr_aload_n X 1 dX2_copyFrom_33 rfl rfl ?_
  refine zr_get X zfd_RX2_44 (b2) (show b2 < w.1 by omega) ((zPut_out (by omega)).trans (hO 0 (by omega))) (v := .int (σ2 4)) rfl dX2_copyFrom_34 ?_
  refine zr_put X zfd_RX2_44 zty_2_9 (b) (show b < w.1 by omega) (zPut_in (o := 0) (by omega)) rfl rfl (Nat.le_of_ble_eq_true rfl) (eHut_set _ _ _ _ 4 (by decide)) dX2_copyFrom_37 ?_
  refine zcw (f2 := zPut f b (zHut w cy b γ (hCp1 σ σ2))) (zu_hut (i := 4) (by decide)) ?_
  refine zr_aload_n X 0 dX2_copyFrom_40 rfl rfl ?_
  refine zr_get X zfd_RX2_26 (b) (show b < w.1 by omega) (zPut_in (o := 0) (by omega)) (v := .ref (w.2 (b + 3))) rfl dX2_copyFrom_41 ?_
  refine zr_aload_n X 1 dX2_copyFrom_44 rfl rfl ?_
  refine zr_get X zfd_RX2_26 (b2) (show b2 < w.1 by omega) ((zPut_out (by omega)).trans (hO 0 (by omega))) (v := .ref (w.2 (b2 + 3))) rfl dX2_copyFrom_45 ?_
  refine zr_cV X (As := [.ref (w.2 (b2 + 3))]) (rest := []) (f' := va_up (zPut f b (zHut w cy b γ (hCp1 σ σ2))) (b + 4) (eInts cy 21 (shCopy (fun k9 => (hCp1 σ σ2) (115 + k9)) (fun k9 => σ2 (115 + k9)) 21))) (st' := []) zc_X7_copyFrom (b + 3) (show b + 3 < w.1 by omega) (zPut_in (o := 3) (by omega)) (q9 := _) rfl rfl (k_Shelf_copyFrom (show b + 3 < w.1 by omega) (show b + 4 < w.1 by omega) (zPut_in (o := 3) (by omega)) (zPut_in (o := 4) (by omega)) (by omega) (show b2 + 3 < w.1 by omega) (show b2 + 4 < w.1 by omega) ((zPut_out (by omega)).trans (hO 3 (by omega))) ((zPut_out (by omega)).trans (hO 4 (by omega))) (by omega) (by omega)) ⟨Nat.le_of_ble_eq_true rfl, Nat.le_of_ble_eq_true rfl⟩ ⟨Nat.le_refl _, Nat.le_refl _⟩ rfl (Nat.le_of_ble_eq_true rfl) zm_2_78 rfl dX2_copyFrom_48 rfl ?_
  refine zcw (f2 := zPut f b (zHut w cy b γ (hCp2 σ σ2))) (zu_shelf) ?_
  refine zr_aload_n X 0 dX2_copyFrom_51 rfl rfl ?_
  refine zr_get X zfd_RX2_33 (b) (show b < w.1 by omega) (zPut_in (o := 0) (by omega)) (v := .ref (w.2 (b + 5))) rfl dX2_copyFrom_52 ?_
  refine zr_aload_n X 1 dX2_copyFrom_55 rfl rfl ?_
  refine zr_get X zfd_RX2_33 (b2) (show b2 < w.1 by omega) ((zPut_out (by omega)).trans (hO 0 (by omega))) (v := .ref (w.2 (b2 + 5))) rfl dX2_copyFrom_56 ?_
  refine zr_cV X (As := [.ref (w.2 (b2 + 5))]) (rest := []) (f' := va_up (zPut f b (zHut w cy b γ (hCp2 σ σ2))) (b + 5) (eLedger (fun i9 => σ2 (5 + i9)))) (st' := []) zc_X3_copyFrom (b + 5) (show b + 5 < w.1 by omega) (zPut_in (o := 5) (by omega)) (q9 := _) rfl rfl (k_Ledger_copyFrom (show b + 5 < w.1 by omega) (show b2 + 5 < w.1 by omega) (zPut_in (o := 5) (by omega)) ((zPut_out (by omega)).trans (hO 5 (by omega))) (by omega)) ⟨Nat.le_of_ble_eq_true rfl, Nat.le_of_ble_eq_true rfl⟩ ⟨Nat.le_refl _, Nat.le_refl _⟩ rfl (Nat.le_of_ble_eq_true rfl) zm_2_82 rfl dX2_copyFrom_59 rfl ?_
  refine zcw (f2 := zPut f b (zHut w cy b γ (setR (hCp2 σ σ2) 5 10 (fun i9 => σ2 (5 + i9))))) (zu_ledgerA) ?_
  refine zr_aload_n X 0 dX2_copyFrom_62 rfl rfl ?_
  refine zr_get X zfd_RX2_40 (b) (show b < w.1 by omega) (zPut_in (o := 0) (by omega)) (v := .ref (w.2 (b + 6))) rfl dX2_copyFrom_63 ?_
  refine zr_aload_n X 1 dX2_copyFrom_66 rfl rfl ?_
  refine zr_get X zfd_RX2_40 (b2) (show b2 < w.1 by omega) ((zPut_out (by omega)).trans (hO 0 (by omega))) (v := .ref (w.2 (b2 + 6))) rfl dX2_copyFrom_67 ?_
  refine zr_cV X (As := [.ref (w.2 (b2 + 6))]) (rest := []) (f' := va_up (zPut f b (zHut w cy b γ (setR (hCp2 σ σ2) 5 10 (fun i9 => σ2 (5 + i9))))) (b + 6) (eSett (fun i9 => σ2 (15 + i9)))) (st' := []) zc_X6_copyFrom (b + 6) (show b + 6 < w.1 by omega) (zPut_in (o := 6) (by omega)) (q9 := _) rfl rfl (k_Sett_copyFrom (show b + 6 < w.1 by omega) (show b2 + 6 < w.1 by omega) (zPut_in (o := 6) (by omega)) ((zPut_out (by omega)).trans (hO 6 (by omega))) (by omega)) ⟨Nat.le_of_ble_eq_true rfl, Nat.le_of_ble_eq_true rfl⟩ ⟨Nat.le_refl _, Nat.le_refl _⟩ rfl (Nat.le_of_ble_eq_true rfl) zm_2_86 rfl dX2_copyFrom_70 rfl ?_
  refine zcw (f2 := zPut f b (zHut w cy b γ (hCp3 σ σ2))) (zu_settA) ?_
  refine zr_iconst X (v := 0) dX2_copyFrom_73 (by decide) ?_
  refine zr_istore_n X (ls' := [(2, .int (0)), (0, .ref (w.2 (b))), (1, .ref (w.2 (b2)))]) dX2_copyFrom_74 rfl (by decide) rfl ?_
  refine zr_loc X (ls' := [(0, .ref (w.2 (b))), (1, .ref (w.2 (b2))), (2, .int (0))]) [1, 2, 0] rfl ?_
  refine zcast (f2 := zPut f b (zHut w cy b γ (hCpM σ σ2 (0)))) (ls2 := [(0, .ref (w.2 (b))), (1, .ref (w.2 (b2))), (2, .int (nI (0)))]) rfl rfl ?_
  refine zdown (P := fun n => G (w, 0, 0) (zPut f b (zHut w cy b γ (hCpM σ σ2 (n)))) [(0, .ref (w.2 (b))), (1, .ref (w.2 (b2))), (2, .int (nI (n)))] 75 []) (B := mc) ?_ (fun n hn75 ih75 => ?_) 0 (Nat.zero_le _) 
  · show G (w, 0, 0) (zPut f b (zHut w cy b γ (hCpM σ σ2 (mc)))) [(0, .ref (w.2 (b))), (1, .ref (w.2 (b2))), (2, .int (nI (mc)))] 75 []
    have hm3 : hCpM σ σ2 mc 0 = nI mc := (hCpM_lo mc 0 (by decide)).trans hm
    have hg3 : hCpM σ σ2 mc 1 = nI bk := (hCpM_lo mc 1 (by decide)).trans hg
    refine zr_iload_n X 2 dX2_copyFrom_75 rfl rfl ?_
    refine zr_aload_n X 0 dX2_copyFrom_76 rfl rfl ?_
    refine zr_get X zfd_RX2_50 (b) (show b < w.1 by omega) (zPut_in (o := 0) (by omega)) (v := .int ((hCpM σ σ2 (mc)) 0)) rfl dX2_copyFrom_77 ?_
    refine zr_icmp_ge X (tgt := 117) dX2_copyFrom_80 (by decide) (fun _ => ?_) (fun h => False.elim (h (by rw [hm3]; exact nI_le (Nat.le_refl _) (by omega))))
    refine zr_iconst X (v := 0) dX2_copyFrom_117 (by decide) ?_
    refine zr_istore_n X (ls' := [(2, .int (0)), (0, .ref (w.2 (b))), (1, .ref (w.2 (b2)))]) dX2_copyFrom_118 rfl (by decide) rfl ?_
    refine zr_loc X (ls' := [(0, .ref (w.2 (b))), (1, .ref (w.2 (b2))), (2, .int (0))]) [1, 2, 0] rfl ?_
    refine zcast (f2 := zPut f b (zHut w cy b γ (hCpG mc γ γ2 σ σ2 (0)))) (ls2 := [(0, .ref (w.2 (b))), (1, .ref (w.2 (b2))), (2, .int (nI (0)))]) rfl rfl ?_
    refine zdown (P := fun n => G (w, 0, 0) (zPut f b (zHut w cy b γ (hCpG mc γ γ2 σ σ2 (n)))) [(0, .ref (w.2 (b))), (1, .ref (w.2 (b2))), (2, .int (nI (n)))] 119 []) (B := bk) ?_ (fun n hn119 ih119 => ?_) 0 (Nat.zero_le _) 
    · show G (w, 0, 0) (zPut f b (zHut w cy b γ (hCpG mc γ γ2 σ σ2 (bk)))) [(0, .ref (w.2 (b))), (1, .ref (w.2 (b2))), (2, .int (nI (bk)))] 119 []
      have hm3 : hCpG mc γ γ2 σ σ2 bk 0 = nI mc := (hCpG_lo bk 0 (by decide)).trans hm
      have hg3 : hCpG mc γ γ2 σ σ2 bk 1 = nI bk := (hCpG_lo bk 1 (by decide)).trans hg
      refine zr_iload_n X 2 dX2_copyFrom_119 rfl rfl ?_
      refine zr_aload_n X 0 dX2_copyFrom_120 rfl rfl ?_
      refine zr_get X zfd_RX2_53 (b) (show b < w.1 by omega) (zPut_in (o := 0) (by omega)) (v := .int ((hCpG mc γ γ2 σ σ2 (bk)) 1)) rfl dX2_copyFrom_121 ?_
      refine zr_icmp_ge X (tgt := 161) dX2_copyFrom_124 (by decide) (fun _ => ?_) (fun h => False.elim (h (by rw [hg3]; exact nI_le (Nat.le_refl _) (by omega))))
      exact zret_v E rfl dX2_copyFrom_161 (by simp only [])
    · show G (w, 0, 0) (zPut f b (zHut w cy b γ (hCpG mc γ γ2 σ σ2 (n)))) [(0, .ref (w.2 (b))), (1, .ref (w.2 (b2))), (2, .int (nI (n)))] 119 []
      have hm3 : hCpG mc γ γ2 σ σ2 n 0 = nI mc := (hCpG_lo n 0 (by decide)).trans hm
      have hg3 : hCpG mc γ γ2 σ σ2 n 1 = nI bk := (hCpG_lo n 1 (by decide)).trans hg
      refine zr_iload_n X 2 dX2_copyFrom_119 rfl rfl ?_
      refine zr_aload_n X 0 dX2_copyFrom_120 rfl rfl ?_
      refine zr_get X zfd_RX2_53 (b) (show b < w.1 by omega) (zPut_in (o := 0) (by omega)) (v := .int ((hCpG mc γ γ2 σ σ2 (n)) 1)) rfl dX2_copyFrom_121 ?_
      refine zr_icmp_ge X (tgt := 161) dX2_copyFrom_124 (by decide) (fun h => False.elim (nI_ge hn119 (by omega) (by rw [← hg3]; exact h))) (fun _ => ?_)
      refine zr_aload_n X 0 dX2_copyFrom_127 rfl rfl ?_
      refine zr_iload_n X 2 dX2_copyFrom_128 rfl rfl ?_
      have q11 := hγ n (by omega)
      refine zr_cV X (As := [.int (nI (n))]) (rest := []) (f' := zPut f b (zHut w cy b γ (hCpG mc γ γ2 σ σ2 (n)))) (st' := [.ref (w.2 (b + (11 + γ n)))]) zc_X2_groupAt (b) (show b < w.1 by omega) (zPut_in (o := 0) (by omega)) (q9 := _) rfl rfl (k_groupAt hb hm3 hmc hg3 hbk hγ (by omega)) ⟨Nat.le_of_ble_eq_true rfl, Nat.le_of_ble_eq_true rfl⟩ ⟨Nat.le_refl _, Nat.le_refl _⟩ rfl (Nat.le_of_ble_eq_true rfl) zm_2_94 rfl dX2_copyFrom_129 rfl ?_
      refine zr_astore_n X (ls' := [(3, .ref (w.2 (b + (11 + γ n)))), (0, .ref (w.2 (b))), (1, .ref (w.2 (b2))), (2, .int (nI (n)))]) dX2_copyFrom_132 rfl (by decide) rfl ?_
      refine zr_aload_n X 2 dX2_copyFrom_133 rfl rfl ?_
      refine zr_iload_n X 3 dX2_copyFrom_134 rfl rfl ?_
      have q22 := hγ2 n (by omega)
      refine zr_cV X (As := [.int (nI (n))]) (rest := []) (f' := zPut f b (zHut w cy b γ (hCpG mc γ γ2 σ σ2 (n)))) (st' := [.ref (w.2 (b2 + (11 + γ2 n)))]) zc_X2_groupAt (b2) (show b2 < w.1 by omega) ((zPut_out (by omega)).trans (hO 0 (by omega))) (q9 := _) rfl rfl (k_groupAtF (fun o ho => (zPut_out (by omega)).trans (hO o ho)) hb2 hm hmc hg hbk hγ2 (by omega)) ⟨Nat.le_of_ble_eq_true rfl, Nat.le_of_ble_eq_true rfl⟩ ⟨Nat.le_refl _, Nat.le_refl _⟩ rfl (Nat.le_of_ble_eq_true rfl) zm_2_94 rfl dX2_copyFrom_135 rfl ?_
      refine zr_astore X (ls' := [(4, .ref (w.2 (b2 + (11 + γ2 n)))), (3, .ref (w.2 (b + (11 + γ n)))), (0, .ref (w.2 (b))), (1, .ref (w.2 (b2))), (2, .int (nI (n)))]) dX2_copyFrom_138 (by decide) rfl ?_
      refine zr_aload_n X 1 dX2_copyFrom_140 rfl rfl ?_
      refine zr_ifnull X dX2_copyFrom_141 ?_
      refine zr_aload X 0 dX2_copyFrom_144 rfl ?_
      refine zr_ifnull X dX2_copyFrom_146 ?_
      refine zr_aload_n X 1 dX2_copyFrom_149 rfl rfl ?_
      refine zr_aload X 0 dX2_copyFrom_150 rfl ?_
      refine zr_cV X (As := [.ref (w.2 (b2 + (11 + γ2 n)))]) (rest := []) (f' := va_up (zPut f b (zHut w cy b γ (hCpG mc γ γ2 σ σ2 (n)))) (b + (11 + γ n)) (eGroup (fun i9 => σ2 (55 + 6 * (γ2 n) + i9)))) (st' := []) zc_X0_copyFrom (b + (11 + γ n)) (show b + (11 + γ n) < w.1 by omega) ((zPut_in (o := 11 + γ n) (by omega)).trans (zHut_group (k := γ n))) (q9 := _) rfl rfl (k_Group_copyFrom (show b + (11 + γ n) < w.1 by omega) (show b2 + (11 + γ2 n) < w.1 by omega) ((zPut_in (o := 11 + γ n) (by omega)).trans (zHut_group (k := γ n))) ((zPut_out (by omega)).trans ((hO (11 + γ2 n) (by omega)).trans (zHut_group (k := γ2 n)))) (by omega)) ⟨Nat.le_of_ble_eq_true rfl, Nat.le_of_ble_eq_true rfl⟩ ⟨Nat.le_refl _, Nat.le_refl _⟩ rfl (Nat.le_of_ble_eq_true rfl) zm_2_98 rfl dX2_copyFrom_152 rfl ?_
      refine zcw (f2 := zPut f b (zHut w cy b γ (setR (hCpG mc γ γ2 σ σ2 (n)) (55 + 6 * γ n) 6 (fun i9 => σ2 (55 + 6 * (γ2 n) + i9))))) (zu_group (k := γ n) (by omega)) ?_
      refine zr_iinc X (v := nI (n + 1)) (ls' := [(2, .int (nI (n + 1))), (4, .ref (w.2 (b2 + (11 + γ2 n)))), (3, .ref (w.2 (b + (11 + γ n)))), (0, .ref (w.2 (b))), (1, .ref (w.2 (b2)))]) 4 dX2_copyFrom_155 rfl (zinc1 _) (by decide) rfl ?_
      refine zr_goto X (tgt := 119) dX2_copyFrom_158 (by decide) ?_
      refine zr_loc X (ls' := [(0, .ref (w.2 (b))), (1, .ref (w.2 (b2))), (2, .int (nI (n + 1)))]) [3, 4, 0] rfl ?_
      exact zcast (f2 := zPut f b (zHut w cy b γ (hCpG mc γ γ2 σ σ2 (n + 1)))) (ls2 := [(0, .ref (w.2 (b))), (1, .ref (w.2 (b2))), (2, .int (nI (n + 1)))]) rfl rfl ih119
  · show G (w, 0, 0) (zPut f b (zHut w cy b γ (hCpM σ σ2 (n)))) [(0, .ref (w.2 (b))), (1, .ref (w.2 (b2))), (2, .int (nI (n)))] 75 []
    have hm3 : hCpM σ σ2 n 0 = nI mc := (hCpM_lo n 0 (by decide)).trans hm
    have hg3 : hCpM σ σ2 n 1 = nI bk := (hCpM_lo n 1 (by decide)).trans hg
    refine zr_iload_n X 2 dX2_copyFrom_75 rfl rfl ?_
    refine zr_aload_n X 0 dX2_copyFrom_76 rfl rfl ?_
    refine zr_get X zfd_RX2_50 (b) (show b < w.1 by omega) (zPut_in (o := 0) (by omega)) (v := .int ((hCpM σ σ2 (n)) 0)) rfl dX2_copyFrom_77 ?_
    refine zr_icmp_ge X (tgt := 117) dX2_copyFrom_80 (by decide) (fun h => False.elim (nI_ge hn75 (by omega) (by rw [← hm3]; exact h))) (fun _ => ?_)
    refine zr_aload_n X 0 dX2_copyFrom_83 rfl rfl ?_
    refine zr_iload_n X 2 dX2_copyFrom_84 rfl rfl ?_
    refine zr_cV X (As := [.int (nI (n))]) (rest := []) (f' := zPut f b (zHut w cy b γ (hCpM σ σ2 (n)))) (st' := [.ref (w.2 (b + (7 + n)))]) zc_X2_muleAt (b) (show b < w.1 by omega) (zPut_in (o := 0) (by omega)) (q9 := _) rfl rfl (k_muleAt hb hm3 hmc hg3 hbk hγ (by omega)) ⟨Nat.le_of_ble_eq_true rfl, Nat.le_of_ble_eq_true rfl⟩ ⟨Nat.le_refl _, Nat.le_refl _⟩ rfl (Nat.le_of_ble_eq_true rfl) zm_2_42 rfl dX2_copyFrom_85 rfl ?_
    refine zr_astore_n X (ls' := [(3, .ref (w.2 (b + (7 + n)))), (0, .ref (w.2 (b))), (1, .ref (w.2 (b2))), (2, .int (nI (n)))]) dX2_copyFrom_88 rfl (by decide) rfl ?_
    refine zr_aload_n X 2 dX2_copyFrom_89 rfl rfl ?_
    refine zr_iload_n X 3 dX2_copyFrom_90 rfl rfl ?_
    refine zr_cV X (As := [.int (nI (n))]) (rest := []) (f' := zPut f b (zHut w cy b γ (hCpM σ σ2 (n)))) (st' := [.ref (w.2 (b2 + (7 + n)))]) zc_X2_muleAt (b2) (show b2 < w.1 by omega) ((zPut_out (by omega)).trans (hO 0 (by omega))) (q9 := _) rfl rfl (k_muleAtF (fun o ho => (zPut_out (by omega)).trans (hO o ho)) hb2 hm hmc hg hbk hγ2 (by omega)) ⟨Nat.le_of_ble_eq_true rfl, Nat.le_of_ble_eq_true rfl⟩ ⟨Nat.le_refl _, Nat.le_refl _⟩ rfl (Nat.le_of_ble_eq_true rfl) zm_2_42 rfl dX2_copyFrom_91 rfl ?_
    refine zr_astore X (ls' := [(4, .ref (w.2 (b2 + (7 + n)))), (3, .ref (w.2 (b + (7 + n)))), (0, .ref (w.2 (b))), (1, .ref (w.2 (b2))), (2, .int (nI (n)))]) dX2_copyFrom_94 (by decide) rfl ?_
    refine zr_aload_n X 1 dX2_copyFrom_96 rfl rfl ?_
    refine zr_ifnull X dX2_copyFrom_97 ?_
    refine zr_aload X 0 dX2_copyFrom_100 rfl ?_
    refine zr_ifnull X dX2_copyFrom_102 ?_
    refine zr_aload_n X 1 dX2_copyFrom_105 rfl rfl ?_
    refine zr_aload X 0 dX2_copyFrom_106 rfl ?_
    refine zr_cV X (As := [.ref (w.2 (b2 + (7 + n)))]) (rest := []) (f' := va_up (zPut f b (zHut w cy b γ (hCpM σ σ2 (n)))) (b + (7 + n)) (eMule (fun i9 => σ2 (19 + 9 * n + i9)))) (st' := []) zc_X4_copyFrom (b + (7 + n)) (show b + (7 + n) < w.1 by omega) ((zPut_in (o := 7 + n) (by omega)).trans (zHut_mule (k := n) (by omega))) (q9 := _) rfl rfl (k_Mule_copyFrom (show b + (7 + n) < w.1 by omega) (show b2 + (7 + n) < w.1 by omega) ((zPut_in (o := 7 + n) (by omega)).trans (zHut_mule (k := n) (by omega))) ((zPut_out (by omega)).trans ((hO (7 + n) (by omega)).trans (zHut_mule (k := n) (by omega)))) (by omega)) ⟨Nat.le_of_ble_eq_true rfl, Nat.le_of_ble_eq_true rfl⟩ ⟨Nat.le_refl _, Nat.le_refl _⟩ rfl (Nat.le_of_ble_eq_true rfl) zm_2_90 rfl dX2_copyFrom_108 rfl ?_
    refine zcw (f2 := zPut f b (zHut w cy b γ (setR (hCpM σ σ2 (n)) (19 + 9 * n) 9 (fun i9 => σ2 (19 + 9 * n + i9))))) (zu_mule (k := n) (by omega)) ?_
    refine zr_iinc X (v := nI (n + 1)) (ls' := [(2, .int (nI (n + 1))), (4, .ref (w.2 (b2 + (7 + n)))), (3, .ref (w.2 (b + (7 + n)))), (0, .ref (w.2 (b))), (1, .ref (w.2 (b2)))]) 4 dX2_copyFrom_111 rfl (zinc1 _) (by decide) rfl ?_
    refine zr_goto X (tgt := 75) dX2_copyFrom_114 (by decide) ?_
    refine zr_loc X (ls' := [(0, .ref (w.2 (b))), (1, .ref (w.2 (b2))), (2, .int (nI (n + 1)))]) [3, 4, 0] rfl ?_
    exact zcast (f2 := zPut f b (zHut w cy b γ (hCpM σ σ2 (n + 1)))) (ls2 := [(0, .ref (w.2 (b))), (1, .ref (w.2 (b2))), (2, .int (nI (n + 1)))]) rfl rfl ih75
