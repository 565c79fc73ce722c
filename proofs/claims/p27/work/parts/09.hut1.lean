set_option maxHeartbeats 4000000 in
set_option maxRecDepth 100000 in
theorem k_muleAt {l : Launch} {D : va_G} {cy : Nat → ClassId} {w : zW} {f : zF} {b mc bk : Nat} {γ : Nat → Nat} {σ : Nat → Int32} {k : Nat} (hb : b + 21 ≤ w.1) (hm : σ 0 = nI mc) (hmc : mc ≤ 4) (hg : σ 1 = nI bk) (hbk : bk ≤ 10) (hγ : ∀ k, k < 10 → γ k < 10) (hk : k < mc) : zSd l D cy yX2_muleAt cX2_muleAt 2 (some (.object "HutLoaves$Mule")) 0 0 [.ref (w.2 (b)), .int (nI k)] w (zPut f b (zHut w cy b γ σ)) (some (.ref (w.2 (b + (7 + k))))) (zPut f b (zHut w cy b γ σ)) := by
  refine zSd.intro (by decide) (Nat.le_of_ble_eq_true rfl) (fun G X E => ?_)
  show G (w, 0, 0) (zPut f b (zHut w cy b γ σ)) [(0, .ref (w.2 (b))), (1, .int (nI k))] 0 []
  refine zr_iload_n X 1 dX2_muleAt_0 rfl rfl ?_
  refine zr_if_lt X (tgt := 30) dX2_muleAt_1 (by decide) (fun h => False.elim (nI_pos (by omega) h)) (fun _ => ?_)
  refine zr_iload_n X 1 dX2_muleAt_4 rfl rfl ?_
  refine zr_aload_n X 0 dX2_muleAt_5 rfl rfl ?_
  refine zr_get X zfd_RX2_50 (b) (show b < w.1 by omega) (zPut_in (o := 0) (by omega)) (v := .int (σ 0)) rfl dX2_muleAt_6 ?_
  refine zr_icmp_ge X (tgt := 30) dX2_muleAt_9 (by decide) (fun h => False.elim (nI_ge hk (by omega) (by rw [← hm]; exact h))) (fun _ => ?_)
  refine zr_iload_n X 1 dX2_muleAt_12 rfl rfl ?_
  refine zr_aload_n X 0 dX2_muleAt_13 rfl rfl ?_
  refine zr_get X zfd_RX2_11 (b) (show b < w.1 by omega) (zPut_in (o := 0) (by omega)) (v := .ref (w.2 (b + 1))) rfl dX2_muleAt_14 ?_
  refine zr_alen X (b + 1) (show b + 1 < w.1 by omega) (b := 2) rfl (zPut_in (o := 1) (by omega)) (v := 4) rfl dX2_muleAt_17 ?_
  refine zr_icmp_ge X (tgt := 30) dX2_muleAt_18 (by decide) (fun h => False.elim (nI_ge (show k < 4 by omega) (by decide) h)) (fun _ => ?_)
  refine zr_aload_n X 0 dX2_muleAt_21 rfl rfl ?_
  refine zr_get X zfd_RX2_11 (b) (show b < w.1 by omega) (zPut_in (o := 0) (by omega)) (v := .ref (w.2 (b + 1))) rfl dX2_muleAt_22 ?_
  refine zr_iload_n X 1 dX2_muleAt_25 rfl rfl ?_
  refine zr_aald X (b + 1) (show b + 1 < w.1 by omega) (b := 2) rfl (zPut_in (o := 1) (by omega)) (k) (rfl) (by omega) (by decide) (v := w.2 (b + (7 + k))) rfl dX2_muleAt_26 ?_
  refine zr_goto X (tgt := 31) dX2_muleAt_27 (by decide) ?_
  exact zret_a E ⟨_, rfl⟩ (Or.inr ⟨_, rfl⟩) dX2_muleAt_31 rfl rfl
set_option maxHeartbeats 4000000 in
set_option maxRecDepth 100000 in
theorem k_muleAtN {l : Launch} {D : va_G} {cy : Nat → ClassId} {w : zW} {f : zF} {b mc bk : Nat} {γ : Nat → Nat} {σ : Nat → Int32} {x : Int32} (hb : b + 21 ≤ w.1) (hm : σ 0 = nI mc) (hmc : mc ≤ 4) (hg : σ 1 = nI bk) (hbk : bk ≤ 10) (hγ : ∀ k, k < 10 → γ k < 10) (hx : x < 0 ∨ σ 0 ≤ x) : zSd l D cy yX2_muleAt cX2_muleAt 2 (some (.object "HutLoaves$Mule")) 0 0 [.ref (w.2 (b)), .int (x)] w (zPut f b (zHut w cy b γ σ)) (some (.null)) (zPut f b (zHut w cy b γ σ)) := by
  refine zSd.intro (by decide) (Nat.le_of_ble_eq_true rfl) (fun G X E => ?_)
  show G (w, 0, 0) (zPut f b (zHut w cy b γ σ)) [(0, .ref (w.2 (b))), (1, .int (x))] 0 []
  refine zr_iload_n X 1 dX2_muleAt_0 rfl rfl ?_
  refine zr_if_lt X (tgt := 30) dX2_muleAt_1 (by decide) (fun h1 => ?_) (fun h2 => ?_)
  · refine zr_null X dX2_muleAt_30 ?_
    exact zret_a E ⟨_, rfl⟩ (Or.inl rfl) dX2_muleAt_31 rfl rfl
  · refine zr_iload_n X 1 dX2_muleAt_4 rfl rfl ?_
    refine zr_aload_n X 0 dX2_muleAt_5 rfl rfl ?_
    refine zr_get X zfd_RX2_50 (b) (show b < w.1 by omega) (zPut_in (o := 0) (by omega)) (v := .int (σ 0)) rfl dX2_muleAt_6 ?_
    refine zr_icmp_ge X (tgt := 30) dX2_muleAt_9 (by decide) (fun _ => ?_) (fun h => False.elim (hx.elim (fun q => h2 q) h))
    refine zr_null X dX2_muleAt_30 ?_
    exact zret_a E ⟨_, rfl⟩ (Or.inl rfl) dX2_muleAt_31 rfl rfl
set_option maxHeartbeats 4000000 in
set_option maxRecDepth 100000 in
theorem k_groupAt {l : Launch} {D : va_G} {cy : Nat → ClassId} {w : zW} {f : zF} {b mc bk : Nat} {γ : Nat → Nat} {σ : Nat → Int32} {k : Nat} (hb : b + 21 ≤ w.1) (hm : σ 0 = nI mc) (hmc : mc ≤ 4) (hg : σ 1 = nI bk) (hbk : bk ≤ 10) (hγ : ∀ k, k < 10 → γ k < 10) (hk : k < bk) : zSd l D cy yX2_groupAt cX2_groupAt 2 (some (.object "HutLoaves$Group")) 0 0 [.ref (w.2 (b)), .int (nI k)] w (zPut f b (zHut w cy b γ σ)) (some (.ref (w.2 (b + (11 + γ k))))) (zPut f b (zHut w cy b γ σ)) := by
  refine zSd.intro (by decide) (Nat.le_of_ble_eq_true rfl) (fun G X E => ?_)
  show G (w, 0, 0) (zPut f b (zHut w cy b γ σ)) [(0, .ref (w.2 (b))), (1, .int (nI k))] 0 []
  refine zr_iload_n X 1 dX2_groupAt_0 rfl rfl ?_
  refine zr_if_lt X (tgt := 30) dX2_groupAt_1 (by decide) (fun h => False.elim (nI_pos (by omega) h)) (fun _ => ?_)
  refine zr_iload_n X 1 dX2_groupAt_4 rfl rfl ?_
  refine zr_aload_n X 0 dX2_groupAt_5 rfl rfl ?_
  refine zr_get X zfd_RX2_53 (b) (show b < w.1 by omega) (zPut_in (o := 0) (by omega)) (v := .int (σ 1)) rfl dX2_groupAt_6 ?_
  refine zr_icmp_ge X (tgt := 30) dX2_groupAt_9 (by decide) (fun h => False.elim (nI_ge hk (by omega) (by rw [← hg]; exact h))) (fun _ => ?_)
  refine zr_iload_n X 1 dX2_groupAt_12 rfl rfl ?_
  refine zr_aload_n X 0 dX2_groupAt_13 rfl rfl ?_
  refine zr_get X zfd_RX2_19 (b) (show b < w.1 by omega) (zPut_in (o := 0) (by omega)) (v := .ref (w.2 (b + 2))) rfl dX2_groupAt_14 ?_
  refine zr_alen X (b + 2) (show b + 2 < w.1 by omega) (b := 3) rfl (zPut_in (o := 2) (by omega)) (v := 10) rfl dX2_groupAt_17 ?_
  refine zr_icmp_ge X (tgt := 30) dX2_groupAt_18 (by decide) (fun h => False.elim (nI_ge (show k < 10 by omega) (by decide) h)) (fun _ => ?_)
  refine zr_aload_n X 0 dX2_groupAt_21 rfl rfl ?_
  refine zr_get X zfd_RX2_19 (b) (show b < w.1 by omega) (zPut_in (o := 0) (by omega)) (v := .ref (w.2 (b + 2))) rfl dX2_groupAt_22 ?_
  refine zr_iload_n X 1 dX2_groupAt_25 rfl rfl ?_
  refine zr_aald X (b + 2) (show b + 2 < w.1 by omega) (b := 3) rfl (zPut_in (o := 2) (by omega)) (k) (rfl) (by omega) (by decide) (v := w.2 (b + (11 + γ k))) rfl dX2_groupAt_26 ?_
  refine zr_goto X (tgt := 31) dX2_groupAt_27 (by decide) ?_
  exact zret_a E ⟨_, rfl⟩ (Or.inr ⟨_, rfl⟩) dX2_groupAt_31 rfl rfl
set_option maxHeartbeats 4000000 in
set_option maxRecDepth 100000 in
theorem k_groupAtN {l : Launch} {D : va_G} {cy : Nat → ClassId} {w : zW} {f : zF} {b mc bk : Nat} {γ : Nat → Nat} {σ : Nat → Int32} {x : Int32} (hb : b + 21 ≤ w.1) (hm : σ 0 = nI mc) (hmc : mc ≤ 4) (hg : σ 1 = nI bk) (hbk : bk ≤ 10) (hγ : ∀ k, k < 10 → γ k < 10) (hx : x < 0 ∨ σ 1 ≤ x) : zSd l D cy yX2_groupAt cX2_groupAt 2 (some (.object "HutLoaves$Group")) 0 0 [.ref (w.2 (b)), .int (x)] w (zPut f b (zHut w cy b γ σ)) (some (.null)) (zPut f b (zHut w cy b γ σ)) := by
  refine zSd.intro (by decide) (Nat.le_of_ble_eq_true rfl) (fun G X E => ?_)
  show G (w, 0, 0) (zPut f b (zHut w cy b γ σ)) [(0, .ref (w.2 (b))), (1, .int (x))] 0 []
  refine zr_iload_n X 1 dX2_groupAt_0 rfl rfl ?_
  refine zr_if_lt X (tgt := 30) dX2_groupAt_1 (by decide) (fun h1 => ?_) (fun h2 => ?_)
  · refine zr_null X dX2_groupAt_30 ?_
    exact zret_a E ⟨_, rfl⟩ (Or.inl rfl) dX2_groupAt_31 rfl rfl
  · refine zr_iload_n X 1 dX2_groupAt_4 rfl rfl ?_
    refine zr_aload_n X 0 dX2_groupAt_5 rfl rfl ?_
    refine zr_get X zfd_RX2_53 (b) (show b < w.1 by omega) (zPut_in (o := 0) (by omega)) (v := .int (σ 1)) rfl dX2_groupAt_6 ?_
    refine zr_icmp_ge X (tgt := 30) dX2_groupAt_9 (by decide) (fun _ => ?_) (fun h => False.elim (hx.elim (fun q => h2 q) h))
    refine zr_null X dX2_groupAt_30 ?_
    exact zret_a E ⟨_, rfl⟩ (Or.inl rfl) dX2_groupAt_31 rfl rfl
theorem zix3 {σ : Nat → Int32} {i n N : Nat} {x : Int32} (hm : σ i = nI n) (hn : n ≤ N) (hN : N < 2147483648) (h0 : ¬ x < 0) (h1 : ¬ σ i ≤ x) : x.toNatClampNeg < n := by
  rw [hm] at h1
  exact zix2 h0 (by omega) h1
theorem k_muleAtX {l : Launch} {D : va_G} {cy : Nat → ClassId} {w : zW} {f : zF} {b mc bk : Nat} {γ : Nat → Nat} {σ : Nat → Int32} {x : Int32} (hb : b + 21 ≤ w.1) (hm : σ 0 = nI mc) (hmc : mc ≤ 4) (hg : σ 1 = nI bk) (hbk : bk ≤ 10) (hγ : ∀ k, k < 10 → γ k < 10) (h0 : ¬ x < 0) (h1 : ¬ σ 0 ≤ x) : zSd l D cy yX2_muleAt cX2_muleAt 2 (some (.object "HutLoaves$Mule")) 0 0 [.ref (w.2 b), .int x] w (zPut f b (zHut w cy b γ σ)) (some (.ref (w.2 (b + (7 + x.toNatClampNeg))))) (zPut f b (zHut w cy b γ σ)) := by
  have e := zix1 h0
  have hk := zix3 hm hmc (by decide) h0 h1
  have r := k_muleAt (l := l) (D := D) (cy := cy) (w := w) (f := f) hb hm hmc hg hbk hγ hk
  rw [← e] at r
  exact r
theorem k_groupAtX {l : Launch} {D : va_G} {cy : Nat → ClassId} {w : zW} {f : zF} {b mc bk : Nat} {γ : Nat → Nat} {σ : Nat → Int32} {x : Int32} (hb : b + 21 ≤ w.1) (hm : σ 0 = nI mc) (hmc : mc ≤ 4) (hg : σ 1 = nI bk) (hbk : bk ≤ 10) (hγ : ∀ k, k < 10 → γ k < 10) (h0 : ¬ x < 0) (h1 : ¬ σ 1 ≤ x) : zSd l D cy yX2_groupAt cX2_groupAt 2 (some (.object "HutLoaves$Group")) 0 0 [.ref (w.2 b), .int x] w (zPut f b (zHut w cy b γ σ)) (some (.ref (w.2 (b + (11 + γ x.toNatClampNeg))))) (zPut f b (zHut w cy b γ σ)) := by
  have e := zix1 h0
  have hk := zix3 hg hbk (by decide) h0 h1
  have r := k_groupAt (l := l) (D := D) (cy := cy) (w := w) (f := f) hb hm hmc hg hbk hγ hk
  rw [← e] at r
  exact r
def hPlace (γ : Nat → Nat) (σ : Nat → Int32) (x : Int32) : Nat → Nat → Int32
  | 0, _ => -1
  | m + 1, k => if σ (55 + 6 * γ k + 0) = x then nI k else hPlace γ σ x m (k + 1)
set_option maxHeartbeats 4000000 in
set_option maxRecDepth 100000 in
theorem k_placeOfGroup {l : Launch} {D : va_G} {cy : Nat → ClassId} {w : zW} {f : zF} {b mc bk : Nat} {γ : Nat → Nat} {σ : Nat → Int32} {x : Int32} (hb : b + 21 ≤ w.1) (hm : σ 0 = nI mc) (hmc : mc ≤ 4) (hg : σ 1 = nI bk) (hbk : bk ≤ 10) (hγ : ∀ k, k < 10 → γ k < 10)  : zSd l D cy yX2_placeOfGroup cX2_placeOfGroup 4 (some .int) 1 21 [.ref (w.2 (b)), .int (x)] w (zPut f b (zHut w cy b γ σ)) (some (.int (hPlace γ σ x bk 0))) (zPut f b (zHut w cy b γ σ)) := by
  refine zSd.intro (by decide) (Nat.le_of_ble_eq_true rfl) (fun G X E => ?_)
  show G (w, 0, 0) (zPut f b (zHut w cy b γ σ)) [(0, .ref (w.2 (b))), (1, .int (x))] 0 []
  refine zr_iconst X (v := 0) dX2_placeOfGroup_0 (by decide) ?_
  refine zr_istore_n X (ls' := [(2, .int (0)), (0, .ref (w.2 (b))), (1, .int (x))]) dX2_placeOfGroup_1 rfl (by decide) rfl ?_
  refine zr_loc X (ls' := [(0, .ref (w.2 (b))), (1, .int (x)), (2, .int (0))]) [1, 2, 0] rfl ?_
  refine zcast (f2 := zPut f b (zHut w cy b γ σ)) (ls2 := [(0, .ref (w.2 (b))), (1, .int (x)), (2, .int (nI (0)))]) rfl rfl ?_
  refine zdown (P := fun n => hPlace γ σ x (bk - (n)) (n) = hPlace γ σ x bk 0 → G (w, 0, 0) (zPut f b (zHut w cy b γ σ)) [(0, .ref (w.2 (b))), (1, .int (x)), (2, .int (nI (n)))] 2 []) (B := bk) ?_ (fun n hn2 ih2 => ?_) 0 (Nat.zero_le _) rfl
  · show hPlace γ σ x (bk - (bk)) (bk) = hPlace γ σ x bk 0 → G (w, 0, 0) (zPut f b (zHut w cy b γ σ)) [(0, .ref (w.2 (b))), (1, .int (x)), (2, .int (nI (bk)))] 2 []
    intro hp
    refine zr_iload_n X 2 dX2_placeOfGroup_2 rfl rfl ?_
    refine zr_aload_n X 0 dX2_placeOfGroup_3 rfl rfl ?_
    refine zr_get X zfd_RX2_53 (b) (show b < w.1 by omega) (zPut_in (o := 0) (by omega)) (v := .int (σ 1)) rfl dX2_placeOfGroup_4 ?_
    refine zr_icmp_ge X (tgt := 36) dX2_placeOfGroup_7 (by decide) (fun _ => ?_) (fun h => False.elim (h (by rw [hg]; exact nI_le (Nat.le_refl _) (by omega))))
    refine zr_iconst X (v := (-1)) dX2_placeOfGroup_36 (by decide) ?_
    exact zret_i E rfl dX2_placeOfGroup_37 (by rw [← hp, Nat.sub_self]; rfl) rfl
  · show hPlace γ σ x (bk - (n)) (n) = hPlace γ σ x bk 0 → G (w, 0, 0) (zPut f b (zHut w cy b γ σ)) [(0, .ref (w.2 (b))), (1, .int (x)), (2, .int (nI (n)))] 2 []
    intro hp
    rw [show bk - n = (bk - (n + 1)) + 1 by omega] at hp
    refine zr_iload_n X 2 dX2_placeOfGroup_2 rfl rfl ?_
    refine zr_aload_n X 0 dX2_placeOfGroup_3 rfl rfl ?_
    refine zr_get X zfd_RX2_53 (b) (show b < w.1 by omega) (zPut_in (o := 0) (by omega)) (v := .int (σ 1)) rfl dX2_placeOfGroup_4 ?_
    refine zr_icmp_ge X (tgt := 36) dX2_placeOfGroup_7 (by decide) (fun h => False.elim (nI_ge hn2 (by omega) (by rw [← hg]; exact h))) (fun _ => ?_)
    refine zr_aload_n X 0 dX2_placeOfGroup_10 rfl rfl ?_
    refine zr_iload_n X 2 dX2_placeOfGroup_11 rfl rfl ?_
    have q01 := hγ n (by omega)
    refine zr_cV X (As := [.int (nI (n))]) (rest := []) (f' := zPut f b (zHut w cy b γ σ)) (st' := [.ref (w.2 (b + (11 + γ n)))]) zc_X2_groupAt (b) (show b < w.1 by omega) (zPut_in (o := 0) (by omega)) (q9 := _) rfl rfl (k_groupAt hb hm hmc hg hbk hγ (by omega)) ⟨Nat.le_of_ble_eq_true rfl, Nat.le_of_ble_eq_true rfl⟩ ⟨Nat.le_refl _, Nat.le_refl _⟩ rfl (Nat.le_of_ble_eq_true rfl) zm_2_94 rfl dX2_placeOfGroup_12 rfl ?_
    refine zr_astore_n X (ls' := [(3, .ref (w.2 (b + (11 + γ n)))), (0, .ref (w.2 (b))), (1, .int (x)), (2, .int (nI (n)))]) dX2_placeOfGroup_15 rfl (by decide) rfl ?_
    refine zr_aload_n X 0 dX2_placeOfGroup_16 rfl rfl ?_
    refine zr_ifnull X dX2_placeOfGroup_17 ?_
    refine zr_aload_n X 0 dX2_placeOfGroup_20 rfl rfl ?_
    refine zr_getN X zfn_RX2_86 (b + (11 + γ n)) (show b + (11 + γ n) < w.1 by omega) ((zPut_in (o := 11 + γ n) (by omega)).trans (zHut_group (k := γ n))) (v := .int (σ (55 + 6 * (γ n) + 0))) rfl dX2_placeOfGroup_21 ?_
    refine zr_iload_n X 2 dX2_placeOfGroup_24 rfl rfl ?_
    refine zr_icmp_ne X (tgt := 30) dX2_placeOfGroup_25 (by decide) (fun h1 => ?_) (fun h2 => ?_)
    · refine zr_iinc X (v := nI (n + 1)) (ls' := [(2, .int (nI (n + 1))), (3, .ref (w.2 (b + (11 + γ n)))), (0, .ref (w.2 (b))), (1, .int (x))]) 3 dX2_placeOfGroup_30 rfl (zinc1 _) (by decide) rfl ?_
      refine zr_goto X (tgt := 2) dX2_placeOfGroup_33 (by decide) ?_
      refine zr_loc X (ls' := [(0, .ref (w.2 (b))), (1, .int (x)), (2, .int (nI (n + 1)))]) [2, 3, 0] rfl ?_
      exact zcast (f2 := zPut f b (zHut w cy b γ σ)) (ls2 := [(0, .ref (w.2 (b))), (1, .int (x)), (2, .int (nI (n + 1)))]) rfl rfl (ih2 (by rw [← hp]; simp only [if_neg h1, hPlace]))
    · refine zr_iload_n X 3 dX2_placeOfGroup_28 rfl rfl ?_
      exact zret_i E rfl dX2_placeOfGroup_29 (by rw [← hp]; simp only [if_pos h2, hPlace]) rfl
theorem k_muleAtE {l : Launch} {D : va_G} {cy : Nat → ClassId} {w : zW} {f : zF} {b mc bk : Nat} {γ : Nat → Nat} {σ : Nat → Int32} {k : Nat} {x : Int32} (hb : b + 21 ≤ w.1) (hm : σ 0 = nI mc) (hmc : mc ≤ 4) (hg : σ 1 = nI bk) (hbk : bk ≤ 10) (hγ : ∀ k, k < 10 → γ k < 10) (hk : k < mc) (hx : x = nI k) : zSd l D cy yX2_muleAt cX2_muleAt 2 (some (.object "HutLoaves$Mule")) 0 0 [.ref (w.2 b), .int x] w (zPut f b (zHut w cy b γ σ)) (some (.ref (w.2 (b + (7 + k))))) (zPut f b (zHut w cy b γ σ)) := by
  subst hx
  exact k_muleAt hb hm hmc hg hbk hγ hk
theorem k_groupAtE {l : Launch} {D : va_G} {cy : Nat → ClassId} {w : zW} {f : zF} {b mc bk : Nat} {γ : Nat → Nat} {σ : Nat → Int32} {k : Nat} {x : Int32} (hb : b + 21 ≤ w.1) (hm : σ 0 = nI mc) (hmc : mc ≤ 4) (hg : σ 1 = nI bk) (hbk : bk ≤ 10) (hγ : ∀ k, k < 10 → γ k < 10) (hk : k < bk) (hx : x = nI k) : zSd l D cy yX2_groupAt cX2_groupAt 2 (some (.object "HutLoaves$Group")) 0 0 [.ref (w.2 b), .int x] w (zPut f b (zHut w cy b γ σ)) (some (.ref (w.2 (b + (11 + γ k))))) (zPut f b (zHut w cy b γ σ)) := by
  subst hx
  exact k_groupAt hb hm hmc hg hbk hγ hk
theorem hm_up {σ : Nat → Int32} {i n : Nat} (h : σ i = nI n) : upd σ i (σ i + 1) i = nI (n + 1) := by
  rw [upd_eq, h, nI_succ]
def hAddMule1 (mc : Nat) (σ : Nat → Int32) (a c : Int32) : Nat → Int32 := setR (upd σ 0 (σ 0 + 1)) (19 + 9 * mc) 9 (mBegin (fun i => (upd σ 0 (σ 0 + 1)) (19 + 9 * mc + i)) a c)
def hAddMule (mc : Nat) (σ : Nat → Int32) (a c : Int32) : Int32 × (Nat → Int32) := if (zwin a 1 30) = 0 then (-1000001, σ) else if (zwin c 1 9) = 0 then (-1000001, σ) else if (σ 0) < 4 then (σ 0, hAddMule1 mc σ a c) else (-1000003, σ)
set_option maxHeartbeats 4000000 in
set_option maxRecDepth 100000 in
theorem k_addMule {l : Launch} {D : va_G} {cy : Nat → ClassId} {w : zW} {f : zF} {b mc bk : Nat} {γ : Nat → Nat} {σ : Nat → Int32} {a : Int32} {c : Int32} (hb : b + 21 ≤ w.1) (hm : σ 0 = nI mc) (hmc : mc ≤ 4) (hg : σ 1 = nI bk) (hbk : bk ≤ 10) (hγ : ∀ k, k < 10 → γ k < 10)  : zSd l D cy yX2_addMule cX2_addMule 5 (some .int) 1 22 [.ref (w.2 (b)), .int (a), .int (c)] w (zPut f b (zHut w cy b γ σ)) (some (.int ((hAddMule mc σ a c).1))) (zPut f b (zHut w cy b γ (hAddMule mc σ a c).2)) := by
  refine zSd.intro (by decide) (Nat.le_of_ble_eq_true rfl) (fun G X E => ?_)
  show G (w, 0, 0) (zPut f b (zHut w cy b γ σ)) [(0, .ref (w.2 (b))), (1, .int (a)), (2, .int (c))] 0 []
  refine zr_iload_n X 1 dX2_addMule_0 rfl rfl ?_
  refine zr_iconst X (v := 1) dX2_addMule_1 (by decide) ?_
  refine zr_bipush X (v := 30) dX2_addMule_2 (by decide) ?_
  refine zr_cSN X (As := [.int (a), .int (1), .int (30)]) (rest := []) (f' := zPut f b (zHut w cy b γ σ)) (st' := [.int (zwin a 1 30)]) zc_X8_isWithin k_isWithin ⟨Nat.le_of_ble_eq_true rfl, Nat.le_of_ble_eq_true rfl⟩ ⟨Nat.le_refl _, Nat.le_refl _⟩ rfl (Nat.le_of_ble_eq_true rfl) (List.mem_of_getElem? (i := 37) rfl) rfl dX2_addMule_4 rfl ?_
  refine zr_if_eq X (tgt := 20) dX2_addMule_7 (by decide) (fun h1 => ?_) (fun h2 => ?_)
  · refine zr_ldc X zm_2_54 dX2_addMule_20 ?_
    exact zret_i E rfl dX2_addMule_22 (by simp only [hAddMule, hAddMule1, if_pos h1]) (by simp only [hAddMule, hAddMule1, if_pos h1])
  · refine zr_iload_n X 2 dX2_addMule_10 rfl rfl ?_
    refine zr_iconst X (v := 1) dX2_addMule_11 (by decide) ?_
    refine zr_bipush X (v := 9) dX2_addMule_12 (by decide) ?_
    refine zr_cSN X (As := [.int (c), .int (1), .int (9)]) (rest := []) (f' := zPut f b (zHut w cy b γ σ)) (st' := [.int (zwin c 1 9)]) zc_X8_isWithin k_isWithin ⟨Nat.le_of_ble_eq_true rfl, Nat.le_of_ble_eq_true rfl⟩ ⟨Nat.le_refl _, Nat.le_refl _⟩ rfl (Nat.le_of_ble_eq_true rfl) (List.mem_of_getElem? (i := 37) rfl) rfl dX2_addMule_14 rfl ?_
    refine zr_if_ne X (tgt := 23) dX2_addMule_17 (by decide) (fun h3 => ?_) (fun h4 => ?_)
    · refine zr_aload_n X 0 dX2_addMule_23 rfl rfl ?_
      refine zr_get X zfd_RX2_50 (b) (show b < w.1 by omega) (zPut_in (o := 0) (by omega)) (v := .int (σ 0)) rfl dX2_addMule_24 ?_
      refine zr_iconst X (v := 4) dX2_addMule_27 (by decide) ?_
      refine zr_icmp_lt X (tgt := 34) dX2_addMule_28 (by decide) (fun h5 => ?_) (fun h6 => ?_)
      · refine zr_aload_n X 0 dX2_addMule_34 rfl rfl ?_
        refine zr_get X zfd_RX2_50 (b) (show b < w.1 by omega) (zPut_in (o := 0) (by omega)) (v := .int (σ 0)) rfl dX2_addMule_35 ?_
        refine zr_istore_n X (ls' := [(3, .int (σ 0)), (0, .ref (w.2 (b))), (1, .int (a)), (2, .int (c))]) dX2_addMule_38 rfl (by decide) rfl ?_
        refine zr_aload_n X 1 dX2_addMule_39 rfl rfl ?_
        refine zr_dup X dX2_addMule_40 rfl ?_
        refine zr_get X zfd_RX2_50 (b) (show b < w.1 by omega) (zPut_in (o := 0) (by omega)) (v := .int (σ 0)) rfl dX2_addMule_41 ?_
        refine zr_iconst X (v := 1) dX2_addMule_44 (by decide) ?_
        refine zr_iadd X dX2_addMule_45 ?_
        refine zr_put X zfd_RX2_50 zty_2_5 (b) (show b < w.1 by omega) (zPut_in (o := 0) (by omega)) rfl rfl (Nat.le_of_ble_eq_true rfl) (eHut_set _ _ _ _ 0 (by decide)) dX2_addMule_46 ?_
        refine zcw (f2 := zPut f b (zHut w cy b γ (upd σ 0 ((σ 0) + 1)))) (zu_hut (i := 0) (by decide)) ?_
        refine zr_aload_n X 1 dX2_addMule_49 rfl rfl ?_
        refine zr_iload_n X 0 dX2_addMule_50 rfl rfl ?_
        have q : mc < 4 := by have h9 := h5; rw [hm] at h9; exact (nI_ltI (by omega) (show 4 < 2147483648 by decide)).mp h9
        refine zr_cV X (As := [.int (σ 0)]) (rest := []) (f' := zPut f b (zHut w cy b γ (upd σ 0 ((σ 0) + 1)))) (st' := [.ref (w.2 (b + (7 + mc)))]) zc_X2_muleAt (b) (show b < w.1 by omega) (zPut_in (o := 0) (by omega)) (q9 := _) rfl rfl (k_muleAtE hb (hm_up hm) (show mc + 1 ≤ 4 by omega) (show _ = nI bk from hg) hbk hγ (show mc < mc + 1 by omega) hm) ⟨Nat.le_of_ble_eq_true rfl, Nat.le_of_ble_eq_true rfl⟩ ⟨Nat.le_refl _, Nat.le_refl _⟩ rfl (Nat.le_of_ble_eq_true rfl) zm_2_42 rfl dX2_addMule_51 rfl ?_
        refine zr_astore X (ls' := [(4, .ref (w.2 (b + (7 + mc)))), (3, .int (σ 0)), (0, .ref (w.2 (b))), (1, .int (a)), (2, .int (c))]) dX2_addMule_54 (by decide) rfl ?_
        refine zr_aload X 0 dX2_addMule_56 rfl ?_
        refine zr_ifnull X dX2_addMule_58 ?_
        refine zr_aload X 0 dX2_addMule_61 rfl ?_
        refine zr_iload_n X 3 dX2_addMule_63 rfl rfl ?_
        refine zr_iload_n X 4 dX2_addMule_64 rfl rfl ?_
        refine zr_cV X (As := [.int (a), .int (c)]) (rest := []) (f' := va_up (zPut f b (zHut w cy b γ (upd σ 0 ((σ 0) + 1)))) (b + (7 + mc)) (eMule (mBegin (fun i9 => (upd σ 0 ((σ 0) + 1)) (19 + 9 * mc + i9)) a c))) (st' := []) zc_X4_begin (b + (7 + mc)) (show b + (7 + mc) < w.1 by omega) ((zPut_in (o := 7 + mc) (by omega)).trans (zHut_mule (k := mc) (by omega))) (q9 := _) rfl rfl (k_Mule_begin (show b + (7 + mc) < w.1 by omega) ((zPut_in (o := 7 + mc) (by omega)).trans (zHut_mule (k := mc) (by omega)))) ⟨Nat.le_of_ble_eq_true rfl, Nat.le_of_ble_eq_true rfl⟩ ⟨Nat.le_refl _, Nat.le_refl _⟩ rfl (Nat.le_of_ble_eq_true rfl) zm_2_107 rfl dX2_addMule_65 rfl ?_
        refine zcw (f2 := zPut f b (zHut w cy b γ (setR (upd σ 0 ((σ 0) + 1)) (19 + 9 * mc) 9 (mBegin (fun i9 => (upd σ 0 ((σ 0) + 1)) (19 + 9 * mc + i9)) a c)))) (zu_mule (k := mc) (by omega)) ?_
        refine zr_iload_n X 1 dX2_addMule_68 rfl rfl ?_
        exact zret_i E rfl dX2_addMule_69 (by simp only [hAddMule, hAddMule1, if_neg h2, if_neg h3, if_pos h5]) (by simp only [hAddMule, hAddMule1, if_neg h2, if_neg h3, if_pos h5])
      · refine zr_ldc X zm_2_106 dX2_addMule_31 ?_
        exact zret_i E rfl dX2_addMule_33 (by simp only [hAddMule, hAddMule1, if_neg h2, if_neg h3, if_neg h6]) (by simp only [hAddMule, hAddMule1, if_neg h2, if_neg h3, if_neg h6])
    · refine zr_ldc X zm_2_54 dX2_addMule_20 ?_
      exact zret_i E rfl dX2_addMule_22 (by simp only [hAddMule, hAddMule1, if_neg h2, if_pos h4]) (by simp only [hAddMule, hAddMule1, if_neg h2, if_pos h4])
def hWhy (σ : Nat → Int32) (x n : Int32) : Int32 := if x < 0 then (-1000001) else if (σ 0) ≤ x then (-1000001) else if (zwin n 1 30) = 0 then (-1000001) else if (σ (19 + 9 * x.toNatClampNeg + 2)) = 0 then (if n ≤ (σ (19 + 9 * x.toNatClampNeg + 0)) then (if ((σ 6) + (n * (σ 15))) ≤ (σ 16) then 0 else 3) else 2) else 1
set_option maxHeartbeats 4000000 in
set_option maxRecDepth 100000 in
theorem k_whyNot {l : Launch} {D : va_G} {cy : Nat → ClassId} {w : zW} {f : zF} {b mc bk : Nat} {γ : Nat → Nat} {σ : Nat → Int32} {x : Int32} {n : Int32} (hb : b + 21 ≤ w.1) (hm : σ 0 = nI mc) (hmc : mc ≤ 4) (hg : σ 1 = nI bk) (hbk : bk ≤ 10) (hγ : ∀ k, k < 10 → γ k < 10)  : zSd l D cy yX2_whyNot cX2_whyNot 4 (some .int) 1 22 [.ref (w.2 (b)), .int (x), .int (n)] w (zPut f b (zHut w cy b γ σ)) (some (.int (hWhy σ x n))) (zPut f b (zHut w cy b γ σ)) := by
  refine zSd.intro (by decide) (Nat.le_of_ble_eq_true rfl) (fun G X E => ?_)
  show G (w, 0, 0) (zPut f b (zHut w cy b γ σ)) [(0, .ref (w.2 (b))), (1, .int (x)), (2, .int (n))] 0 []
  refine zr_aload_n X 0 dX2_whyNot_0 rfl rfl ?_
  refine zr_iload_n X 1 dX2_whyNot_1 rfl rfl ?_
  by_cases h1 : x < 0
  · refine zr_cV X (As := [.int (x)]) (rest := []) (f' := zPut f b (zHut w cy b γ σ)) (st' := [.null]) zc_X2_muleAt (b) (show b < w.1 by omega) (zPut_in (o := 0) (by omega)) (q9 := _) rfl rfl (k_muleAtN hb hm hmc hg hbk hγ (Or.inl h1)) ⟨Nat.le_of_ble_eq_true rfl, Nat.le_of_ble_eq_true rfl⟩ ⟨Nat.le_refl _, Nat.le_refl _⟩ rfl (Nat.le_of_ble_eq_true rfl) zm_2_42 rfl dX2_whyNot_2 rfl ?_
    refine zr_astore_nN X (ls' := [(3, .null), (0, .ref (w.2 (b))), (1, .int (x)), (2, .int (n))]) dX2_whyNot_5 rfl (by decide) rfl ?_
    refine zr_aload_nN X 0 dX2_whyNot_6 rfl rfl ?_
    refine zr_ifnullN X (tgt := 20) dX2_whyNot_7 (by decide) ?_
    refine zr_ldc X zm_2_54 dX2_whyNot_20 ?_
    exact zret_i E rfl dX2_whyNot_22 (by simp only [hWhy, if_pos h1]) rfl
  · by_cases h2 : (σ 0) ≤ x
    · refine zr_cV X (As := [.int (x)]) (rest := []) (f' := zPut f b (zHut w cy b γ σ)) (st' := [.null]) zc_X2_muleAt (b) (show b < w.1 by omega) (zPut_in (o := 0) (by omega)) (q9 := _) rfl rfl (k_muleAtN hb hm hmc hg hbk hγ (Or.inr h2)) ⟨Nat.le_of_ble_eq_true rfl, Nat.le_of_ble_eq_true rfl⟩ ⟨Nat.le_refl _, Nat.le_refl _⟩ rfl (Nat.le_of_ble_eq_true rfl) zm_2_42 rfl dX2_whyNot_2 rfl ?_
      refine zr_astore_nN X (ls' := [(3, .null), (0, .ref (w.2 (b))), (1, .int (x)), (2, .int (n))]) dX2_whyNot_5 rfl (by decide) rfl ?_
      refine zr_aload_nN X 0 dX2_whyNot_6 rfl rfl ?_
      refine zr_ifnullN X (tgt := 20) dX2_whyNot_7 (by decide) ?_
      refine zr_ldc X zm_2_54 dX2_whyNot_20 ?_
      exact zret_i E rfl dX2_whyNot_22 (by simp only [hWhy, if_neg h1, if_pos h2]) rfl
    · have q1 := zix3 hm hmc (by decide) h1 h2
      refine zr_cV X (As := [.int (x)]) (rest := []) (f' := zPut f b (zHut w cy b γ σ)) (st' := [.ref (w.2 (b + (7 + x.toNatClampNeg)))]) zc_X2_muleAt (b) (show b < w.1 by omega) (zPut_in (o := 0) (by omega)) (q9 := _) rfl rfl (k_muleAtX hb hm hmc hg hbk hγ h1 h2) ⟨Nat.le_of_ble_eq_true rfl, Nat.le_of_ble_eq_true rfl⟩ ⟨Nat.le_refl _, Nat.le_refl _⟩ rfl (Nat.le_of_ble_eq_true rfl) zm_2_42 rfl dX2_whyNot_2 rfl ?_
      refine zr_astore_n X (ls' := [(3, .ref (w.2 (b + (7 + x.toNatClampNeg)))), (0, .ref (w.2 (b))), (1, .int (x)), (2, .int (n))]) dX2_whyNot_5 rfl (by decide) rfl ?_
      refine zr_aload_n X 0 dX2_whyNot_6 rfl rfl ?_
      refine zr_ifnull X dX2_whyNot_7 ?_
      refine zr_iload_n X 3 dX2_whyNot_10 rfl rfl ?_
      refine zr_iconst X (v := 1) dX2_whyNot_11 (by decide) ?_
      refine zr_bipush X (v := 30) dX2_whyNot_12 (by decide) ?_
      refine zr_cSN X (As := [.int (n), .int (1), .int (30)]) (rest := []) (f' := zPut f b (zHut w cy b γ σ)) (st' := [.int (zwin n 1 30)]) zc_X8_isWithin k_isWithin ⟨Nat.le_of_ble_eq_true rfl, Nat.le_of_ble_eq_true rfl⟩ ⟨Nat.le_refl _, Nat.le_refl _⟩ rfl (Nat.le_of_ble_eq_true rfl) (List.mem_of_getElem? (i := 37) rfl) rfl dX2_whyNot_14 rfl ?_
      refine zr_if_ne X (tgt := 23) dX2_whyNot_17 (by decide) (fun h3 => ?_) (fun h4 => ?_)
      · refine zr_aload_n X 0 dX2_whyNot_23 rfl rfl ?_
        refine zr_getN X zfn_RX2_99 (b + (7 + x.toNatClampNeg)) (show b + (7 + x.toNatClampNeg) < w.1 by omega) ((zPut_in (o := 7 + x.toNatClampNeg) (by omega)).trans (zHut_mule (k := x.toNatClampNeg) (by omega))) (v := .int (σ (19 + 9 * x.toNatClampNeg + 2))) rfl dX2_whyNot_24 ?_
        refine zr_if_eq X (tgt := 32) dX2_whyNot_27 (by decide) (fun h5 => ?_) (fun h6 => ?_)
        · refine zr_iload_n X 3 dX2_whyNot_32 rfl rfl ?_
          refine zr_aload_n X 0 dX2_whyNot_33 rfl rfl ?_
          refine zr_getN X zfn_RX2_102 (b + (7 + x.toNatClampNeg)) (show b + (7 + x.toNatClampNeg) < w.1 by omega) ((zPut_in (o := 7 + x.toNatClampNeg) (by omega)).trans (zHut_mule (k := x.toNatClampNeg) (by omega))) (v := .int (σ (19 + 9 * x.toNatClampNeg + 0))) rfl dX2_whyNot_34 ?_
          refine zr_icmp_le X (tgt := 42) dX2_whyNot_37 (by decide) (fun h7 => ?_) (fun h8 => ?_)
          · refine zr_aload_n X 1 dX2_whyNot_42 rfl rfl ?_
            refine zr_get X zfd_RX2_33 (b) (show b < w.1 by omega) (zPut_in (o := 0) (by omega)) (v := .ref (w.2 (b + 5))) rfl dX2_whyNot_43 ?_
            refine zr_getN X zfn_RX2_105 (b + 5) (show b + 5 < w.1 by omega) (zPut_in (o := 5) (by omega)) (v := .int (σ 6)) rfl dX2_whyNot_46 ?_
            refine zr_iload_n X 3 dX2_whyNot_49 rfl rfl ?_
            refine zr_aload_n X 1 dX2_whyNot_50 rfl rfl ?_
            refine zr_get X zfd_RX2_40 (b) (show b < w.1 by omega) (zPut_in (o := 0) (by omega)) (v := .ref (w.2 (b + 6))) rfl dX2_whyNot_51 ?_
            refine zr_getN X zfn_RX2_108 (b + 6) (show b + 6 < w.1 by omega) (zPut_in (o := 6) (by omega)) (v := .int (σ 15)) rfl dX2_whyNot_54 ?_
            refine zr_imul X dX2_whyNot_57 ?_
            refine zr_iadd X dX2_whyNot_58 ?_
            refine zr_aload_n X 1 dX2_whyNot_59 rfl rfl ?_
            refine zr_get X zfd_RX2_40 (b) (show b < w.1 by omega) (zPut_in (o := 0) (by omega)) (v := .ref (w.2 (b + 6))) rfl dX2_whyNot_60 ?_
            refine zr_getN X zfn_RX2_111 (b + 6) (show b + 6 < w.1 by omega) (zPut_in (o := 6) (by omega)) (v := .int (σ 16)) rfl dX2_whyNot_63 ?_
            refine zr_icmp_le X (tgt := 73) dX2_whyNot_66 (by decide) (fun h9 => ?_) (fun h10 => ?_)
            · refine zr_iconst X (v := 0) dX2_whyNot_73 (by decide) ?_
              exact zret_i E rfl dX2_whyNot_74 (by simp only [hWhy, if_neg h1, if_neg h2, if_neg h3, if_pos h5, if_pos h7, if_pos h9]) rfl
            · refine zr_iconst X (v := 3) dX2_whyNot_69 (by decide) ?_
              refine zr_goto X (tgt := 74) dX2_whyNot_70 (by decide) ?_
              exact zret_i E rfl dX2_whyNot_74 (by simp only [hWhy, if_neg h1, if_neg h2, if_neg h3, if_pos h5, if_pos h7, if_neg h10]) rfl
          · refine zr_iconst X (v := 2) dX2_whyNot_40 (by decide) ?_
            exact zret_i E rfl dX2_whyNot_41 (by simp only [hWhy, if_neg h1, if_neg h2, if_neg h3, if_pos h5, if_neg h8]) rfl
        · refine zr_iconst X (v := 1) dX2_whyNot_30 (by decide) ?_
          exact zret_i E rfl dX2_whyNot_31 (by simp only [hWhy, if_neg h1, if_neg h2, if_neg h3, if_neg h6]) rfl
      · refine zr_ldc X zm_2_54 dX2_whyNot_20 ?_
        exact zret_i E rfl dX2_whyNot_22 (by simp only [hWhy, if_neg h1, if_neg h2, if_pos h4]) rfl
def hSend1 (σ : Nat → Int32) (k : Nat) (n : Int32) : Nat → Int32 := setR σ (19 + 9 * k) 9 (mLeave (fun i => σ (19 + 9 * k + i)) n (σ 3))
def hSend2 (σ : Nat → Int32) (n : Int32) : Int32 × (Nat → Int32) := (σ 6 + n * σ 15, upd (upd σ 7 (σ 7 + n)) 6 (σ 6 + n * σ 15))
def hSend (σ : Nat → Int32) (x n : Int32) : Int32 × (Nat → Int32) := if (hWhy σ x n) = (-1000001) then (-1000001, σ) else if (hWhy σ x n) = 0 then hSend2 (hSend1 σ x.toNatClampNeg n) n else (-1000002, σ)
set_option maxHeartbeats 4000000 in
set_option maxRecDepth 100000 in
theorem k_sendMule {l : Launch} {D : va_G} {cy : Nat → ClassId} {w : zW} {f : zF} {b mc bk : Nat} {γ : Nat → Nat} {σ : Nat → Int32} {x : Int32} {n : Int32} (hb : b + 21 ≤ w.1) (hm : σ 0 = nI mc) (hmc : mc ≤ 4) (hg : σ 1 = nI bk) (hbk : bk ≤ 10) (hγ : ∀ k, k < 10 → γ k < 10)  : zSd l D cy yX2_sendMule cX2_sendMule 5 (some .int) 2 45 [.ref (w.2 (b)), .int (x), .int (n)] w (zPut f b (zHut w cy b γ σ)) (some (.int ((hSend σ x n).1))) (zPut f b (zHut w cy b γ (hSend σ x n).2)) := by
  refine zSd.intro (by decide) (Nat.le_of_ble_eq_true rfl) (fun G X E => ?_)
  show G (w, 0, 0) (zPut f b (zHut w cy b γ σ)) [(0, .ref (w.2 (b))), (1, .int (x)), (2, .int (n))] 0 []
  refine zr_aload_n X 0 dX2_sendMule_0 rfl rfl ?_
  refine zr_iload_n X 1 dX2_sendMule_1 rfl rfl ?_
  refine zr_iload_n X 2 dX2_sendMule_2 rfl rfl ?_
  refine zr_cV X (As := [.int (x), .int (n)]) (rest := []) (f' := zPut f b (zHut w cy b γ σ)) (st' := [.int (hWhy σ x n)]) zc_X2_whyNot (b) (show b < w.1 by omega) (zPut_in (o := 0) (by omega)) (q9 := _) rfl rfl (k_whyNot hb hm hmc hg hbk hγ) ⟨Nat.le_of_ble_eq_true rfl, Nat.le_of_ble_eq_true rfl⟩ ⟨Nat.le_refl _, Nat.le_refl _⟩ rfl (Nat.le_of_ble_eq_true rfl) zm_2_133 rfl dX2_sendMule_3 rfl ?_
  refine zr_istore_n X (ls' := [(3, .int (hWhy σ x n)), (0, .ref (w.2 (b))), (1, .int (x)), (2, .int (n))]) dX2_sendMule_6 rfl (by decide) rfl ?_
  refine zr_iload_n X 0 dX2_sendMule_7 rfl rfl ?_
  refine zr_ldc X zm_2_54 dX2_sendMule_8 ?_
  refine zr_icmp_ne X (tgt := 16) dX2_sendMule_10 (by decide) (fun h1 => ?_) (fun h2 => ?_)
  · refine zr_aload_n X 1 dX2_sendMule_16 rfl rfl ?_
    refine zr_iload_n X 2 dX2_sendMule_17 rfl rfl ?_
    have p1 : ¬ x < 0 := fun h => h1 (by simp only [hWhy, if_pos h])
    have p2 : ¬ σ 0 ≤ x := fun h => h1 (by simp only [hWhy, if_neg p1, if_pos h])
    have q9 := zix3 hm hmc (by decide) p1 p2
    refine zr_cV X (As := [.int (x)]) (rest := []) (f' := zPut f b (zHut w cy b γ σ)) (st' := [.ref (w.2 (b + (7 + x.toNatClampNeg)))]) zc_X2_muleAt (b) (show b < w.1 by omega) (zPut_in (o := 0) (by omega)) (q9 := _) rfl rfl (k_muleAtX hb hm hmc hg hbk hγ p1 p2) ⟨Nat.le_of_ble_eq_true rfl, Nat.le_of_ble_eq_true rfl⟩ ⟨Nat.le_refl _, Nat.le_refl _⟩ rfl (Nat.le_of_ble_eq_true rfl) zm_2_42 rfl dX2_sendMule_18 rfl ?_
    refine zr_astore X (ls' := [(4, .ref (w.2 (b + (7 + x.toNatClampNeg)))), (3, .int (hWhy σ x n)), (0, .ref (w.2 (b))), (1, .int (x)), (2, .int (n))]) dX2_sendMule_21 (by decide) rfl ?_
    refine zr_iload_n X 1 dX2_sendMule_23 rfl rfl ?_
    refine zr_if_ne X (tgt := 32) dX2_sendMule_24 (by decide) (fun h3 => ?_) (fun h4 => ?_)
    · refine zr_ldc X zm_2_137 dX2_sendMule_32 ?_
      exact zret_i E rfl dX2_sendMule_34 (by simp only [hSend, hSend1, hSend2, if_neg h1, if_neg h3]) (by simp only [hSend, hSend1, hSend2, if_neg h1, if_neg h3])
    · refine zr_aload X 0 dX2_sendMule_27 rfl ?_
      refine zr_ifnonnull X (tgt := 35) dX2_sendMule_29 (by decide) ?_
      refine zr_aload X 0 dX2_sendMule_35 rfl ?_
      refine zr_iload_n X 4 dX2_sendMule_37 rfl rfl ?_
      refine zr_aload_n X 2 dX2_sendMule_38 rfl rfl ?_
      refine zr_get X zfd_RX2_59 (b) (show b < w.1 by omega) (zPut_in (o := 0) (by omega)) (v := .int (σ 3)) rfl dX2_sendMule_39 ?_
      refine zr_cV X (As := [.int (n), .int (σ 3)]) (rest := []) (f' := va_up (zPut f b (zHut w cy b γ σ)) (b + (7 + x.toNatClampNeg)) (eMule (mLeave (fun i9 => σ (19 + 9 * x.toNatClampNeg + i9)) n (σ 3)))) (st' := []) zc_X4_leave (b + (7 + x.toNatClampNeg)) (show b + (7 + x.toNatClampNeg) < w.1 by omega) ((zPut_in (o := 7 + x.toNatClampNeg) (by omega)).trans (zHut_mule (k := x.toNatClampNeg) (by omega))) (q9 := _) rfl rfl (k_Mule_leave (show b + (7 + x.toNatClampNeg) < w.1 by omega) ((zPut_in (o := 7 + x.toNatClampNeg) (by omega)).trans (zHut_mule (k := x.toNatClampNeg) (by omega)))) ⟨Nat.le_of_ble_eq_true rfl, Nat.le_of_ble_eq_true rfl⟩ ⟨Nat.le_refl _, Nat.le_refl _⟩ rfl (Nat.le_of_ble_eq_true rfl) zm_2_138 rfl dX2_sendMule_42 rfl ?_
      refine zcw (f2 := zPut f b (zHut w cy b γ (setR σ (19 + 9 * x.toNatClampNeg) 9 (mLeave (fun i9 => σ (19 + 9 * x.toNatClampNeg + i9)) n (σ 3))))) (zu_mule (k := x.toNatClampNeg) (by omega)) ?_
      refine zr_aload_n X 2 dX2_sendMule_45 rfl rfl ?_
      refine zr_get X zfd_RX2_33 (b) (show b < w.1 by omega) (zPut_in (o := 0) (by omega)) (v := .ref (w.2 (b + 5))) rfl dX2_sendMule_46 ?_
      refine zr_dup X dX2_sendMule_49 rfl ?_
      refine zr_getN X zfn_RX2_122 (b + 5) (show b + 5 < w.1 by omega) (zPut_in (o := 5) (by omega)) (v := .int ((setR σ (19 + 9 * x.toNatClampNeg) 9 (mLeave (fun i9 => σ (19 + 9 * x.toNatClampNeg + i9)) n (σ 3))) 7)) rfl dX2_sendMule_50 ?_
      refine zr_iload_n X 4 dX2_sendMule_53 rfl rfl ?_
      refine zr_iadd X dX2_sendMule_54 ?_
      refine zr_putN X zfn_RX2_122 zty_3_2 (b + 5) (show b + 5 < w.1 by omega) (zPut_in (o := 5) (by omega)) rfl rfl (Nat.le_of_ble_eq_true rfl) (eLedger_set _ _ 2 (by decide)) dX2_sendMule_55 ?_
      refine zcw (f2 := zPut f b (zHut w cy b γ (upd (setR σ (19 + 9 * x.toNatClampNeg) 9 (mLeave (fun i9 => σ (19 + 9 * x.toNatClampNeg + i9)) n (σ 3))) 7 (((setR σ (19 + 9 * x.toNatClampNeg) 9 (mLeave (fun i9 => σ (19 + 9 * x.toNatClampNeg + i9)) n (σ 3))) 7) + n)))) (zu_ledger (i := 2) (by decide)) ?_
      refine zr_aload_n X 2 dX2_sendMule_58 rfl rfl ?_
      refine zr_get X zfd_RX2_33 (b) (show b < w.1 by omega) (zPut_in (o := 0) (by omega)) (v := .ref (w.2 (b + 5))) rfl dX2_sendMule_59 ?_
      refine zr_dup X dX2_sendMule_62 rfl ?_
      refine zr_getN X zfn_RX2_105 (b + 5) (show b + 5 < w.1 by omega) (zPut_in (o := 5) (by omega)) (v := .int ((setR σ (19 + 9 * x.toNatClampNeg) 9 (mLeave (fun i9 => σ (19 + 9 * x.toNatClampNeg + i9)) n (σ 3))) 6)) rfl dX2_sendMule_63 ?_
      refine zr_iload_n X 4 dX2_sendMule_66 rfl rfl ?_
      refine zr_aload_n X 2 dX2_sendMule_67 rfl rfl ?_
      refine zr_get X zfd_RX2_40 (b) (show b < w.1 by omega) (zPut_in (o := 0) (by omega)) (v := .ref (w.2 (b + 6))) rfl dX2_sendMule_68 ?_
      refine zr_getN X zfn_RX2_108 (b + 6) (show b + 6 < w.1 by omega) (zPut_in (o := 6) (by omega)) (v := .int ((setR σ (19 + 9 * x.toNatClampNeg) 9 (mLeave (fun i9 => σ (19 + 9 * x.toNatClampNeg + i9)) n (σ 3))) 15)) rfl dX2_sendMule_71 ?_
      refine zr_imul X dX2_sendMule_74 ?_
      refine zr_iadd X dX2_sendMule_75 ?_
      refine zr_putN X zfn_RX2_105 zty_3_1 (b + 5) (show b + 5 < w.1 by omega) (zPut_in (o := 5) (by omega)) rfl rfl (Nat.le_of_ble_eq_true rfl) (eLedger_set _ _ 1 (by decide)) dX2_sendMule_76 ?_
      refine zcw (f2 := zPut f b (zHut w cy b γ (upd (upd (setR σ (19 + 9 * x.toNatClampNeg) 9 (mLeave (fun i9 => σ (19 + 9 * x.toNatClampNeg + i9)) n (σ 3))) 7 (((setR σ (19 + 9 * x.toNatClampNeg) 9 (mLeave (fun i9 => σ (19 + 9 * x.toNatClampNeg + i9)) n (σ 3))) 7) + n)) 6 (((setR σ (19 + 9 * x.toNatClampNeg) 9 (mLeave (fun i9 => σ (19 + 9 * x.toNatClampNeg + i9)) n (σ 3))) 6) + (n * ((setR σ (19 + 9 * x.toNatClampNeg) 9 (mLeave (fun i9 => σ (19 + 9 * x.toNatClampNeg + i9)) n (σ 3))) 15)))))) (zu_ledger (i := 1) (by decide)) ?_
      refine zr_aload_n X 2 dX2_sendMule_79 rfl rfl ?_
      refine zr_get X zfd_RX2_33 (b) (show b < w.1 by omega) (zPut_in (o := 0) (by omega)) (v := .ref (w.2 (b + 5))) rfl dX2_sendMule_80 ?_
      refine zr_getN X zfn_RX2_105 (b + 5) (show b + 5 < w.1 by omega) (zPut_in (o := 5) (by omega)) (v := .int (((setR σ (19 + 9 * x.toNatClampNeg) 9 (mLeave (fun i9 => σ (19 + 9 * x.toNatClampNeg + i9)) n (σ 3))) 6) + (n * ((setR σ (19 + 9 * x.toNatClampNeg) 9 (mLeave (fun i9 => σ (19 + 9 * x.toNatClampNeg + i9)) n (σ 3))) 15)))) rfl dX2_sendMule_83 ?_
      exact zret_i E rfl dX2_sendMule_86 (by simp only [hSend, hSend1, hSend2, if_neg h1, if_pos h4]) (by simp only [hSend, hSend1, hSend2, if_neg h1, if_pos h4])
  · refine zr_ldc X zm_2_54 dX2_sendMule_13 ?_
    exact zret_i E rfl dX2_sendMule_15 (by simp only [hSend, hSend1, hSend2, if_pos h2]) (by simp only [hSend, hSend1, hSend2, if_pos h2])
def hRest (σ : Nat → Int32) (x : Int32) : Int32 × (Nat → Int32) := if x < 0 then (-1000001, σ) else if (σ 0) ≤ x then (-1000001, σ) else if (σ (19 + 9 * x.toNatClampNeg + 2)) = 0 then (σ (19 + 9 * x.toNatClampNeg + 6), upd σ (19 + 9 * x.toNatClampNeg + 6) 0) else (-1000002, σ)
set_option maxHeartbeats 4000000 in
set_option maxRecDepth 100000 in
theorem k_restMule {l : Launch} {D : va_G} {cy : Nat → ClassId} {w : zW} {f : zF} {b mc bk : Nat} {γ : Nat → Nat} {σ : Nat → Int32} {x : Int32} (hb : b + 21 ≤ w.1) (hm : σ 0 = nI mc) (hmc : mc ≤ 4) (hg : σ 1 = nI bk) (hbk : bk ≤ 10) (hγ : ∀ k, k < 10 → γ k < 10)  : zSd l D cy yX2_restMule cX2_restMule 4 (some .int) 1 21 [.ref (w.2 (b)), .int (x)] w (zPut f b (zHut w cy b γ σ)) (some (.int ((hRest σ x).1))) (zPut f b (zHut w cy b γ (hRest σ x).2)) := by
  refine zSd.intro (by decide) (Nat.le_of_ble_eq_true rfl) (fun G X E => ?_)
  show G (w, 0, 0) (zPut f b (zHut w cy b γ σ)) [(0, .ref (w.2 (b))), (1, .int (x))] 0 []
  refine zr_aload_n X 0 dX2_restMule_0 rfl rfl ?_
  refine zr_iload_n X 1 dX2_restMule_1 rfl rfl ?_
  by_cases h1 : x < 0
  · refine zr_cV X (As := [.int (x)]) (rest := []) (f' := zPut f b (zHut w cy b γ σ)) (st' := [.null]) zc_X2_muleAt (b) (show b < w.1 by omega) (zPut_in (o := 0) (by omega)) (q9 := _) rfl rfl (k_muleAtN hb hm hmc hg hbk hγ (Or.inl h1)) ⟨Nat.le_of_ble_eq_true rfl, Nat.le_of_ble_eq_true rfl⟩ ⟨Nat.le_refl _, Nat.le_refl _⟩ rfl (Nat.le_of_ble_eq_true rfl) zm_2_42 rfl dX2_restMule_2 rfl ?_
    refine zr_astore_nN X (ls' := [(2, .null), (0, .ref (w.2 (b))), (1, .int (x))]) dX2_restMule_5 rfl (by decide) rfl ?_
    refine zr_aload_nN X 0 dX2_restMule_6 rfl rfl ?_
    refine zr_ifnonnullN X dX2_restMule_7 ?_
    refine zr_ldc X zm_2_54 dX2_restMule_10 ?_
    exact zret_i E rfl dX2_restMule_12 (by simp only [hRest, if_pos h1]) (by simp only [hRest, if_pos h1])
  · by_cases h2 : (σ 0) ≤ x
    · refine zr_cV X (As := [.int (x)]) (rest := []) (f' := zPut f b (zHut w cy b γ σ)) (st' := [.null]) zc_X2_muleAt (b) (show b < w.1 by omega) (zPut_in (o := 0) (by omega)) (q9 := _) rfl rfl (k_muleAtN hb hm hmc hg hbk hγ (Or.inr h2)) ⟨Nat.le_of_ble_eq_true rfl, Nat.le_of_ble_eq_true rfl⟩ ⟨Nat.le_refl _, Nat.le_refl _⟩ rfl (Nat.le_of_ble_eq_true rfl) zm_2_42 rfl dX2_restMule_2 rfl ?_
      refine zr_astore_nN X (ls' := [(2, .null), (0, .ref (w.2 (b))), (1, .int (x))]) dX2_restMule_5 rfl (by decide) rfl ?_
      refine zr_aload_nN X 0 dX2_restMule_6 rfl rfl ?_
      refine zr_ifnonnullN X dX2_restMule_7 ?_
      refine zr_ldc X zm_2_54 dX2_restMule_10 ?_
      exact zret_i E rfl dX2_restMule_12 (by simp only [hRest, if_neg h1, if_pos h2]) (by simp only [hRest, if_neg h1, if_pos h2])
    · have q1 := zix3 hm hmc (by decide) h1 h2
      refine zr_cV X (As := [.int (x)]) (rest := []) (f' := zPut f b (zHut w cy b γ σ)) (st' := [.ref (w.2 (b + (7 + x.toNatClampNeg)))]) zc_X2_muleAt (b) (show b < w.1 by omega) (zPut_in (o := 0) (by omega)) (q9 := _) rfl rfl (k_muleAtX hb hm hmc hg hbk hγ h1 h2) ⟨Nat.le_of_ble_eq_true rfl, Nat.le_of_ble_eq_true rfl⟩ ⟨Nat.le_refl _, Nat.le_refl _⟩ rfl (Nat.le_of_ble_eq_true rfl) zm_2_42 rfl dX2_restMule_2 rfl ?_
      refine zr_astore_n X (ls' := [(2, .ref (w.2 (b + (7 + x.toNatClampNeg)))), (0, .ref (w.2 (b))), (1, .int (x))]) dX2_restMule_5 rfl (by decide) rfl ?_
      refine zr_aload_n X 0 dX2_restMule_6 rfl rfl ?_
      refine zr_ifnonnull X (tgt := 13) dX2_restMule_7 (by decide) ?_
      refine zr_aload_n X 0 dX2_restMule_13 rfl rfl ?_
      refine zr_getN X zfn_RX2_99 (b + (7 + x.toNatClampNeg)) (show b + (7 + x.toNatClampNeg) < w.1 by omega) ((zPut_in (o := 7 + x.toNatClampNeg) (by omega)).trans (zHut_mule (k := x.toNatClampNeg) (by omega))) (v := .int (σ (19 + 9 * x.toNatClampNeg + 2))) rfl dX2_restMule_14 ?_
      refine zr_if_eq X (tgt := 23) dX2_restMule_17 (by decide) (fun h3 => ?_) (fun h4 => ?_)
      · refine zr_aload_n X 0 dX2_restMule_23 rfl rfl ?_
        refine zr_getN X zfn_RX2_125 (b + (7 + x.toNatClampNeg)) (show b + (7 + x.toNatClampNeg) < w.1 by omega) ((zPut_in (o := 7 + x.toNatClampNeg) (by omega)).trans (zHut_mule (k := x.toNatClampNeg) (by omega))) (v := .int (σ (19 + 9 * x.toNatClampNeg + 6))) rfl dX2_restMule_24 ?_
        refine zr_istore_n X (ls' := [(3, .int (σ (19 + 9 * x.toNatClampNeg + 6))), (2, .ref (w.2 (b + (7 + x.toNatClampNeg)))), (0, .ref (w.2 (b))), (1, .int (x))]) dX2_restMule_27 rfl (by decide) rfl ?_
        refine zr_aload_n X 1 dX2_restMule_28 rfl rfl ?_
        refine zr_iconst X (v := 0) dX2_restMule_29 (by decide) ?_
        refine zr_putN X zfn_RX2_125 zty_4_6 (b + (7 + x.toNatClampNeg)) (show b + (7 + x.toNatClampNeg) < w.1 by omega) ((zPut_in (o := 7 + x.toNatClampNeg) (by omega)).trans (zHut_mule (k := x.toNatClampNeg) (by omega))) rfl rfl (Nat.le_of_ble_eq_true rfl) (eMule_set _ _ 6 (by decide)) dX2_restMule_30 ?_
        refine zcw (f2 := zPut f b (zHut w cy b γ (upd σ (19 + 9 * x.toNatClampNeg + 6) 0))) (zu_muleF (k := x.toNatClampNeg) (i := 6) (by omega) (by decide)) ?_
        refine zr_iload_n X 0 dX2_restMule_33 rfl rfl ?_
        exact zret_i E rfl dX2_restMule_34 (by simp only [hRest, if_neg h1, if_neg h2, if_pos h3]) (by simp only [hRest, if_neg h1, if_neg h2, if_pos h3])
      · refine zr_ldc X zm_2_137 dX2_restMule_20 ?_
        exact zret_i E rfl dX2_restMule_22 (by simp only [hRest, if_neg h1, if_neg h2, if_neg h4]) (by simp only [hRest, if_neg h1, if_neg h2, if_neg h4])
def hPay (σ : Nat → Int32) (m : Int32) : Int32 × (Nat → Int32) := if (zwin m 1 500) = 0 then (-1000001, σ) else if (σ 5) < m then (-1000002, σ) else if m ≤ (σ 6) then (σ 6 - m, upd (upd (upd σ 5 (σ 5 - m)) 6 (σ 6 - m)) 14 (σ 14 + m)) else (-1000002, σ)
set_option maxHeartbeats 4000000 in
set_option maxRecDepth 100000 in
theorem k_payBaker {l : Launch} {D : va_G} {cy : Nat → ClassId} {w : zW} {f : zF} {b mc bk : Nat} {γ : Nat → Nat} {σ : Nat → Int32} {m : Int32} (hb : b + 21 ≤ w.1) (hm : σ 0 = nI mc) (hmc : mc ≤ 4) (hg : σ 1 = nI bk) (hbk : bk ≤ 10) (hγ : ∀ k, k < 10 → γ k < 10)  : zSd l D cy yX2_payBaker cX2_payBaker 2 (some .int) 1 22 [.ref (w.2 (b)), .int (m)] w (zPut f b (zHut w cy b γ σ)) (some (.int ((hPay σ m).1))) (zPut f b (zHut w cy b γ (hPay σ m).2)) := by
  refine zSd.intro (by decide) (Nat.le_of_ble_eq_true rfl) (fun G X E => ?_)
  show G (w, 0, 0) (zPut f b (zHut w cy b γ σ)) [(0, .ref (w.2 (b))), (1, .int (m))] 0 []
  refine zr_iload_n X 1 dX2_payBaker_0 rfl rfl ?_
  refine zr_iconst X (v := 1) dX2_payBaker_1 (by decide) ?_
  refine zr_sipush X (v := 500) dX2_payBaker_2 (by decide) ?_
  refine zr_cSN X (As := [.int (m), .int (1), .int (500)]) (rest := []) (f' := zPut f b (zHut w cy b γ σ)) (st' := [.int (zwin m 1 500)]) zc_X8_isWithin k_isWithin ⟨Nat.le_of_ble_eq_true rfl, Nat.le_of_ble_eq_true rfl⟩ ⟨Nat.le_refl _, Nat.le_refl _⟩ rfl (Nat.le_of_ble_eq_true rfl) (List.mem_of_getElem? (i := 37) rfl) rfl dX2_payBaker_5 rfl ?_
  refine zr_if_ne X (tgt := 14) dX2_payBaker_8 (by decide) (fun h1 => ?_) (fun h2 => ?_)
  · refine zr_aload_n X 0 dX2_payBaker_14 rfl rfl ?_
    refine zr_get X zfd_RX2_33 (b) (show b < w.1 by omega) (zPut_in (o := 0) (by omega)) (v := .ref (w.2 (b + 5))) rfl dX2_payBaker_15 ?_
    refine zr_getN X zfn_RX2_128 (b + 5) (show b + 5 < w.1 by omega) (zPut_in (o := 5) (by omega)) (v := .int (σ 5)) rfl dX2_payBaker_18 ?_
    refine zr_iload_n X 1 dX2_payBaker_21 rfl rfl ?_
    refine zr_icmp_lt X (tgt := 36) dX2_payBaker_22 (by decide) (fun h3 => ?_) (fun h4 => ?_)
    · refine zr_ldc X zm_2_137 dX2_payBaker_36 ?_
      exact zret_i E rfl dX2_payBaker_38 (by simp only [hPay, if_neg h1, if_pos h3]) (by simp only [hPay, if_neg h1, if_pos h3])
    · refine zr_aload_n X 0 dX2_payBaker_25 rfl rfl ?_
      refine zr_get X zfd_RX2_33 (b) (show b < w.1 by omega) (zPut_in (o := 0) (by omega)) (v := .ref (w.2 (b + 5))) rfl dX2_payBaker_26 ?_
      refine zr_getN X zfn_RX2_105 (b + 5) (show b + 5 < w.1 by omega) (zPut_in (o := 5) (by omega)) (v := .int (σ 6)) rfl dX2_payBaker_29 ?_
      refine zr_iload_n X 1 dX2_payBaker_32 rfl rfl ?_
      refine zr_icmp_ge X (tgt := 39) dX2_payBaker_33 (by decide) (fun h5 => ?_) (fun h6 => ?_)
      · refine zr_aload_n X 0 dX2_payBaker_39 rfl rfl ?_
        refine zr_get X zfd_RX2_33 (b) (show b < w.1 by omega) (zPut_in (o := 0) (by omega)) (v := .ref (w.2 (b + 5))) rfl dX2_payBaker_40 ?_
        refine zr_dup X dX2_payBaker_43 rfl ?_
        refine zr_getN X zfn_RX2_128 (b + 5) (show b + 5 < w.1 by omega) (zPut_in (o := 5) (by omega)) (v := .int (σ 5)) rfl dX2_payBaker_44 ?_
        refine zr_iload_n X 1 dX2_payBaker_47 rfl rfl ?_
        refine zr_isub X dX2_payBaker_48 ?_
        refine zr_putN X zfn_RX2_128 zty_3_0 (b + 5) (show b + 5 < w.1 by omega) (zPut_in (o := 5) (by omega)) rfl rfl (Nat.le_of_ble_eq_true rfl) (eLedger_set _ _ 0 (by decide)) dX2_payBaker_49 ?_
        refine zcw (f2 := zPut f b (zHut w cy b γ (upd σ 5 ((σ 5) - m)))) (zu_ledger (i := 0) (by decide)) ?_
        refine zr_aload_n X 0 dX2_payBaker_52 rfl rfl ?_
        refine zr_get X zfd_RX2_33 (b) (show b < w.1 by omega) (zPut_in (o := 0) (by omega)) (v := .ref (w.2 (b + 5))) rfl dX2_payBaker_53 ?_
        refine zr_dup X dX2_payBaker_56 rfl ?_
        refine zr_getN X zfn_RX2_105 (b + 5) (show b + 5 < w.1 by omega) (zPut_in (o := 5) (by omega)) (v := .int (σ 6)) rfl dX2_payBaker_57 ?_
        refine zr_iload_n X 1 dX2_payBaker_60 rfl rfl ?_
        refine zr_isub X dX2_payBaker_61 ?_
        refine zr_putN X zfn_RX2_105 zty_3_1 (b + 5) (show b + 5 < w.1 by omega) (zPut_in (o := 5) (by omega)) rfl rfl (Nat.le_of_ble_eq_true rfl) (eLedger_set _ _ 1 (by decide)) dX2_payBaker_62 ?_
        refine zcw (f2 := zPut f b (zHut w cy b γ (upd (upd σ 5 ((σ 5) - m)) 6 ((σ 6) - m)))) (zu_ledger (i := 1) (by decide)) ?_
        refine zr_aload_n X 0 dX2_payBaker_65 rfl rfl ?_
        refine zr_get X zfd_RX2_33 (b) (show b < w.1 by omega) (zPut_in (o := 0) (by omega)) (v := .ref (w.2 (b + 5))) rfl dX2_payBaker_66 ?_
        refine zr_dup X dX2_payBaker_69 rfl ?_
        refine zr_getN X zfn_RX2_131 (b + 5) (show b + 5 < w.1 by omega) (zPut_in (o := 5) (by omega)) (v := .int (σ 14)) rfl dX2_payBaker_70 ?_
        refine zr_iload_n X 1 dX2_payBaker_73 rfl rfl ?_
        refine zr_iadd X dX2_payBaker_74 ?_
        refine zr_putN X zfn_RX2_131 zty_3_9 (b + 5) (show b + 5 < w.1 by omega) (zPut_in (o := 5) (by omega)) rfl rfl (Nat.le_of_ble_eq_true rfl) (eLedger_set _ _ 9 (by decide)) dX2_payBaker_75 ?_
        refine zcw (f2 := zPut f b (zHut w cy b γ (upd (upd (upd σ 5 ((σ 5) - m)) 6 ((σ 6) - m)) 14 ((σ 14) + m)))) (zu_ledger (i := 9) (by decide)) ?_
        refine zr_aload_n X 0 dX2_payBaker_78 rfl rfl ?_
        refine zr_get X zfd_RX2_33 (b) (show b < w.1 by omega) (zPut_in (o := 0) (by omega)) (v := .ref (w.2 (b + 5))) rfl dX2_payBaker_79 ?_
        refine zr_getN X zfn_RX2_105 (b + 5) (show b + 5 < w.1 by omega) (zPut_in (o := 5) (by omega)) (v := .int ((σ 6) - m)) rfl dX2_payBaker_82 ?_
        exact zret_i E rfl dX2_payBaker_85 (by simp only [hPay, if_neg h1, if_neg h4, if_pos h5]) (by simp only [hPay, if_neg h1, if_neg h4, if_pos h5])
      · refine zr_ldc X zm_2_137 dX2_payBaker_36 ?_
        exact zret_i E rfl dX2_payBaker_38 (by simp only [hPay, if_neg h1, if_neg h4, if_neg h6]) (by simp only [hPay, if_neg h1, if_neg h4, if_neg h6])
  · refine zr_ldc X zm_2_54 dX2_payBaker_11 ?_
    exact zret_i E rfl dX2_payBaker_13 (by simp only [hPay, if_pos h2]) (by simp only [hPay, if_pos h2])
def hBook1 (γ : Nat → Nat) (bk : Nat) (σ : Nat → Int32) (p d n : Int32) : Nat → Int32 := setR (upd (upd σ 1 (σ 1 + 1)) 2 (σ 2 + 1)) (55 + 6 * γ bk) 6 (gBegin (fun i => (upd (upd σ 1 (σ 1 + 1)) 2 (σ 2 + 1)) (55 + 6 * γ bk + i)) (σ 2) p (σ 3 + d) n)
def hBook (bk : Nat) (γ : Nat → Nat) (σ : Nat → Int32) (p d n : Int32) : Int32 × (Nat → Int32) := if (zwin p 1 12) = 0 then (-1000001, σ) else if (zwin d 0 60) = 0 then (-1000001, σ) else if (zwin n 1 9) = 0 then (-1000001, σ) else if (σ 1) < 10 then (σ 2, hBook1 γ bk σ p d n) else (-1000003, σ)
set_option maxHeartbeats 4000000 in
set_option maxRecDepth 100000 in
theorem k_bookGroup {l : Launch} {D : va_G} {cy : Nat → ClassId} {w : zW} {f : zF} {b mc bk : Nat} {γ : Nat → Nat} {σ : Nat → Int32} {p : Int32} {d : Int32} {n : Int32} (hb : b + 21 ≤ w.1) (hm : σ 0 = nI mc) (hmc : mc ≤ 4) (hg : σ 1 = nI bk) (hbk : bk ≤ 10) (hγ : ∀ k, k < 10 → γ k < 10)  : zSd l D cy yX2_bookGroup cX2_bookGroup 6 (some .int) 1 24 [.ref (w.2 (b)), .int (p), .int (d), .int (n)] w (zPut f b (zHut w cy b γ σ)) (some (.int ((hBook bk γ σ p d n).1))) (zPut f b (zHut w cy b γ (hBook bk γ σ p d n).2)) := by
  refine zSd.intro (by decide) (Nat.le_of_ble_eq_true rfl) (fun G X E => ?_)
  show G (w, 0, 0) (zPut f b (zHut w cy b γ σ)) [(0, .ref (w.2 (b))), (1, .int (p)), (2, .int (d)), (3, .int (n))] 0 []
  refine zr_iload_n X 1 dX2_bookGroup_0 rfl rfl ?_
  refine zr_iconst X (v := 1) dX2_bookGroup_1 (by decide) ?_
  refine zr_bipush X (v := 12) dX2_bookGroup_2 (by decide) ?_
  refine zr_cSN X (As := [.int (p), .int (1), .int (12)]) (rest := []) (f' := zPut f b (zHut w cy b γ σ)) (st' := [.int (zwin p 1 12)]) zc_X8_isWithin k_isWithin ⟨Nat.le_of_ble_eq_true rfl, Nat.le_of_ble_eq_true rfl⟩ ⟨Nat.le_refl _, Nat.le_refl _⟩ rfl (Nat.le_of_ble_eq_true rfl) (List.mem_of_getElem? (i := 37) rfl) rfl dX2_bookGroup_4 rfl ?_
  refine zr_if_eq X (tgt := 30) dX2_bookGroup_7 (by decide) (fun h1 => ?_) (fun h2 => ?_)
  · refine zr_ldc X zm_2_54 dX2_bookGroup_30 ?_
    exact zret_i E rfl dX2_bookGroup_32 (by simp only [hBook, hBook1, if_pos h1]) (by simp only [hBook, hBook1, if_pos h1])
  · refine zr_iload_n X 2 dX2_bookGroup_10 rfl rfl ?_
    refine zr_iconst X (v := 0) dX2_bookGroup_11 (by decide) ?_
    refine zr_bipush X (v := 60) dX2_bookGroup_12 (by decide) ?_
    refine zr_cSN X (As := [.int (d), .int (0), .int (60)]) (rest := []) (f' := zPut f b (zHut w cy b γ σ)) (st' := [.int (zwin d 0 60)]) zc_X8_isWithin k_isWithin ⟨Nat.le_of_ble_eq_true rfl, Nat.le_of_ble_eq_true rfl⟩ ⟨Nat.le_refl _, Nat.le_refl _⟩ rfl (Nat.le_of_ble_eq_true rfl) (List.mem_of_getElem? (i := 37) rfl) rfl dX2_bookGroup_14 rfl ?_
    refine zr_if_eq X (tgt := 30) dX2_bookGroup_17 (by decide) (fun h3 => ?_) (fun h4 => ?_)
    · refine zr_ldc X zm_2_54 dX2_bookGroup_30 ?_
      exact zret_i E rfl dX2_bookGroup_32 (by simp only [hBook, hBook1, if_neg h2, if_pos h3]) (by simp only [hBook, hBook1, if_neg h2, if_pos h3])
    · refine zr_iload_n X 3 dX2_bookGroup_20 rfl rfl ?_
      refine zr_iconst X (v := 1) dX2_bookGroup_21 (by decide) ?_
      refine zr_bipush X (v := 9) dX2_bookGroup_22 (by decide) ?_
      refine zr_cSN X (As := [.int (n), .int (1), .int (9)]) (rest := []) (f' := zPut f b (zHut w cy b γ σ)) (st' := [.int (zwin n 1 9)]) zc_X8_isWithin k_isWithin ⟨Nat.le_of_ble_eq_true rfl, Nat.le_of_ble_eq_true rfl⟩ ⟨Nat.le_refl _, Nat.le_refl _⟩ rfl (Nat.le_of_ble_eq_true rfl) (List.mem_of_getElem? (i := 37) rfl) rfl dX2_bookGroup_24 rfl ?_
      refine zr_if_ne X (tgt := 33) dX2_bookGroup_27 (by decide) (fun h5 => ?_) (fun h6 => ?_)
      · refine zr_aload_n X 0 dX2_bookGroup_33 rfl rfl ?_
        refine zr_get X zfd_RX2_53 (b) (show b < w.1 by omega) (zPut_in (o := 0) (by omega)) (v := .int (σ 1)) rfl dX2_bookGroup_34 ?_
        refine zr_bipush X (v := 10) dX2_bookGroup_37 (by decide) ?_
        refine zr_icmp_lt X (tgt := 45) dX2_bookGroup_39 (by decide) (fun h7 => ?_) (fun h8 => ?_)
        · refine zr_aload_n X 0 dX2_bookGroup_45 rfl rfl ?_
          refine zr_dup X dX2_bookGroup_46 rfl ?_
          refine zr_get X zfd_RX2_53 (b) (show b < w.1 by omega) (zPut_in (o := 0) (by omega)) (v := .int (σ 1)) rfl dX2_bookGroup_47 ?_
          refine zr_iconst X (v := 1) dX2_bookGroup_50 (by decide) ?_
          refine zr_iadd X dX2_bookGroup_51 ?_
          refine zr_put X zfd_RX2_53 zty_2_6 (b) (show b < w.1 by omega) (zPut_in (o := 0) (by omega)) rfl rfl (Nat.le_of_ble_eq_true rfl) (eHut_set _ _ _ _ 1 (by decide)) dX2_bookGroup_52 ?_
          refine zcw (f2 := zPut f b (zHut w cy b γ (upd σ 1 ((σ 1) + 1)))) (zu_hut (i := 1) (by decide)) ?_
          refine zr_aload_n X 0 dX2_bookGroup_55 rfl rfl ?_
          refine zr_aload_n X 0 dX2_bookGroup_56 rfl rfl ?_
          refine zr_get X zfd_RX2_53 (b) (show b < w.1 by omega) (zPut_in (o := 0) (by omega)) (v := .int ((σ 1) + 1)) rfl dX2_bookGroup_57 ?_
          refine zr_iconst X (v := 1) dX2_bookGroup_60 (by decide) ?_
          refine zr_isub X dX2_bookGroup_61 ?_
          have q : bk < 10 := by have h9 := h7; rw [hg] at h9; exact (nI_ltI (by omega) (show 10 < 2147483648 by decide)).mp h9
          have q1 := hγ bk q
          refine zr_cV X (As := [.int (((σ 1) + 1) - 1)]) (rest := []) (f' := zPut f b (zHut w cy b γ (upd σ 1 ((σ 1) + 1)))) (st' := [.ref (w.2 (b + (11 + γ bk)))]) zc_X2_groupAt (b) (show b < w.1 by omega) (zPut_in (o := 0) (by omega)) (q9 := _) rfl rfl (k_groupAtE hb (show _ = nI mc from hm) hmc (hm_up hg) (show bk + 1 ≤ 10 by omega) hγ (show bk < bk + 1 by omega) (by rw [hg, ← nI_succ]; exact nI_pred bk)) ⟨Nat.le_of_ble_eq_true rfl, Nat.le_of_ble_eq_true rfl⟩ ⟨Nat.le_refl _, Nat.le_refl _⟩ rfl (Nat.le_of_ble_eq_true rfl) zm_2_94 rfl dX2_bookGroup_62 rfl ?_
          refine zr_astore X (ls' := [(4, .ref (w.2 (b + (11 + γ bk)))), (0, .ref (w.2 (b))), (1, .int (p)), (2, .int (d)), (3, .int (n))]) dX2_bookGroup_65 (by decide) rfl ?_
          refine zr_aload_n X 1 dX2_bookGroup_67 rfl rfl ?_
          refine zr_get X zfd_RX2_56 (b) (show b < w.1 by omega) (zPut_in (o := 0) (by omega)) (v := .int (σ 2)) rfl dX2_bookGroup_68 ?_
          refine zr_istore X (ls' := [(5, .int (σ 2)), (4, .ref (w.2 (b + (11 + γ bk)))), (0, .ref (w.2 (b))), (1, .int (p)), (2, .int (d)), (3, .int (n))]) dX2_bookGroup_71 (by decide) rfl ?_
          refine zr_aload_n X 2 dX2_bookGroup_73 rfl rfl ?_
          refine zr_dup X dX2_bookGroup_74 rfl ?_
          refine zr_get X zfd_RX2_56 (b) (show b < w.1 by omega) (zPut_in (o := 0) (by omega)) (v := .int (σ 2)) rfl dX2_bookGroup_75 ?_
          refine zr_iconst X (v := 1) dX2_bookGroup_78 (by decide) ?_
          refine zr_iadd X dX2_bookGroup_79 ?_
          refine zr_put X zfd_RX2_56 zty_2_7 (b) (show b < w.1 by omega) (zPut_in (o := 0) (by omega)) rfl rfl (Nat.le_of_ble_eq_true rfl) (eHut_set _ _ _ _ 2 (by decide)) dX2_bookGroup_80 ?_
          refine zcw (f2 := zPut f b (zHut w cy b γ (upd (upd σ 1 ((σ 1) + 1)) 2 ((σ 2) + 1)))) (zu_hut (i := 2) (by decide)) ?_
          refine zr_aload X 1 dX2_bookGroup_83 rfl ?_
          refine zr_ifnull X dX2_bookGroup_85 ?_
          refine zr_aload X 1 dX2_bookGroup_88 rfl ?_
          refine zr_iload X 0 dX2_bookGroup_90 rfl ?_
          refine zr_iload_n X 3 dX2_bookGroup_92 rfl rfl ?_
          refine zr_aload_n X 2 dX2_bookGroup_93 rfl rfl ?_
          refine zr_get X zfd_RX2_59 (b) (show b < w.1 by omega) (zPut_in (o := 0) (by omega)) (v := .int (σ 3)) rfl dX2_bookGroup_94 ?_
          refine zr_iload_n X 4 dX2_bookGroup_97 rfl rfl ?_
          refine zr_iadd X dX2_bookGroup_98 ?_
          refine zr_iload_n X 5 dX2_bookGroup_99 rfl rfl ?_
          refine zr_cV X (As := [.int (σ 2), .int (p), .int ((σ 3) + d), .int (n)]) (rest := []) (f' := va_up (zPut f b (zHut w cy b γ (upd (upd σ 1 ((σ 1) + 1)) 2 ((σ 2) + 1)))) (b + (11 + γ bk)) (eGroup (gBegin (fun i9 => (upd (upd σ 1 ((σ 1) + 1)) 2 ((σ 2) + 1)) (55 + 6 * (γ bk) + i9)) (σ 2) p ((σ 3) + d) n))) (st' := []) zc_X0_begin (b + (11 + γ bk)) (show b + (11 + γ bk) < w.1 by omega) ((zPut_in (o := 11 + γ bk) (by omega)).trans (zHut_group (k := γ bk))) (q9 := _) rfl rfl (k_Group_begin (show b + (11 + γ bk) < w.1 by omega) ((zPut_in (o := 11 + γ bk) (by omega)).trans (zHut_group (k := γ bk)))) ⟨Nat.le_of_ble_eq_true rfl, Nat.le_of_ble_eq_true rfl⟩ ⟨Nat.le_refl _, Nat.le_refl _⟩ rfl (Nat.le_of_ble_eq_true rfl) zm_2_163 rfl dX2_bookGroup_100 rfl ?_
          refine zcw (f2 := zPut f b (zHut w cy b γ (setR (upd (upd σ 1 ((σ 1) + 1)) 2 ((σ 2) + 1)) (55 + 6 * (γ bk)) 6 (gBegin (fun i9 => (upd (upd σ 1 ((σ 1) + 1)) 2 ((σ 2) + 1)) (55 + 6 * (γ bk) + i9)) (σ 2) p ((σ 3) + d) n)))) (zu_group (k := γ bk) (by omega)) ?_
          refine zr_iload X 0 dX2_bookGroup_103 rfl ?_
          exact zret_i E rfl dX2_bookGroup_105 (by simp only [hBook, hBook1, if_neg h2, if_neg h4, if_neg h5, if_pos h7]) (by simp only [hBook, hBook1, if_neg h2, if_neg h4, if_neg h5, if_pos h7])
        · refine zr_ldc X zm_2_106 dX2_bookGroup_42 ?_
          exact zret_i E rfl dX2_bookGroup_44 (by simp only [hBook, hBook1, if_neg h2, if_neg h4, if_neg h5, if_neg h8]) (by simp only [hBook, hBook1, if_neg h2, if_neg h4, if_neg h5, if_neg h8])
      · refine zr_ldc X zm_2_54 dX2_bookGroup_30 ?_
        exact zret_i E rfl dX2_bookGroup_32 (by simp only [hBook, hBook1, if_neg h2, if_neg h4, if_pos h6]) (by simp only [hBook, hBook1, if_neg h2, if_neg h4, if_pos h6])
theorem zu_groups1 {w : zW} {cy : Nat → ClassId} {b j x : Nat} {γ : Nat → Nat} {σ : Nat → Int32} {f : zF} : va_up (zPut f b (zHut w cy b γ σ)) (b + 2) (eRefs cy 3 10 (va_up (fun k => some (w.2 (b + (11 + γ k)))) j (some (w.2 (b + (11 + x)))))) = zPut f b (zHut w cy b (va_up γ j x) σ) := by
  rw [show va_up (fun k => some (w.2 (b + (11 + γ k)))) j (some (w.2 (b + (11 + x)))) = (fun k => some (w.2 (b + (11 + va_up γ j x k)))) from funext fun k => by unfold va_up; split <;> rfl]
  exact zu_groups
def gRemS (p : Int32) (i : Nat) (γ : Nat → Nat) : Nat → Nat := if nI (i + 1) ≤ p then γ else va_up (va_up γ (i + 1) (γ i)) i (γ (i + 1))
def gRem (γ : Nat → Nat) (p : Int32) (n : Nat) : Nat → Nat := zfold (gRemS p) γ n
theorem gRem_s {γ : Nat → Nat} {p : Int32} {n : Nat} : gRem γ p (n + 1) = gRemS p n (gRem γ p n) := rfl
theorem gRem_lt {γ : Nat → Nat} {p : Int32} (h : ∀ k, k < 10 → γ k < 10) : ∀ n, n ≤ 9 → ∀ k, k < 10 → gRem γ p n k < 10
  | 0, _, k, hk => h k hk
  | n + 1, hn, k, hk => by
    rw [gRem_s]
    unfold gRemS
    have ih := gRem_lt (p := p) h n (by omega)
    split
    · exact ih k hk
    · unfold va_up
      split
      · exact ih _ (by omega)
      · split
        · exact ih _ (by omega)
        · exact ih k hk
set_option maxHeartbeats 4000000 in
set_option maxRecDepth 100000 in
theorem k_removeGroup {l : Launch} {D : va_G} {cy : Nat → ClassId} {w : zW} {f : zF} {b mc bk : Nat} {γ : Nat → Nat} {σ : Nat → Int32} {p : Int32} (hb : b + 21 ≤ w.1) (hm : σ 0 = nI mc) (hmc : mc ≤ 4) (hg : σ 1 = nI bk) (hbk : bk ≤ 10) (hγ : ∀ k, k < 10 → γ k < 10)  : zSd l D cy yX2_removeGroup cX2_removeGroup 4 none 0 0 [.ref (w.2 (b)), .int (p)] w (zPut f b (zHut w cy b γ σ)) none (zPut f b (zHut w cy b (gRem γ p 9) (upd σ 1 (σ 1 - 1)))) := by
  refine zSd.intro (by decide) (Nat.le_of_ble_eq_true rfl) (fun G X E => ?_)
  show G (w, 0, 0) (zPut f b (zHut w cy b γ σ)) [(0, .ref (w.2 (b))), (1, .int (p))] 0 []
  refine zr_iconst X (v := 1) dX2_removeGroup_0 (by decide) ?_
  refine zr_istore_n X (ls' := [(2, .int (1)), (0, .ref (w.2 (b))), (1, .int (p))]) dX2_removeGroup_1 rfl (by decide) rfl ?_
  refine zr_loc X (ls' := [(0, .ref (w.2 (b))), (1, .int (p)), (2, .int (1))]) [1, 2, 0] rfl ?_
  refine zcast (f2 := zPut f b (zHut w cy b (gRem γ p (0)) σ)) (ls2 := [(0, .ref (w.2 (b))), (1, .int (p)), (2, .int (nI (0 + 1)))]) rfl rfl ?_
  refine zdown (P := fun n => G (w, 0, 0) (zPut f b (zHut w cy b (gRem γ p (n)) σ)) [(0, .ref (w.2 (b))), (1, .int (p)), (2, .int (nI (n + 1)))] 2 []) (B := 9) ?_ (fun n hn2 ih2 => ?_) 0 (Nat.zero_le _) 
  · show G (w, 0, 0) (zPut f b (zHut w cy b (gRem γ p (9)) σ)) [(0, .ref (w.2 (b))), (1, .int (p)), (2, .int (nI (9 + 1)))] 2 []
    refine zr_iload_n X 2 dX2_removeGroup_2 rfl rfl ?_
    refine zr_aload_n X 0 dX2_removeGroup_3 rfl rfl ?_
    refine zr_get X zfd_RX2_19 (b) (show b < w.1 by omega) (zPut_in (o := 0) (by omega)) (v := .ref (w.2 (b + 2))) rfl dX2_removeGroup_4 ?_
    refine zr_alen X (b + 2) (show b + 2 < w.1 by omega) (b := 3) rfl (zPut_in (o := 2) (by omega)) (v := 10) rfl dX2_removeGroup_7 ?_
    refine zr_icmp_ge X (tgt := 52) dX2_removeGroup_8 (by decide) (fun _ => ?_) (fun h => False.elim (h (by decide)))
    refine zr_aload_n X 0 dX2_removeGroup_52 rfl rfl ?_
    refine zr_dup X dX2_removeGroup_53 rfl ?_
    refine zr_get X zfd_RX2_53 (b) (show b < w.1 by omega) (zPut_in (o := 0) (by omega)) (v := .int (σ 1)) rfl dX2_removeGroup_54 ?_
    refine zr_iconst X (v := 1) dX2_removeGroup_57 (by decide) ?_
    refine zr_isub X dX2_removeGroup_58 ?_
    refine zr_put X zfd_RX2_53 zty_2_6 (b) (show b < w.1 by omega) (zPut_in (o := 0) (by omega)) rfl rfl (Nat.le_of_ble_eq_true rfl) (eHut_set _ _ _ _ 1 (by decide)) dX2_removeGroup_59 ?_
    refine zcw (f2 := zPut f b (zHut w cy b (gRem γ p (9)) (upd σ 1 ((σ 1) - 1)))) (zu_hut (i := 1) (by decide)) ?_
    exact zret_v E rfl dX2_removeGroup_62 (by simp only [])
  · show G (w, 0, 0) (zPut f b (zHut w cy b (gRem γ p (n)) σ)) [(0, .ref (w.2 (b))), (1, .int (p)), (2, .int (nI (n + 1)))] 2 []
    have qa := gRem_lt (p := p) hγ n (by omega) n (by omega)
    have qb := gRem_lt (p := p) hγ n (by omega) (n + 1) (by omega)
    refine zr_iload_n X 2 dX2_removeGroup_2 rfl rfl ?_
    refine zr_aload_n X 0 dX2_removeGroup_3 rfl rfl ?_
    refine zr_get X zfd_RX2_19 (b) (show b < w.1 by omega) (zPut_in (o := 0) (by omega)) (v := .ref (w.2 (b + 2))) rfl dX2_removeGroup_4 ?_
    refine zr_alen X (b + 2) (show b + 2 < w.1 by omega) (b := 3) rfl (zPut_in (o := 2) (by omega)) (v := 10) rfl dX2_removeGroup_7 ?_
    refine zr_icmp_ge X (tgt := 52) dX2_removeGroup_8 (by decide) (fun h => False.elim (nI_ge (show n + 1 < 10 by omega) (by decide) h)) (fun _ => ?_)
    refine zr_iload_n X 2 dX2_removeGroup_11 rfl rfl ?_
    refine zr_iload_n X 1 dX2_removeGroup_12 rfl rfl ?_
    refine zr_icmp_le X (tgt := 46) dX2_removeGroup_13 (by decide) (fun h1 => ?_) (fun h2 => ?_)
    · refine zr_iinc X (v := nI (n + 1 + 1)) (ls' := [(2, .int (nI (n + 1 + 1))), (0, .ref (w.2 (b))), (1, .int (p))]) 2 dX2_removeGroup_46 rfl (zinc1 _) (by decide) rfl ?_
      refine zr_goto X (tgt := 2) dX2_removeGroup_49 (by decide) ?_
      refine zr_loc X (ls' := [(0, .ref (w.2 (b))), (1, .int (p)), (2, .int (nI (n + 1 + 1)))]) [1, 2, 0] rfl ?_
      exact zcast (f2 := zPut f b (zHut w cy b (gRem γ p (n + 1)) σ)) (ls2 := [(0, .ref (w.2 (b))), (1, .int (p)), (2, .int (nI (n + 1 + 1)))]) (by rw [gRem_s]; simp only [if_pos h1, gRemS]) rfl ih2
    · refine zr_aload_n X 0 dX2_removeGroup_16 rfl rfl ?_
      refine zr_get X zfd_RX2_19 (b) (show b < w.1 by omega) (zPut_in (o := 0) (by omega)) (v := .ref (w.2 (b + 2))) rfl dX2_removeGroup_17 ?_
      refine zr_iload_n X 2 dX2_removeGroup_20 rfl rfl ?_
      refine zr_aald X (b + 2) (show b + 2 < w.1 by omega) (b := 3) rfl (zPut_in (o := 2) (by omega)) (n + 1) (rfl) (by omega) (by decide) (v := w.2 (b + (11 + (gRem γ p (n)) (n + 1)))) rfl dX2_removeGroup_21 ?_
      refine zr_astore_n X (ls' := [(3, .ref (w.2 (b + (11 + (gRem γ p (n)) (n + 1))))), (0, .ref (w.2 (b))), (1, .int (p)), (2, .int (nI (n + 1)))]) dX2_removeGroup_22 rfl (by decide) rfl ?_
      refine zr_aload_n X 1 dX2_removeGroup_23 rfl rfl ?_
      refine zr_get X zfd_RX2_19 (b) (show b < w.1 by omega) (zPut_in (o := 0) (by omega)) (v := .ref (w.2 (b + 2))) rfl dX2_removeGroup_24 ?_
      refine zr_iload_n X 3 dX2_removeGroup_27 rfl rfl ?_
      refine zr_aload_n X 1 dX2_removeGroup_28 rfl rfl ?_
      refine zr_get X zfd_RX2_19 (b) (show b < w.1 by omega) (zPut_in (o := 0) (by omega)) (v := .ref (w.2 (b + 2))) rfl dX2_removeGroup_29 ?_
      refine zr_iload_n X 3 dX2_removeGroup_32 rfl rfl ?_
      refine zr_iconst X (v := 1) dX2_removeGroup_33 (by decide) ?_
      refine zr_isub X dX2_removeGroup_34 ?_
      refine zr_aald X (b + 2) (show b + 2 < w.1 by omega) (b := 3) rfl (zPut_in (o := 2) (by omega)) (n) (nI_pred n) (by omega) (by decide) (v := w.2 (b + (11 + (gRem γ p (n)) n))) rfl dX2_removeGroup_35 ?_
      refine zr_aast X (b + 2) (show b + 2 < w.1 by omega) (b := 3) (ci := 0) (r := (RX0, TX0, 6)) rfl rfl (zPut_in (o := 2) (by omega)) (n + 1) (rfl) (by omega) (by decide) (b + (11 + (gRem γ p (n)) n)) (show b + (11 + (gRem γ p (n)) n) < w.1 by omega) (((zPut_in (o := 11 + (gRem γ p (n)) n) (by omega)).trans (zHut_group (k := (gRem γ p (n)) n)))) dX2_removeGroup_36 ?_
      refine zcw (f2 := zPut f b (zHut w cy b (va_up (gRem γ p (n)) (n + 1) ((gRem γ p (n)) n)) σ)) zu_groups1 ?_
      refine zr_aload_n X 1 dX2_removeGroup_37 rfl rfl ?_
      refine zr_get X zfd_RX2_19 (b) (show b < w.1 by omega) (zPut_in (o := 0) (by omega)) (v := .ref (w.2 (b + 2))) rfl dX2_removeGroup_38 ?_
      refine zr_iload_n X 3 dX2_removeGroup_41 rfl rfl ?_
      refine zr_iconst X (v := 1) dX2_removeGroup_42 (by decide) ?_
      refine zr_isub X dX2_removeGroup_43 ?_
      refine zr_aload_n X 0 dX2_removeGroup_44 rfl rfl ?_
      refine zr_aast X (b + 2) (show b + 2 < w.1 by omega) (b := 3) (ci := 0) (r := (RX0, TX0, 6)) rfl rfl (zPut_in (o := 2) (by omega)) (n) (nI_pred n) (by omega) (by decide) (b + (11 + (gRem γ p (n)) (n + 1))) (show b + (11 + (gRem γ p (n)) (n + 1)) < w.1 by omega) (((zPut_in (o := 11 + (gRem γ p (n)) (n + 1)) (by omega)).trans (zHut_group (k := (gRem γ p (n)) (n + 1))))) dX2_removeGroup_45 ?_
      refine zcw (f2 := zPut f b (zHut w cy b (va_up (va_up (gRem γ p (n)) (n + 1) ((gRem γ p (n)) n)) n ((gRem γ p (n)) (n + 1))) σ)) zu_groups1 ?_
      refine zr_iinc X (v := nI (n + 1 + 1)) (ls' := [(2, .int (nI (n + 1 + 1))), (3, .ref (w.2 (b + (11 + (gRem γ p (n)) (n + 1))))), (0, .ref (w.2 (b))), (1, .int (p))]) 3 dX2_removeGroup_46 rfl (zinc1 _) (by decide) rfl ?_
      refine zr_goto X (tgt := 2) dX2_removeGroup_49 (by decide) ?_
      refine zr_loc X (ls' := [(0, .ref (w.2 (b))), (1, .int (p)), (2, .int (nI (n + 1 + 1)))]) [2, 3, 0] rfl ?_
      exact zcast (f2 := zPut f b (zHut w cy b (gRem γ p (n + 1)) σ)) (ls2 := [(0, .ref (w.2 (b))), (1, .int (p)), (2, .int (nI (n + 1 + 1)))]) (by rw [gRem_s]; simp only [if_neg h2, gRemS]) rfl ih2
def hOff (bk : Nat) (γ : Nat → Nat) (σ : Nat → Int32) (x : Int32) : Int32 × (Nat → Nat) × (Nat → Int32) := if 0 ≤ (hPlace γ σ x bk 0) then (σ 1 - 1, gRem γ (hPlace γ σ x bk 0) 9, upd σ 1 (σ 1 - 1)) else (-1000001, γ, σ)
set_option maxHeartbeats 4000000 in
set_option maxRecDepth 100000 in
theorem k_callOff {l : Launch} {D : va_G} {cy : Nat → ClassId} {w : zW} {f : zF} {b mc bk : Nat} {γ : Nat → Nat} {σ : Nat → Int32} {x : Int32} (hb : b + 21 ≤ w.1) (hm : σ 0 = nI mc) (hmc : mc ≤ 4) (hg : σ 1 = nI bk) (hbk : bk ≤ 10) (hγ : ∀ k, k < 10 → γ k < 10)  : zSd l D cy yX2_callOff cX2_callOff 3 (some .int) 2 44 [.ref (w.2 (b)), .int (x)] w (zPut f b (zHut w cy b γ σ)) (some (.int ((hOff bk γ σ x).1))) (zPut f b (zHut w cy b (hOff bk γ σ x).2.1 (hOff bk γ σ x).2.2)) := by
  refine zSd.intro (by decide) (Nat.le_of_ble_eq_true rfl) (fun G X E => ?_)
  show G (w, 0, 0) (zPut f b (zHut w cy b γ σ)) [(0, .ref (w.2 (b))), (1, .int (x))] 0 []
  refine zr_aload_n X 0 dX2_callOff_0 rfl rfl ?_
  refine zr_iload_n X 1 dX2_callOff_1 rfl rfl ?_
  refine zr_cV X (As := [.int (x)]) (rest := []) (f' := zPut f b (zHut w cy b γ σ)) (st' := [.int (hPlace γ σ x bk 0)]) zc_X2_placeOfGroup (b) (show b < w.1 by omega) (zPut_in (o := 0) (by omega)) (q9 := _) rfl rfl (k_placeOfGroup hb hm hmc hg hbk hγ) ⟨Nat.le_of_ble_eq_true rfl, Nat.le_of_ble_eq_true rfl⟩ ⟨Nat.le_refl _, Nat.le_refl _⟩ rfl (Nat.le_of_ble_eq_true rfl) zm_2_175 rfl dX2_callOff_2 rfl ?_
  refine zr_istore_n X (ls' := [(2, .int (hPlace γ σ x bk 0)), (0, .ref (w.2 (b))), (1, .int (x))]) dX2_callOff_5 rfl (by decide) rfl ?_
  refine zr_iload_n X 0 dX2_callOff_6 rfl rfl ?_
  refine zr_if_ge X (tgt := 13) dX2_callOff_7 (by decide) (fun h1 => ?_) (fun h2 => ?_)
  · refine zr_aload_n X 1 dX2_callOff_13 rfl rfl ?_
    refine zr_iload_n X 0 dX2_callOff_14 rfl rfl ?_
    refine zr_cV X (As := [.int (hPlace γ σ x bk 0)]) (rest := []) (f' := zPut f b (zHut w cy b (gRem γ (hPlace γ σ x bk 0) 9) (upd σ 1 ((σ 1) - 1)))) (st' := []) zc_X2_removeGroup (b) (show b < w.1 by omega) (zPut_in (o := 0) (by omega)) (q9 := _) rfl rfl (k_removeGroup hb hm hmc hg hbk hγ) ⟨Nat.le_of_ble_eq_true rfl, Nat.le_of_ble_eq_true rfl⟩ ⟨Nat.le_refl _, Nat.le_refl _⟩ rfl (Nat.le_of_ble_eq_true rfl) zm_2_179 rfl dX2_callOff_15 rfl ?_
    refine zr_aload_n X 1 dX2_callOff_18 rfl rfl ?_
    refine zr_get X zfd_RX2_53 (b) (show b < w.1 by omega) (zPut_in (o := 0) (by omega)) (v := .int ((σ 1) - 1)) rfl dX2_callOff_19 ?_
    exact zret_i E rfl dX2_callOff_22 (by simp only [hOff, if_pos h1]) (by simp only [hOff, if_pos h1])
  · refine zr_ldc X zm_2_54 dX2_callOff_10 ?_
    exact zret_i E rfl dX2_callOff_12 (by simp only [hOff, if_neg h2]) (by simp only [hOff, if_neg h2])
