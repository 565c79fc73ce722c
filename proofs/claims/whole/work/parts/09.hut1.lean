set_option maxHeartbeats 4000000 in
set_option maxRecDepth 100000 in
theorem k_muleAt {l : Launch} {D : va_G} {cy : Nat → ClassId} {w : zW} {f : zF} {b mc bk : Nat} {γ : Nat → Nat} {σ : Nat → Int32} {k : Nat} (hb : b + 21 ≤ w.1) (hm : σ 0 = nI mc) (hmc : mc ≤ 4) (hg : σ 1 = nI bk) (hbk : bk ≤ 10) (hγ : ∀ k, k < 10 → γ k < 10) (hk : k < mc) : zSd l D cy yX2_muleAt cX2_muleAt 2 (some (.object "HutLoaves$Mule")) 0 0 [.ref (w.2 (b)), .int (nI k)] w (zPut f b (zHut w cy b γ σ)) (some (.ref (w.2 (b + (7 + k))))) (zPut f b (zHut w cy b γ σ)) := by
  refine zSd.intro (by decide) (Nat.le_of_ble_eq_true rfl) (fun G X E => ?_)
  show G (w, 0, 0) (zPut f b (zHut w cy b γ σ)) [(0, .ref (w.2 (b))), (1, .int (nI k))] 0 []
  refine zr_iload_n X 1 dX2_muleAt_0 rfl rfl ?_
  refine zr_if_lt X (tgt := 30) dX2_muleAt_1 (by decide) (fun h => False.elim (nI_pos (by omega) h)) (fun _ => ?_)
  refine zr_iload_n X 1 dX2_muleAt_4 rfl rfl ?_
  refine zr_aload_n X 0 dX2_muleAt_5 rfl rfl ?_
  refine zr_get X zfd_RX2_50 (b) (show b < w.1 by omega) (zPut_in (o := 0) (by omega)) (v := .int (σ 0)) rfl dX2_muleAt_6 ?_
  refine zr_icmp_ge X (tgt := 30) dX2_muleAt_9 (by decide) (fun h => False.elim (nI_ge hk (by omega) (by rw [← hm]; exact h))) (fun _ => ?_)
  refine zr_iload_n X 1 dX2_muleAt_12 rfl rfl ?_
  refine zr_aload_n X 0 dX2_muleAt_13 rfl rfl ?_
  refine zr_get X zfd_RX2_11 (b) (show b < w.1 by omega) (zPut_in (o := 0) (by omega)) (v := .ref (w.2 (b + 1))) rfl dX2_muleAt_14 ?_
  refine zr_alen X (b + 1) (show b + 1 < w.1 by omega) (b := 2) rfl (zPut_in (o := 1) (by omega)) (v := 4) rfl dX2_muleAt_17 ?_
  refine zr_icmp_ge X (tgt := 30) dX2_muleAt_18 (by decide) (fun h => False.elim (nI_ge (show k < 4 by omega) (by decide) h)) (fun _ => ?_)
  refine zr_aload_n X 0 dX2_muleAt_21 rfl rfl ?_
  refine zr_get X zfd_RX2_11 (b) (show b < w.1 by omega) (zPut_in (o := 0) (by omega)) (v := .ref (w.2 (b + 1))) rfl dX2_muleAt_22 ?_
  refine zr_iload_n X 1 dX2_muleAt_25 rfl rfl ?_
  refine zr_aald X (b + 1) (show b + 1 < w.1 by omega) (b := 2) rfl (zPut_in (o := 1) (by omega)) (k) (rfl) (by omega) (by decide) (v := w.2 (b + (7 + k))) rfl dX2_muleAt_26 ?_
  refine zr_goto X (tgt := 31) dX2_muleAt_27 (by decide) ?_
  exact zret_a E ⟨_, rfl⟩ (Or.inr ⟨_, rfl⟩) dX2_muleAt_31 rfl rfl
set_option maxHeartbeats 4000000 in
set_option maxRecDepth 100000 in
theorem k_muleAtN {l : Launch} {D : va_G} {cy : Nat → ClassId} {w : zW} {f : zF} {b mc bk : Nat} {γ : Nat → Nat} {σ : Nat → Int32} {x : Int32} (hb : b + 21 ≤ w.1) (hm : σ 0 = nI mc) (hmc : mc ≤ 4) (hg : σ 1 = nI bk) (hbk : bk ≤ 10) (hγ : ∀ k, k < 10 → γ k < 10) (hx : x < 0 ∨ σ 0 ≤ x) : zSd l D cy yX2_muleAt cX2_muleAt 2 (some (.object "HutLoaves$Mule")) 0 0 [.ref (w.2 (b)), .int (x)] w (zPut f b (zHut w cy b γ σ)) (some (.null)) (zPut f b (zHut w cy b γ σ)) := by
  refine zSd.intro (by decide) (Nat.le_of_ble_eq_true rfl) (fun G X E => ?_)
  show G (w, 0, 0) (zPut f b (zHut w cy b γ σ)) [(0, .ref (w.2 (b))), (1, .int (x))] 0 []
  refine zr_iload_n X 1 dX2_muleAt_0 rfl rfl ?_
  refine zr_if_lt X (tgt := 30) dX2_muleAt_1 (by decide) (fun h1 => ?_) (fun h2 => ?_)
  · refine zr_null X dX2_muleAt_30 ?_
    exact zret_a E ⟨_, rfl⟩ (Or.inl rfl) dX2_muleAt_31 rfl rfl
  · refine zr_iload_n X 1 dX2_muleAt_4 rfl rfl ?_
    refine zr_aload_n X 0 dX2_muleAt_5 rfl rfl ?_
    refine zr_get X zfd_RX2_50 (b) (show b < w.1 by omega) (zPut_in (o := 0) (by omega)) (v := .int (σ 0)) rfl dX2_muleAt_6 ?_
    refine zr_icmp_ge X (tgt := 30) dX2_muleAt_9 (by decide) (fun _ => ?_) (fun h => False.elim (hx.elim (fun q => h2 q) h))
    refine zr_null X dX2_muleAt_30 ?_
    exact zret_a E ⟨_, rfl⟩ (Or.inl rfl) dX2_muleAt_31 rfl rfl
set_option maxHeartbeats 4000000 in
set_option maxRecDepth 100000 in
theorem k_groupAt {l : Launch} {D : va_G} {cy : Nat → ClassId} {w : zW} {f : zF} {b mc bk : Nat} {γ : Nat → Nat} {σ : Nat → Int32} {k : Nat} (hb : b + 21 ≤ w.1) (hm : σ 0 = nI mc) (hmc : mc ≤ 4) (hg : σ 1 = nI bk) (hbk : bk ≤ 10) (hγ : ∀ k, k < 10 → γ k < 10) (hk : k < bk) : zSd l D cy yX2_groupAt cX2_groupAt 2 (some (.object "HutLoaves$Group")) 0 0 [.ref (w.2 (b)), .int (nI k)] w (zPut f b (zHut w cy b γ σ)) (some (.ref (w.2 (b + (11 + γ k))))) (zPut f b (zHut w cy b γ σ)) := by
  refine zSd.intro (by decide) (Nat.le_of_ble_eq_true rfl) (fun G X E => ?_)
  show G (w, 0, 0) (zPut f b (zHut w cy b γ σ)) [(0, .ref (w.2 (b))), (1, .int (nI k))] 0 []
  refine zr_iload_n X 1 dX2_groupAt_0 rfl rfl ?_
  refine zr_if_lt X (tgt := 30) dX2_groupAt_1 (by decide) (fun h => False.elim (nI_pos (by omega) h)) (fun _ => ?_)
  refine zr_iload_n X 1 dX2_groupAt_4 rfl rfl ?_
  refine zr_aload_n X 0 dX2_groupAt_5 rfl rfl ?_
  refine zr_get X zfd_RX2_53 (b) (show b < w.1 by omega) (zPut_in (o := 0) (by omega)) (v := .int (σ 1)) rfl dX2_groupAt_6 ?_
  refine zr_icmp_ge X (tgt := 30) dX2_groupAt_9 (by decide) (fun h => False.elim (nI_ge hk (by omega) (by rw [← hg]; exact h))) (fun _ => ?_)
  refine zr_iload_n X 1 dX2_groupAt_12 rfl rfl ?_
  refine zr_aload_n X 0 dX2_groupAt_13 rfl rfl ?_
  refine zr_get X zfd_RX2_19 (b) (show b < w.1 by omega) (zPut_in (o := 0) (by omega)) (v := .ref (w.2 (b + 2))) rfl dX2_groupAt_14 ?_
  refine zr_alen X (b + 2) (show b + 2 < w.1 by omega) (b := 3) rfl (zPut_in (o := 2) (by omega)) (v := 10) rfl dX2_groupAt_17 ?_
  refine zr_icmp_ge X (tgt := 30) dX2_groupAt_18 (by decide) (fun h => False.elim (nI_ge (show k < 10 by omega) (by decide) h)) (fun _ => ?_)
  refine zr_aload_n X 0 dX2_groupAt_21 rfl rfl ?_
  refine zr_get X zfd_RX2_19 (b) (show b < w.1 by omega) (zPut_in (o := 0) (by omega)) (v := .ref (w.2 (b + 2))) rfl dX2_groupAt_22 ?_
  refine zr_iload_n X 1 dX2_groupAt_25 rfl rfl ?_
  refine zr_aald X (b + 2) (show b + 2 < w.1 by omega) (b := 3) rfl (zPut_in (o := 2) (by omega)) (k) (rfl) (by omega) (by decide) (v := w.2 (b + (11 + γ k))) rfl dX2_groupAt_26 ?_
  refine zr_goto X (tgt := 31) dX2_groupAt_27 (by decide) ?_
  exact zret_a E ⟨_, rfl⟩ (Or.inr ⟨_, rfl⟩) dX2_groupAt_31 rfl rfl
set_option maxHeartbeats 4000000 in
set_option maxRecDepth 100000 in
theorem k_groupAtN {l : Launch} {D : va_G} {cy : Nat → ClassId} {w : zW} {f : zF} {b mc bk : Nat} {γ : Nat → Nat} {σ : Nat → Int32} {x : Int32} (hb : b + 21 ≤ w.1) (hm : σ 0 = nI mc) (hmc : mc ≤ 4) (hg : σ 1 = nI bk) (hbk : bk ≤ 10) (hγ : ∀ k, k < 10 → γ k < 10) (hx : x < 0 ∨ σ 1 ≤ x) : zSd l D cy yX2_groupAt cX2_groupAt 2 (some (.object "HutLoaves$Group")) 0 0 [.ref (w.2 (b)), .int (x)] w (zPut f b (zHut w cy b γ σ)) (some (.null)) (zPut f b (zHut w cy b γ σ)) := by
  refine zSd.intro (by decide) (Nat.le_of_ble_eq_true rfl) (fun G X E => ?_)
  show G (w, 0, 0) (zPut f b (zHut w cy b γ σ)) [(0, .ref (w.2 (b))), (1, .int (x))] 0 []
  refine zr_iload_n X 1 dX2_groupAt_0 rfl rfl ?_
  refine zr_if_lt X (tgt := 30) dX2_groupAt_1 (by decide) (fun h1 => ?_) (fun h2 => ?_)
  · refine zr_null X dX2_groupAt_30 ?_
    exact zret_a E ⟨_, rfl⟩ (Or.inl rfl) dX2_groupAt_31 rfl rfl
  · refine zr_iload_n X 1 dX2_groupAt_4 rfl rfl ?_
    refine zr_aload_n X 0 dX2_groupAt_5 rfl rfl ?_
    refine zr_get X zfd_RX2_53 (b) (show b < w.1 by omega) (zPut_in (o := 0) (by omega)) (v := .int (σ 1)) rfl dX2_groupAt_6 ?_
    refine zr_icmp_ge X (tgt := 30) dX2_groupAt_9 (by decide) (fun _ => ?_) (fun h => False.elim (hx.elim (fun q => h2 q) h))
    refine zr_null X dX2_groupAt_30 ?_
    exact zret_a E ⟨_, rfl⟩ (Or.inl rfl) dX2_groupAt_31 rfl rfl
theorem zix3 {σ : Nat → Int32} {i n N : Nat} {x : Int32} (hm : σ i = nI n) (hn : n ≤ N) (hN : N < 2147483648) (h0 : ¬ x < 0) (h1 : ¬ σ i ≤ x) : x.toNatClampNeg < n := by
  rw [hm] at h1
  exact zix2 h0 (by omega) h1
theorem k_muleAtX {l : Launch} {D : va_G} {cy : Nat → ClassId} {w : zW} {f : zF} {b mc bk : Nat} {γ : Nat → Nat} {σ : Nat → Int32} {x : Int32} (hb : b + 21 ≤ w.1) (hm : σ 0 = nI mc) (hmc : mc ≤ 4) (hg : σ 1 = nI bk) (hbk : bk ≤ 10) (hγ : ∀ k, k < 10 → γ k < 10) (h0 : ¬ x < 0) (h1 : ¬ σ 0 ≤ x) : zSd l D cy yX2_muleAt cX2_muleAt 2 (some (.object "HutLoaves$Mule")) 0 0 [.ref (w.2 b), .int x] w (zPut f b (zHut w cy b γ σ)) (some (.ref (w.2 (b + (7 + x.toNatClampNeg))))) (zPut f b (zHut w cy b γ σ)) := by
  have e := zix1 h0
  have hk := zix3 hm hmc (by decide) h0 h1
  have r := k_muleAt (l := l) (D := D) (cy := cy) (w := w) (f := f) hb hm hmc hg hbk hγ hk
  rw [← e] at r
  exact r
theorem k_groupAtX {l : Launch} {D : va_G} {cy : Nat → ClassId} {w : zW} {f : zF} {b mc bk : Nat} {γ : Nat → Nat} {σ : Nat → Int32} {x : Int32} (hb : b + 21 ≤ w.1) (hm : σ 0 = nI mc) (hmc : mc ≤ 4) (hg : σ 1 = nI bk) (hbk : bk ≤ 10) (hγ : ∀ k, k < 10 → γ k < 10) (h0 : ¬ x < 0) (h1 : ¬ σ 1 ≤ x) : zSd l D cy yX2_groupAt cX2_groupAt 2 (some (.object "HutLoaves$Group")) 0 0 [.ref (w.2 b), .int x] w (zPut f b (zHut w cy b γ σ)) (some (.ref (w.2 (b + (11 + γ x.toNatClampNeg))))) (zPut f b (zHut w cy b γ σ)) := by
  have e := zix1 h0
  have hk := zix3 hg hbk (by decide) h0 h1
  have r := k_groupAt (l := l) (D := D) (cy := cy) (w := w) (f := f) hb hm hmc hg hbk hγ hk
  rw [← e] at r
  exact r
def hPlace (γ : Nat → Nat) (σ : Nat → Int32) (x : Int32) : Nat → Nat → Int32
  | 0, _ => -1
  | m + 1, k => if σ (55 + 6 * γ k + 0) = x then nI k else hPlace γ σ x m (k + 1)
set_option maxHeartbeats 4000000 in
set_option maxRecDepth 100000 in
theorem k_placeOfGroup {l : Launch} {D : va_G} {cy : Nat → ClassId} {w : zW} {f : zF} {b mc bk : Nat} {γ : Nat → Nat} {σ : Nat → Int32} {x : Int32} (hb : b + 21 ≤ w.1) (hm : σ 0 = nI mc) (hmc : mc ≤ 4) (hg : σ 1 = nI bk) (hbk : bk ≤ 10) (hγ : ∀ k, k < 10 → γ k < 10)  : zSd l D cy yX2_placeOfGroup cX2_placeOfGroup 4 (some .int) 1 21 [.ref (w.2 (b)), .int (x)] w (zPut f b (zHut w cy b γ σ)) (some (.int (hPlace γ σ x bk 0))) (zPut f b (zHut w cy b γ σ)) := by
  refine zSd.intro (by decide) (Nat.le_of_ble_eq_true rfl) (fun G X E => ?_)
  show G (w, 0, 0) (zPut f b (zHut w cy b γ σ)) [(0, .ref (w.2 (b))), (1, .int (x))] 0 []
  refine zr_iconst X (v := 0) dX2_placeOfGroup_0 (by decide) ?_
  refine zr_istore_n X (ls' := [(2, .int (0)), (0, .ref (w.2 (b))), (1, .int (x))]) dX2_placeOfGroup_1 rfl (by decide) rfl ?_
  refine zr_loc X (ls' := [(0, .ref (w.2 (b))), (1, .int (x)), (2, .int (0))]) [1, 2, 0] rfl ?_
  refine zcast (f2 := zPut f b (zHut w cy b γ σ)) (ls2 := [(0, .ref (w.2 (b))), (1, .int (x)), (2, .int (nI (0)))]) rfl rfl ?_
  refine zdown (P := fun n => hPlace γ σ x (bk - (n)) (n) = hPlace γ σ x bk 0 → G (w, 0, 0) (zPut f b (zHut w cy b γ σ)) [(0, .ref (w.2 (b))), (1, .int (x)), (2, .int (nI (n)))] 2 []) (B := bk) ?_ (fun n hn2 ih2 => ?_) 0 (Nat.zero_le _) rfl
  · show hPlace γ σ x (bk - (bk)) (bk) = hPlace γ σ x bk 0 → G (w, 0, 0) (zPut f b (zHut w cy b γ σ)) [(0, .ref (w.2 (b))), (1, .int (x)), (2, .int (nI (bk)))] 2 []
    intro hp
    refine zr_iload_n X 2 dX2_placeOfGroup_2 rfl rfl ?_
    refine zr_aload_n X 0 dX2_placeOfGroup_3 rfl rfl ?_
    refine zr_get X zfd_RX2_53 (b) (show b < w.1 by omega) (zPut_in (o := 0) (by omega)) (v := .int (σ 1)) rfl dX2_placeOfGroup_4 ?_
    refine zr_icmp_ge X (tgt := 36) dX2_placeOfGroup_7 (by decide) (fun _ => ?_) (fun h => False.elim (h (by rw [hg]; exact nI_le (Nat.le_refl _) (by omega))))
    refine zr_iconst X (v := (-1)) dX2_placeOfGroup_36 (by decide) ?_
    exact zret_i E rfl dX2_placeOfGroup_37 (by rw [← hp, Nat.sub_self]; rfl) rfl
  · show hPlace γ σ x (bk - (n)) (n) = hPlace γ σ x bk 0 → G (w, 0, 0) (zPut f b (zHut w cy b γ σ)) [(0, .ref (w.2 (b))), (1, .int (x)), (2, .int (nI (n)))] 2 []
    intro hp
    rw [show bk - n = (bk - (n + 1)) + 1 by omega] at hp
    refine zr_iload_n X 2 dX2_placeOfGroup_2 rfl rfl ?_
    refine zr_aload_n X 0 dX2_placeOfGroup_3 rfl rfl ?_
    refine zr_get X zfd_RX2_53 (b) (show b < w.1 by omega) (zPut_in (o := 0) (by omega)) (v := .int (σ 1)) rfl dX2_placeOfGroup_4 ?_
    refine zr_icmp_ge X (tgt := 36) dX2_placeOfGroup_7 (by decide) (fun h => False.elim (nI_ge hn2 (by omega) (by rw [← hg]; exact h))) (fun _ => ?_)
    refine zr_aload_n X 0 dX2_placeOfGroup_10 rfl rfl ?_
    refine zr_iload_n X 2 dX2_placeOfGroup_11 rfl rfl ?_
    have q1 := hγ n (by omega)
    refine zr_cV X (As := [.int (nI (n))]) (rest := []) (f' := zPut f b (zHut w cy b γ σ)) (st' := [.ref (w.2 (b + (11 + γ n)))]) zc_X2_groupAt (b) (show b < w.1 by omega) (zPut_in (o := 0) (by omega)) (q9 := _) rfl rfl (k_groupAt hb hm hmc hg hbk hγ (by omega)) ⟨Nat.le_of_ble_eq_true rfl, Nat.le_of_ble_eq_true rfl⟩ ⟨Nat.le_refl _, Nat.le_refl _⟩ rfl (by decide) zm_2_69 rfl dX2_placeOfGroup_12 rfl ?_
    refine zr_astore_n X (ls' := [(3, .ref (w.2 (b + (11 + γ n)))), (0, .ref (w.2 (b))), (1, .int (x)), (2, .int (nI (n)))]) dX2_placeOfGroup_15 rfl (by decide) rfl ?_
    refine zr_aload_n X 0 dX2_placeOfGroup_16 rfl rfl ?_
    refine zr_ifnull X dX2_placeOfGroup_17 ?_
    refine zr_aload_n X 0 dX2_placeOfGroup_20 rfl rfl ?_
    refine zr_getN X zfn_RX2_86 (b + (11 + γ n)) (show b + (11 + γ n) < w.1 by omega) ((zPut_in (o := 11 + γ n) (by omega)).trans (zHut_group (k := γ n))) (v := .int (σ (55 + 6 * (γ n) + 0))) rfl dX2_placeOfGroup_21 ?_
    refine zr_iload_n X 2 dX2_placeOfGroup_24 rfl rfl ?_
    refine zr_icmp_ne X (tgt := 30) dX2_placeOfGroup_25 (by decide) (fun h1 => ?_) (fun h2 => ?_)
    · refine zr_iinc X (v := nI (n + 1)) (ls' := [(2, .int (nI (n + 1))), (3, .ref (w.2 (b + (11 + γ n)))), (0, .ref (w.2 (b))), (1, .int (x))]) 3 dX2_placeOfGroup_30 rfl (zinc1 _) (by decide) rfl ?_
      refine zr_goto X (tgt := 2) dX2_placeOfGroup_33 (by decide) ?_
      refine zr_loc X (ls' := [(0, .ref (w.2 (b))), (1, .int (x)), (2, .int (nI (n + 1)))]) [2, 3, 0] rfl ?_
      exact zcast (f2 := zPut f b (zHut w cy b γ σ)) (ls2 := [(0, .ref (w.2 (b))), (1, .int (x)), (2, .int (nI (n + 1)))]) rfl rfl (ih2 (by rw [← hp]; simp only [if_neg h1, hPlace]))
    · refine zr_iload_n X 3 dX2_placeOfGroup_28 rfl rfl ?_
      exact zret_i E rfl dX2_placeOfGroup_29 (by rw [← hp]; simp only [if_pos h2, hPlace]) rfl
def hAddMule (σ : Nat → Int32) (a c : Int32) : Int32 × (Nat → Int32) := if zwin a 1 30 = 0 then (-1000001, σ) else if zwin c 1 9 = 0 then (-1000001, σ) else if σ 0 < 4 then (σ 0, setR (upd σ 0 (σ 0 + 1)) (19 + 9 * (σ 0).toNatClampNeg) 9 (mBegin (fun i => upd σ 0 (σ 0 + 1) (19 + 9 * (σ 0).toNatClampNeg + i)) a c)) else (-1000003, σ)
