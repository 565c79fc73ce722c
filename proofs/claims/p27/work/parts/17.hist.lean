/-- the hut a behind a.copyFrom(s) -/
def cp (a s : zGS) : zGS := (a.1, hCpG (s.2 0).toNatClampNeg a.1 s.1 a.2 s.2 (s.2 1).toNatClampNeg)
theorem cp_eq {mc bk : Nat} {a s : zGS} (h2 : s.2 0 = nI mc) (hmc : mc ≤ 4) (h3 : s.2 1 = nI bk) (h4 : bk ≤ 10) : cp a s = (a.1, hCpG mc a.1 s.1 a.2 s.2 bk) := by
  unfold cp
  rw [h2, h3, nI_clamp (by omega), nI_clamp (by omega)]
theorem zrefs_up {w : zW} {B γ : Nat → Nat} {j x : Nat} : va_up (fun k => some (w.2 (B (γ k)))) j (some (w.2 (B x))) = (fun k => some (w.2 (B (va_up γ j x k)))) := by
  funext k
  unfold va_up
  split <;> rfl
def zDrS (i : Nat) (δ : Nat → Nat) : Nat → Nat := va_up (va_up δ (i + 1) (δ i)) i (δ (i + 1))
def zDr (δ : Nat → Nat) (n : Nat) : Nat → Nat := zfold zDrS δ n
theorem zDr_s {δ : Nat → Nat} {n : Nat} : zDr δ (n + 1) = zDrS n (zDr δ n) := rfl
theorem zDr_lt {δ : Nat → Nat} (h : ∀ k, k < 4 → δ k < 4) : ∀ n, n ≤ 3 → ∀ k, k < 4 → zDr δ n k < 4
  | 0, _, k, hk => h k hk
  | n + 1, hn, k, hk => by
    rw [zDr_s]
    unfold zDrS va_up
    have ih := zDr_lt h n (by omega)
    split
    · exact ih _ (by omega)
    · split
      · exact ih _ (by omega)
      · exact ih k hk
def zHB (w : zW) (cy : Nat → ClassId) (f : zF) (hs : Nat → zGS) : Prop := ∀ i, i < 4 → ∀ o, o < 21 → f (45 + 21 * i + o) = zHut w cy (45 + 21 * i) (hs i).1 (hs i).2 o
abbrev eHis (w : zW) (n : Int32) : va_E := .inr (1, [.ref (w.2 44), .int n])
abbrev eHra (w : zW) (cy : Nat → ClassId) (δ : Nat → Nat) : va_E := eRefs cy 4 4 (fun k9 => some (w.2 (45 + 21 * δ k9)))
def zHi (w : zW) (cy : Nat → ClassId) (f : zF) (hs : Nat → zGS) (δ : Nat → Nat) (n : Int32) : Prop := f 43 = eHis w n ∧ f 44 = eHra w cy δ ∧ zHB w cy f hs
set_option maxHeartbeats 4000000 in
set_option maxRecDepth 100000 in
theorem k_dropOldest {l : Launch} {D : va_G} {cy : Nat → ClassId} {w : zW} {f : zF} {n : Int32} {hs : Nat → zGS} {δ : Nat → Nat} (hw : w.1 = 136) (h43 : f 43 = eHis w n) (h44 : f 44 = eHra w cy δ) (hH : zHB w cy f hs) (hδ : ∀ k, k < 4 → δ k < 4) : zSd l D cy yX1_dropOldest cX1_dropOldest 3 none 0 0 [.ref (w.2 (43))] w f none (va_up (va_up f 44 (eHra w cy (zDr δ 3))) 43 (eHis w (n - 1))) := by
  refine zSd.intro (by decide) (Nat.le_of_ble_eq_true rfl) (fun G X E => ?_)
  show G (w, 0, 0) f [(0, .ref (w.2 (43)))] 0 []
  refine zr_iconst X (v := 1) dX1_dropOldest_0 (by decide) ?_
  refine zr_istore_n X (ls' := [(1, .int (1)), (0, .ref (w.2 (43)))]) dX1_dropOldest_1 rfl (by decide) rfl ?_
  refine zr_loc X (ls' := [(0, .ref (w.2 (43))), (1, .int (1))]) [1, 0] rfl ?_
  refine zcast (f2 := va_up f (44) (eHra w cy (zDr δ (0)))) (ls2 := [(0, .ref (w.2 (43))), (1, .int (nI (0 + 1)))]) (zsame_up h44 rfl) rfl ?_
  refine zdown (P := fun m => G (w, 0, 0) (va_up f (44) (eHra w cy (zDr δ (m)))) [(0, .ref (w.2 (43))), (1, .int (nI (m + 1)))] 2 []) (B := 3) ?_ (fun m hn2 ih2 => ?_) 0 (Nat.zero_le _) 
  · show G (w, 0, 0) (va_up f (44) (eHra w cy (zDr δ (3)))) [(0, .ref (w.2 (43))), (1, .int (nI (3 + 1)))] 2 []
    refine zr_iload_n X 1 dX1_dropOldest_2 rfl rfl ?_
    refine zr_aload_n X 0 dX1_dropOldest_3 rfl rfl ?_
    refine zr_get X zfd_RX1_11 (43) (show 43 < w.1 by rw [hw]; omega) ((va_up_ne _ _ (by omega)).trans h43) (v := .ref (w.2 (44))) rfl dX1_dropOldest_4 ?_
    refine zr_alen X (44) (show 44 < w.1 by rw [hw]; omega) (b := 4) rfl (va_up_self _ _ _) (v := 4) rfl dX1_dropOldest_7 ?_
    refine zr_icmp_ge X (tgt := 47) dX1_dropOldest_8 (by decide) (fun _ => ?_) (fun h => False.elim (h (by decide)))
    refine zr_aload_n X 0 dX1_dropOldest_47 rfl rfl ?_
    refine zr_dup X dX1_dropOldest_48 rfl ?_
    refine zr_get X zfd_RX1_18 (43) (show 43 < w.1 by rw [hw]; omega) ((va_up_ne _ _ (by omega)).trans h43) (v := .int (n)) rfl dX1_dropOldest_49 ?_
    refine zr_iconst X (v := 1) dX1_dropOldest_52 (by decide) ?_
    refine zr_isub X dX1_dropOldest_53 ?_
    refine zr_put X zfd_RX1_18 zty_1_1 (43) (show 43 < w.1 by rw [hw]; omega) ((va_up_ne _ _ (by omega)).trans h43) rfl rfl (Nat.le_of_ble_eq_true rfl) rfl dX1_dropOldest_54 ?_
    exact zret_v E rfl dX1_dropOldest_57 rfl
  · show G (w, 0, 0) (va_up f (44) (eHra w cy (zDr δ (m)))) [(0, .ref (w.2 (43))), (1, .int (nI (m + 1)))] 2 []
    have qa := zDr_lt hδ m (by omega) m (by omega)
    have qb := zDr_lt hδ m (by omega) (m + 1) (by omega)
    refine zr_iload_n X 1 dX1_dropOldest_2 rfl rfl ?_
    refine zr_aload_n X 0 dX1_dropOldest_3 rfl rfl ?_
    refine zr_get X zfd_RX1_11 (43) (show 43 < w.1 by rw [hw]; omega) ((va_up_ne _ _ (by omega)).trans h43) (v := .ref (w.2 (44))) rfl dX1_dropOldest_4 ?_
    refine zr_alen X (44) (show 44 < w.1 by rw [hw]; omega) (b := 4) rfl (va_up_self _ _ _) (v := 4) rfl dX1_dropOldest_7 ?_
    refine zr_icmp_ge X (tgt := 47) dX1_dropOldest_8 (by decide) (fun h => False.elim (nI_ge (show m + 1 < 4 by omega) (by decide) h)) (fun _ => ?_)
    refine zr_aload_n X 0 dX1_dropOldest_11 rfl rfl ?_
    refine zr_get X zfd_RX1_11 (43) (show 43 < w.1 by rw [hw]; omega) ((va_up_ne _ _ (by omega)).trans h43) (v := .ref (w.2 (44))) rfl dX1_dropOldest_12 ?_
    refine zr_iload_n X 1 dX1_dropOldest_15 rfl rfl ?_
    refine zr_aald X (44) (show 44 < w.1 by rw [hw]; omega) (b := 4) rfl (va_up_self _ _ _) (m + 1) (rfl) (by omega) (by decide) (v := w.2 (45 + 21 * (zDr δ (m)) (m + 1))) rfl dX1_dropOldest_16 ?_
    refine zr_astore_n X (ls' := [(2, .ref (w.2 (45 + 21 * (zDr δ (m)) (m + 1)))), (0, .ref (w.2 (43))), (1, .int (nI (m + 1)))]) dX1_dropOldest_17 rfl (by decide) rfl ?_
    refine zr_aload_n X 1 dX1_dropOldest_18 rfl rfl ?_
    refine zr_get X zfd_RX1_11 (43) (show 43 < w.1 by rw [hw]; omega) ((va_up_ne _ _ (by omega)).trans h43) (v := .ref (w.2 (44))) rfl dX1_dropOldest_19 ?_
    refine zr_iload_n X 2 dX1_dropOldest_22 rfl rfl ?_
    refine zr_aload_n X 1 dX1_dropOldest_23 rfl rfl ?_
    refine zr_get X zfd_RX1_11 (43) (show 43 < w.1 by rw [hw]; omega) ((va_up_ne _ _ (by omega)).trans h43) (v := .ref (w.2 (44))) rfl dX1_dropOldest_24 ?_
    refine zr_iload_n X 2 dX1_dropOldest_27 rfl rfl ?_
    refine zr_iconst X (v := 1) dX1_dropOldest_28 (by decide) ?_
    refine zr_isub X dX1_dropOldest_29 ?_
    refine zr_aald X (44) (show 44 < w.1 by rw [hw]; omega) (b := 4) rfl (va_up_self _ _ _) (m) (nI_pred m) (by omega) (by decide) (v := w.2 (45 + 21 * (zDr δ (m)) m)) rfl dX1_dropOldest_30 ?_
    refine zr_aast X (44) (show 44 < w.1 by rw [hw]; omega) (b := 4) (ci := 2) (r := (RX2, TX2, 10)) rfl rfl (va_up_self _ _ _) (m + 1) (rfl) (by omega) (by decide) (45 + 21 * (zDr δ (m)) m) (show 45 + 21 * (zDr δ (m)) m < w.1 by rw [hw]; omega) ((va_up_ne _ _ (by omega)).trans (hH ((zDr δ (m)) m) (by omega) 0 (by decide))) dX1_dropOldest_31 ?_
    refine zcw (f2 := va_up f (44) (eHra w cy (va_up (zDr δ (m)) (m + 1) ((zDr δ (m)) m)))) (by rw [va_up_up]; exact congrArg (fun z => va_up f 44 (eRefs cy 4 4 z)) (zrefs_up (B := fun z => 45 + 21 * z))) ?_
    refine zr_aload_n X 1 dX1_dropOldest_32 rfl rfl ?_
    refine zr_get X zfd_RX1_11 (43) (show 43 < w.1 by rw [hw]; omega) ((va_up_ne _ _ (by omega)).trans h43) (v := .ref (w.2 (44))) rfl dX1_dropOldest_33 ?_
    refine zr_iload_n X 2 dX1_dropOldest_36 rfl rfl ?_
    refine zr_iconst X (v := 1) dX1_dropOldest_37 (by decide) ?_
    refine zr_isub X dX1_dropOldest_38 ?_
    refine zr_aload_n X 0 dX1_dropOldest_39 rfl rfl ?_
    refine zr_aast X (44) (show 44 < w.1 by rw [hw]; omega) (b := 4) (ci := 2) (r := (RX2, TX2, 10)) rfl rfl (va_up_self _ _ _) (m) (nI_pred m) (by omega) (by decide) (45 + 21 * (zDr δ (m)) (m + 1)) (show 45 + 21 * (zDr δ (m)) (m + 1) < w.1 by rw [hw]; omega) ((va_up_ne _ _ (by omega)).trans (hH ((zDr δ (m)) (m + 1)) (by omega) 0 (by decide))) dX1_dropOldest_40 ?_
    refine zcw (f2 := va_up f (44) (eHra w cy (va_up (va_up (zDr δ (m)) (m + 1) ((zDr δ (m)) m)) m ((zDr δ (m)) (m + 1))))) (by rw [va_up_up]; exact congrArg (fun z => va_up f 44 (eRefs cy 4 4 z)) (zrefs_up (B := fun z => 45 + 21 * z))) ?_
    refine zr_iinc X (v := nI (m + 1 + 1)) (ls' := [(1, .int (nI (m + 1 + 1))), (2, .ref (w.2 (45 + 21 * (zDr δ (m)) (m + 1)))), (0, .ref (w.2 (43)))]) 2 dX1_dropOldest_41 rfl (zinc1 _) (by decide) rfl ?_
    refine zr_goto X (tgt := 2) dX1_dropOldest_44 (by decide) ?_
    refine zr_loc X (ls' := [(0, .ref (w.2 (43))), (1, .int (nI (m + 1 + 1)))]) [2, 0] rfl ?_
    exact zcast (f2 := va_up f (44) (eHra w cy (zDr δ (m + 1)))) (ls2 := [(0, .ref (w.2 (43))), (1, .int (nI (m + 1 + 1)))]) rfl rfl ih2
set_option maxHeartbeats 4000000 in
set_option maxRecDepth 100000 in
theorem k_keepA {l : Launch} {D : va_G} {cy : Nat → ClassId} {w : zW} {f : zF} {k mc bk : Nat} {hs : Nat → zGS} {δ : Nat → Nat} {s : zGS} (hw : w.1 = 136) (h43 : f 43 = eHis w (nI k)) (h44 : f 44 = eHra w cy δ) (hH : zHB w cy f hs) (hδ : ∀ k, k < 4 → δ k < 4) (h1 : ∀ o, o < 21 → f (1 + o) = zHut w cy 1 s.1 s.2 o) (hm : s.2 0 = nI mc) (hmc : mc ≤ 4) (hg : s.2 1 = nI bk) (hbk : bk ≤ 10) (hγ : ∀ k, k < 10 → s.1 k < 10) (hγh : ∀ i, i < 4 → ∀ k, k < 10 → (hs i).1 k < 10) (hk : k < 4) : zSd l D cy yX1_keep cX1_keep 3 none 2 46 [.ref (w.2 (43)), .ref (w.2 (1))] w f none (va_up (zPut f (45 + 21 * δ k) (zHut w cy (45 + 21 * δ k) (hs (δ k)).1 (hCpG mc (hs (δ k)).1 s.1 (hs (δ k)).2 s.2 bk))) 43 (eHis w (nI k + 1))) := by
  refine zSd.intro (by decide) (Nat.le_of_ble_eq_true rfl) (fun G X E => ?_)
  have qx := hδ k hk
  show G (w, 0, 0) f [(0, .ref (w.2 (43))), (1, .ref (w.2 (1)))] 0 []
  refine zr_aload_n X 0 dX1_keep_0 rfl rfl ?_
  refine zr_get X zfd_RX1_18 (43) (show 43 < w.1 by rw [hw]; omega) h43 (v := .int (nI k)) rfl dX1_keep_1 ?_
  refine zr_aload_n X 0 dX1_keep_4 rfl rfl ?_
  refine zr_get X zfd_RX1_11 (43) (show 43 < w.1 by rw [hw]; omega) h43 (v := .ref (w.2 (44))) rfl dX1_keep_5 ?_
  refine zr_alen X (44) (show 44 < w.1 by rw [hw]; omega) (b := 4) rfl h44 (v := 4) rfl dX1_keep_8 ?_
  refine zr_icmp_lt X (tgt := 16) dX1_keep_9 (by decide) (fun _ => ?_) (fun h => False.elim (h (nI_ltI (by omega) (show 4 < 2147483648 by decide) |>.mpr hk)))
  refine zr_aload_n X 0 dX1_keep_16 rfl rfl ?_
  refine zr_get X zfd_RX1_18 (43) (show 43 < w.1 by rw [hw]; omega) h43 (v := .int (nI k)) rfl dX1_keep_17 ?_
  refine zr_if_lt X (tgt := 35) dX1_keep_20 (by decide) (fun h => False.elim (nI_pos (by omega) h)) (fun _ => ?_)
  refine zr_aload_n X 0 dX1_keep_23 rfl rfl ?_
  refine zr_get X zfd_RX1_18 (43) (show 43 < w.1 by rw [hw]; omega) h43 (v := .int (nI k)) rfl dX1_keep_24 ?_
  refine zr_aload_n X 0 dX1_keep_27 rfl rfl ?_
  refine zr_get X zfd_RX1_11 (43) (show 43 < w.1 by rw [hw]; omega) h43 (v := .ref (w.2 (44))) rfl dX1_keep_28 ?_
  refine zr_alen X (44) (show 44 < w.1 by rw [hw]; omega) (b := 4) rfl h44 (v := 4) rfl dX1_keep_31 ?_
  refine zr_icmp_lt X (tgt := 36) dX1_keep_32 (by decide) (fun _ => ?_) (fun h => False.elim (h (nI_ltI (by omega) (show 4 < 2147483648 by decide) |>.mpr hk)))
  refine zr_aload_n X 0 dX1_keep_36 rfl rfl ?_
  refine zr_get X zfd_RX1_11 (43) (show 43 < w.1 by rw [hw]; omega) h43 (v := .ref (w.2 (44))) rfl dX1_keep_37 ?_
  refine zr_aload_n X 0 dX1_keep_40 rfl rfl ?_
  refine zr_get X zfd_RX1_18 (43) (show 43 < w.1 by rw [hw]; omega) h43 (v := .int (nI k)) rfl dX1_keep_41 ?_
  refine zr_aald X (44) (show 44 < w.1 by rw [hw]; omega) (b := 4) rfl h44 (k) (rfl) (by omega) (by decide) (v := w.2 (45 + 21 * δ k)) rfl dX1_keep_44 ?_
  refine zr_astore_n X (ls' := [(2, .ref (w.2 (45 + 21 * δ k))), (0, .ref (w.2 (43))), (1, .ref (w.2 (1)))]) dX1_keep_45 rfl (by decide) rfl ?_
  refine zr_aload_n X 0 dX1_keep_46 rfl rfl ?_
  refine zr_ifnull X dX1_keep_47 ?_
  refine zr_aload_n X 0 dX1_keep_50 rfl rfl ?_
  refine zr_aload_n X 2 dX1_keep_51 rfl rfl ?_
  refine zr_cV X (As := [.ref (w.2 (1))]) (rest := []) (f' := zPut f (45 + 21 * δ k) (zHut w cy (45 + 21 * δ k) ((hs (δ k)).1) (hCpG mc (hs (δ k)).1 s.1 (hs (δ k)).2 s.2 bk))) (st' := []) zc_X2_copyFrom (45 + 21 * δ k) (show 45 + 21 * δ k < w.1 by rw [hw]; omega) (hH (δ k) (by omega) 0 (by decide)) (q9 := _) rfl rfl (k_Hut_copyFromF (fun o ho => (hH (δ k) qx o ho)) (show 45 + 21 * δ k + 21 ≤ w.1 by rw [hw]; omega) (show 1 + 21 ≤ w.1 by rw [hw]; decide) (by omega) (fun o ho => (h1 o ho)) hm hmc hg hbk (hγh (δ k) qx) hγ) ⟨Nat.le_of_ble_eq_true rfl, Nat.le_of_ble_eq_true rfl⟩ ⟨Nat.le_refl _, Nat.le_refl _⟩ rfl (Nat.le_of_ble_eq_true rfl) zm_2_123 rfl dX1_keep_52 rfl ?_
  refine zr_aload_n X 1 dX1_keep_55 rfl rfl ?_
  refine zr_dup X dX1_keep_56 rfl ?_
  refine zr_get X zfd_RX1_18 (43) (show 43 < w.1 by rw [hw]; omega) ((zPut_out (by omega)).trans h43) (v := .int (nI k)) rfl dX1_keep_57 ?_
  refine zr_iconst X (v := 1) dX1_keep_60 (by decide) ?_
  refine zr_iadd X dX1_keep_61 ?_
  refine zr_put X zfd_RX1_18 zty_1_1 (43) (show 43 < w.1 by rw [hw]; omega) ((zPut_out (by omega)).trans h43) rfl rfl (Nat.le_of_ble_eq_true rfl) rfl dX1_keep_62 ?_
  exact zret_v E rfl dX1_keep_65 rfl
set_option maxHeartbeats 4000000 in
set_option maxRecDepth 100000 in
theorem k_keepB {l : Launch} {D : va_G} {cy : Nat → ClassId} {w : zW} {f : zF} {mc bk : Nat} {hs : Nat → zGS} {δ : Nat → Nat} {s : zGS} (hw : w.1 = 136) (h43 : f 43 = eHis w (nI 4)) (h44 : f 44 = eHra w cy δ) (hH : zHB w cy f hs) (hδ : ∀ k, k < 4 → δ k < 4) (h1 : ∀ o, o < 21 → f (1 + o) = zHut w cy 1 s.1 s.2 o) (hm : s.2 0 = nI mc) (hmc : mc ≤ 4) (hg : s.2 1 = nI bk) (hbk : bk ≤ 10) (hγ : ∀ k, k < 10 → s.1 k < 10) (hγh : ∀ i, i < 4 → ∀ k, k < 10 → (hs i).1 k < 10) : zSd l D cy yX1_keep cX1_keep 3 none 2 46 [.ref (w.2 (43)), .ref (w.2 (1))] w f none (va_up (zPut (va_up (va_up f 44 (eHra w cy (zDr δ 3))) 43 (eHis w (nI 4 - 1))) (45 + 21 * (zDr δ 3) 3) (zHut w cy (45 + 21 * (zDr δ 3) 3) (hs ((zDr δ 3) 3)).1 (hCpG mc (hs ((zDr δ 3) 3)).1 s.1 (hs ((zDr δ 3) 3)).2 s.2 bk))) 43 (eHis w (nI 4 - 1 + 1))) := by
  refine zSd.intro (by decide) (Nat.le_of_ble_eq_true rfl) (fun G X E => ?_)
  have qx := zDr_lt hδ 3 (Nat.le_refl _) 3 (by decide)
  show G (w, 0, 0) f [(0, .ref (w.2 (43))), (1, .ref (w.2 (1)))] 0 []
  refine zr_aload_n X 0 dX1_keep_0 rfl rfl ?_
  refine zr_get X zfd_RX1_18 (43) (show 43 < w.1 by rw [hw]; omega) h43 (v := .int (nI 4)) rfl dX1_keep_1 ?_
  refine zr_aload_n X 0 dX1_keep_4 rfl rfl ?_
  refine zr_get X zfd_RX1_11 (43) (show 43 < w.1 by rw [hw]; omega) h43 (v := .ref (w.2 (44))) rfl dX1_keep_5 ?_
  refine zr_alen X (44) (show 44 < w.1 by rw [hw]; omega) (b := 4) rfl h44 (v := 4) rfl dX1_keep_8 ?_
  refine zr_icmp_lt X (tgt := 16) dX1_keep_9 (by decide) (fun h => False.elim (absurd h (by decide))) (fun _ => ?_)
  refine zr_aload_n X 0 dX1_keep_12 rfl rfl ?_
  refine zr_cV X (As := []) (rest := []) (f' := va_up (va_up f (44) (eHra w cy (zDr δ 3))) (43) (eHis w (nI 4 - 1))) (st' := []) zc_X1_dropOldest (43) (show 43 < w.1 by rw [hw]; omega) h43 (q9 := _) rfl rfl (k_dropOldest hw h43 h44 hH hδ) ⟨Nat.le_of_ble_eq_true rfl, Nat.le_of_ble_eq_true rfl⟩ ⟨Nat.le_refl _, Nat.le_refl _⟩ rfl (Nat.le_of_ble_eq_true rfl) zm_2_119 rfl dX1_keep_13 rfl ?_
  refine zr_aload_n X 0 dX1_keep_16 rfl rfl ?_
  refine zr_get X zfd_RX1_18 (43) (show 43 < w.1 by rw [hw]; omega) (va_up_self _ _ _) (v := .int (nI 4 - 1)) rfl dX1_keep_17 ?_
  refine zr_if_lt X (tgt := 35) dX1_keep_20 (by decide) (fun h => False.elim (absurd h (by decide))) (fun _ => ?_)
  refine zr_aload_n X 0 dX1_keep_23 rfl rfl ?_
  refine zr_get X zfd_RX1_18 (43) (show 43 < w.1 by rw [hw]; omega) (va_up_self _ _ _) (v := .int (nI 4 - 1)) rfl dX1_keep_24 ?_
  refine zr_aload_n X 0 dX1_keep_27 rfl rfl ?_
  refine zr_get X zfd_RX1_11 (43) (show 43 < w.1 by rw [hw]; omega) (va_up_self _ _ _) (v := .ref (w.2 (44))) rfl dX1_keep_28 ?_
  refine zr_alen X (44) (show 44 < w.1 by rw [hw]; omega) (b := 4) rfl ((va_up_ne _ _ (by omega)).trans (va_up_self _ _ _)) (v := 4) rfl dX1_keep_31 ?_
  refine zr_icmp_lt X (tgt := 36) dX1_keep_32 (by decide) (fun _ => ?_) (fun h => False.elim (h (by decide)))
  refine zr_aload_n X 0 dX1_keep_36 rfl rfl ?_
  refine zr_get X zfd_RX1_11 (43) (show 43 < w.1 by rw [hw]; omega) (va_up_self _ _ _) (v := .ref (w.2 (44))) rfl dX1_keep_37 ?_
  refine zr_aload_n X 0 dX1_keep_40 rfl rfl ?_
  refine zr_get X zfd_RX1_18 (43) (show 43 < w.1 by rw [hw]; omega) (va_up_self _ _ _) (v := .int (nI 4 - 1)) rfl dX1_keep_41 ?_
  refine zr_aald X (44) (show 44 < w.1 by rw [hw]; omega) (b := 4) rfl ((va_up_ne _ _ (by omega)).trans (va_up_self _ _ _)) (3) (by decide) (by decide) (by decide) (v := w.2 (45 + 21 * (zDr δ 3) 3)) rfl dX1_keep_44 ?_
  refine zr_astore_n X (ls' := [(2, .ref (w.2 (45 + 21 * (zDr δ 3) 3))), (0, .ref (w.2 (43))), (1, .ref (w.2 (1)))]) dX1_keep_45 rfl (by decide) rfl ?_
  refine zr_aload_n X 0 dX1_keep_46 rfl rfl ?_
  refine zr_ifnull X dX1_keep_47 ?_
  refine zr_aload_n X 0 dX1_keep_50 rfl rfl ?_
  refine zr_aload_n X 2 dX1_keep_51 rfl rfl ?_
  refine zr_cV X (As := [.ref (w.2 (1))]) (rest := []) (f' := zPut (va_up (va_up f (44) (eHra w cy (zDr δ 3))) (43) (eHis w (nI 4 - 1))) (45 + 21 * (zDr δ 3) 3) (zHut w cy (45 + 21 * (zDr δ 3) 3) ((hs ((zDr δ 3) 3)).1) (hCpG mc (hs ((zDr δ 3) 3)).1 s.1 (hs ((zDr δ 3) 3)).2 s.2 bk))) (st' := []) zc_X2_copyFrom (45 + 21 * (zDr δ 3) 3) (show 45 + 21 * (zDr δ 3) 3 < w.1 by rw [hw]; omega) ((va_up_ne _ _ (by omega)).trans ((va_up_ne _ _ (by omega)).trans (hH ((zDr δ 3) 3) (by omega) 0 (by decide)))) (q9 := _) rfl rfl (k_Hut_copyFromF (fun o ho => ((va_up_ne _ _ (by omega)).trans ((va_up_ne _ _ (by omega)).trans (hH ((zDr δ 3) 3) qx o ho)))) (show 45 + 21 * (zDr δ 3) 3 + 21 ≤ w.1 by rw [hw]; omega) (show 1 + 21 ≤ w.1 by rw [hw]; decide) (by omega) (fun o ho => ((va_up_ne _ _ (by omega)).trans ((va_up_ne _ _ (by omega)).trans (h1 o ho)))) hm hmc hg hbk (hγh ((zDr δ 3) 3) qx) hγ) ⟨Nat.le_of_ble_eq_true rfl, Nat.le_of_ble_eq_true rfl⟩ ⟨Nat.le_refl _, Nat.le_refl _⟩ rfl (Nat.le_of_ble_eq_true rfl) zm_2_123 rfl dX1_keep_52 rfl ?_
  refine zr_aload_n X 1 dX1_keep_55 rfl rfl ?_
  refine zr_dup X dX1_keep_56 rfl ?_
  refine zr_get X zfd_RX1_18 (43) (show 43 < w.1 by rw [hw]; omega) ((zPut_out (by omega)).trans (va_up_self _ _ _)) (v := .int (nI 4 - 1)) rfl dX1_keep_57 ?_
  refine zr_iconst X (v := 1) dX1_keep_60 (by decide) ?_
  refine zr_iadd X dX1_keep_61 ?_
  refine zr_put X zfd_RX1_18 zty_1_1 (43) (show 43 < w.1 by rw [hw]; omega) ((zPut_out (by omega)).trans (va_up_self _ _ _)) rfl rfl (Nat.le_of_ble_eq_true rfl) rfl dX1_keep_62 ?_
  exact zret_v E rfl dX1_keep_65 rfl
