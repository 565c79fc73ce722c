def hWantS (γ : Nat → Nat) (σ : Nat → Int32) (d : Int32) (k : Nat) (s : Int32) : Int32 := if (gThere (fun i9 => σ (55 + 6 * (γ k) + i9)) d) = 0 then s else s + ((σ (55 + 6 * (γ k) + 1) + 1) / 2)
def hWanted (γ : Nat → Nat) (σ : Nat → Int32) (d : Int32) (n : Nat) : Int32 := zfold (hWantS γ σ d) 0 n
theorem hWanted_s {γ : Nat → Nat} {σ : Nat → Int32} {d : Int32} {n : Nat} : hWanted γ σ d (n + 1) = hWantS γ σ d n (hWanted γ σ d n) := rfl
def hCred (σ : Nat → Int32) : Int32 := if ((σ 16) - (σ 6)) ≤ 0 then 0 else if (σ 15) ≤ 0 then 0 else ((σ 16) - (σ 6)) / (σ 15)
def hWay (σ : Nat → Int32) (n : Nat) : Int32 := zfold (fun k s => s + σ (19 + 9 * k + 4)) 0 n
set_option maxHeartbeats 4000000 in
set_option maxRecDepth 100000 in
theorem k_loavesOnTheirWayUp {l : Launch} {D : va_G} {cy : Nat → ClassId} {w : zW} {f : zF} {b mc bk : Nat} {γ : Nat → Nat} {σ : Nat → Int32}  (hb : b + 21 ≤ w.1) (hm : σ 0 = nI mc) (hmc : mc ≤ 4) (hg : σ 1 = nI bk) (hbk : bk ≤ 10) (hγ : ∀ k, k < 10 → γ k < 10)  : zSd l D cy yX2_loavesOnTheirWayUp cX2_loavesOnTheirWayUp 4 (some .int) 1 21 [.ref (w.2 (b))] w (zPut f b (zHut w cy b γ σ)) (some (.int (hWay σ mc))) (zPut f b (zHut w cy b γ σ)) := by
  refine zSd.intro (by decide) (Nat.le_of_ble_eq_true rfl) (fun G X E => ?_)
  show G (w, 0, 0) (zPut f b (zHut w cy b γ σ)) [(0, .ref (w.2 (b)))] 0 []
  refine zr_iconst X (v := 0) dX2_loavesOnTheirWayUp_0 (by decide) ?_
  refine zr_istore_n X (ls' := [(1, .int (0)), (0, .ref (w.2 (b)))]) dX2_loavesOnTheirWayUp_1 rfl (by decide) rfl ?_
  refine zr_iconst X (v := 0) dX2_loavesOnTheirWayUp_2 (by decide) ?_
  refine zr_istore_n X (ls' := [(2, .int (0)), (1, .int (0)), (0, .ref (w.2 (b)))]) dX2_loavesOnTheirWayUp_3 rfl (by decide) rfl ?_
  refine zr_loc X (ls' := [(0, .ref (w.2 (b))), (1, .int (0)), (2, .int (0))]) [2, 1, 0] rfl ?_
  refine zcast (f2 := zPut f b (zHut w cy b γ σ)) (ls2 := [(0, .ref (w.2 (b))), (1, .int (hWay σ (0))), (2, .int (nI (0)))]) rfl rfl ?_
  refine zdown (P := fun n => G (w, 0, 0) (zPut f b (zHut w cy b γ σ)) [(0, .ref (w.2 (b))), (1, .int (hWay σ (n))), (2, .int (nI (n)))] 4 []) (B := mc) ?_ (fun n hn4 ih4 => ?_) 0 (Nat.zero_le _) 
  · show G (w, 0, 0) (zPut f b (zHut w cy b γ σ)) [(0, .ref (w.2 (b))), (1, .int (hWay σ (mc))), (2, .int (nI (mc)))] 4 []
    refine zr_iload_n X 2 dX2_loavesOnTheirWayUp_4 rfl rfl ?_
    refine zr_aload_n X 0 dX2_loavesOnTheirWayUp_5 rfl rfl ?_
    refine zr_get X zfd_RX2_50 (b) (show b < w.1 by omega) (zPut_in (o := 0) (by omega)) (v := .int (σ 0)) rfl dX2_loavesOnTheirWayUp_6 ?_
    refine zr_icmp_ge X (tgt := 35) dX2_loavesOnTheirWayUp_9 (by decide) (fun _ => ?_) (fun h => False.elim (h (by rw [hm]; exact nI_le (Nat.le_refl _) (by omega))))
    refine zr_iload_n X 1 dX2_loavesOnTheirWayUp_35 rfl rfl ?_
    exact zret_i E rfl dX2_loavesOnTheirWayUp_36 (by simp only []) rfl
  · show G (w, 0, 0) (zPut f b (zHut w cy b γ σ)) [(0, .ref (w.2 (b))), (1, .int (hWay σ (n))), (2, .int (nI (n)))] 4 []
    refine zr_iload_n X 2 dX2_loavesOnTheirWayUp_4 rfl rfl ?_
    refine zr_aload_n X 0 dX2_loavesOnTheirWayUp_5 rfl rfl ?_
    refine zr_get X zfd_RX2_50 (b) (show b < w.1 by omega) (zPut_in (o := 0) (by omega)) (v := .int (σ 0)) rfl dX2_loavesOnTheirWayUp_6 ?_
    refine zr_icmp_ge X (tgt := 35) dX2_loavesOnTheirWayUp_9 (by decide) (fun h => False.elim (nI_ge hn4 (by omega) (by rw [← hm]; exact h))) (fun _ => ?_)
    refine zr_aload_n X 0 dX2_loavesOnTheirWayUp_12 rfl rfl ?_
    refine zr_iload_n X 2 dX2_loavesOnTheirWayUp_13 rfl rfl ?_
    refine zr_cV X (As := [.int (nI (n))]) (rest := []) (f' := zPut f b (zHut w cy b γ σ)) (st' := [.ref (w.2 (b + (7 + n)))]) zc_X2_muleAt (b) (show b < w.1 by omega) (zPut_in (o := 0) (by omega)) (q9 := _) rfl rfl (k_muleAt hb hm hmc hg hbk hγ (by omega)) ⟨Nat.le_of_ble_eq_true rfl, Nat.le_of_ble_eq_true rfl⟩ ⟨Nat.le_refl _, Nat.le_refl _⟩ rfl (Nat.le_of_ble_eq_true rfl) zm_2_42 rfl dX2_loavesOnTheirWayUp_14 rfl ?_
    refine zr_astore_n X (ls' := [(3, .ref (w.2 (b + (7 + n)))), (0, .ref (w.2 (b))), (1, .int (hWay σ (n))), (2, .int (nI (n)))]) dX2_loavesOnTheirWayUp_17 rfl (by decide) rfl ?_
    refine zr_aload_n X 0 dX2_loavesOnTheirWayUp_18 rfl rfl ?_
    refine zr_ifnull X dX2_loavesOnTheirWayUp_19 ?_
    refine zr_iload_n X 2 dX2_loavesOnTheirWayUp_22 rfl rfl ?_
    refine zr_aload_n X 0 dX2_loavesOnTheirWayUp_23 rfl rfl ?_
    refine zr_getN X zfn_RX2_227 (b + (7 + n)) (show b + (7 + n) < w.1 by omega) ((zPut_in (o := 7 + n) (by omega)).trans (zHut_mule (k := n) (by omega))) (v := .int (σ (19 + 9 * n + 4))) rfl dX2_loavesOnTheirWayUp_24 ?_
    refine zr_iadd X dX2_loavesOnTheirWayUp_27 ?_
    refine zr_istore_n X (ls' := [(1, .int ((hWay σ (n)) + (σ (19 + 9 * n + 4)))), (3, .ref (w.2 (b + (7 + n)))), (0, .ref (w.2 (b))), (2, .int (nI (n)))]) dX2_loavesOnTheirWayUp_28 rfl (by decide) rfl ?_
    refine zr_iinc X (v := nI (n + 1)) (ls' := [(2, .int (nI (n + 1))), (1, .int ((hWay σ (n)) + (σ (19 + 9 * n + 4)))), (3, .ref (w.2 (b + (7 + n)))), (0, .ref (w.2 (b)))]) 3 dX2_loavesOnTheirWayUp_29 rfl (zinc1 _) (by decide) rfl ?_
    refine zr_goto X (tgt := 4) dX2_loavesOnTheirWayUp_32 (by decide) ?_
    refine zr_loc X (ls' := [(0, .ref (w.2 (b))), (1, .int ((hWay σ (n)) + (σ (19 + 9 * n + 4)))), (2, .int (nI (n + 1)))]) [3, 1, 0] rfl ?_
    exact zcast (f2 := zPut f b (zHut w cy b γ σ)) (ls2 := [(0, .ref (w.2 (b))), (1, .int (hWay σ (n + 1))), (2, .int (nI (n + 1)))]) rfl rfl ih4
def oI : Option Nat → Int32
  | none => -1
  | some j => nI j
def oV (w : zW) (b : Nat) : Option Nat → Value
  | none => .null
  | some j => .ref (w.2 (b + (7 + j)))
def hBestS (σ : Nat → Int32) (k : Nat) (o : Option Nat) : Option Nat := if (σ (19 + 9 * k + 2)) = 0 then (match o with | none => some k | some j => if (mAhead (fun i9 => σ (19 + 9 * k + i9)) (fun i9 => σ (19 + 9 * j + i9))) = 0 then some j else some k) else o
def hBest (σ : Nat → Int32) (n : Nat) : Option Nat := zfold (hBestS σ) none n
theorem hBest_s {σ : Nat → Int32} {n : Nat} : hBest σ (n + 1) = hBestS σ n (hBest σ n) := rfl
theorem hBest_lt {σ : Nat → Int32} : ∀ {n j : Nat}, hBest σ n = some j → j < n
  | 0, j, h => by cases h
  | n + 1, j, h => by
    rw [hBest_s] at h
    unfold hBestS at h
    cases ho : hBest σ n with
    | none =>
      rw [ho] at h
      by_cases h1 : σ (19 + 9 * n + 2) = 0
      · rw [if_pos h1] at h; cases h; omega
      · rw [if_neg h1] at h; cases h
    | some i =>
      have hi := hBest_lt ho
      rw [ho] at h
      by_cases h1 : σ (19 + 9 * n + 2) = 0
      · rw [if_pos h1] at h
        dsimp only at h
        split at h <;> (cases h; omega)
      · rw [if_neg h1] at h; cases h; omega
def hTell (mc : Nat) (σ : Nat → Int32) (x : Int32) : Int32 := if x = 0 then σ 0 else if x = 1 then σ 1 else if x = 2 then σ 2 else if x = 3 then σ 3 else if x = 4 then σ 4 else if x = 5 then σ 5 else if x = 6 then σ 6 else if x = 7 then shMany (fun k9 => σ (115 + k9)) 0 20 21 else if x = 8 then shMany (fun k9 => σ (115 + k9)) ((σ 17) + 1) 20 21 else if x = 9 then hWay σ mc else if x = 10 then σ 7 else if x = 11 then σ 8 else if x = 12 then σ 9 else if x = 13 then σ 10 else if x = 14 then σ 11 else if x = 15 then σ 12 else if x = 16 then σ 13 else if x = 17 then σ 14 else if (zwin x 20 23) = 0 then (-1000001) else sTell (fun i9 => σ (15 + i9)) (x - 20)
set_option maxHeartbeats 4000000 in
set_option maxRecDepth 100000 in
theorem k_Hut_tell {l : Launch} {D : va_G} {cy : Nat → ClassId} {w : zW} {f : zF} {b mc bk : Nat} {γ : Nat → Nat} {σ : Nat → Int32} {x : Int32} (hb : b + 21 ≤ w.1) (hm : σ 0 = nI mc) (hmc : mc ≤ 4) (hg : σ 1 = nI bk) (hbk : bk ≤ 10) (hγ : ∀ k, k < 10 → γ k < 10)  : zSd l D cy yX2_tell cX2_tell 2 (some .int) 2 44 [.ref (w.2 (b)), .int (x)] w (zPut f b (zHut w cy b γ σ)) (some (.int (hTell mc σ x))) (zPut f b (zHut w cy b γ σ)) := by
  refine zSd.intro (by decide) (Nat.le_of_ble_eq_true rfl) (fun G X E => ?_)
  show G (w, 0, 0) (zPut f b (zHut w cy b γ σ)) [(0, .ref (w.2 (b))), (1, .int (x))] 0 []
  refine zr_iload_n X 1 dX2_tell_0 rfl rfl ?_
  by_cases h1 : x = 0
  · refine zr_tableIn X (off := 87) (tgt := 88) dX2_tell_1 (by rw [h1]; decide) (by rw [h1]; decide) (by rw [h1]; decide) (by decide) ?_
    refine zr_aload_n X 0 dX2_tell_88 rfl rfl ?_
    refine zr_get X zfd_RX2_50 (b) (show b < w.1 by omega) (zPut_in (o := 0) (by omega)) (v := .int (σ 0)) rfl dX2_tell_89 ?_
    exact zret_i E rfl dX2_tell_92 (by simp only [hTell, if_pos h1]) rfl
  by_cases h2 : x = 1
  · refine zr_tableIn X (off := 92) (tgt := 93) dX2_tell_1 (by rw [h2]; decide) (by rw [h2]; decide) (by rw [h2]; decide) (by decide) ?_
    refine zr_aload_n X 0 dX2_tell_93 rfl rfl ?_
    refine zr_get X zfd_RX2_53 (b) (show b < w.1 by omega) (zPut_in (o := 0) (by omega)) (v := .int (σ 1)) rfl dX2_tell_94 ?_
    exact zret_i E rfl dX2_tell_97 (by simp only [hTell, if_neg h1, if_pos h2]) rfl
  by_cases h3 : x = 2
  · refine zr_tableIn X (off := 97) (tgt := 98) dX2_tell_1 (by rw [h3]; decide) (by rw [h3]; decide) (by rw [h3]; decide) (by decide) ?_
    refine zr_aload_n X 0 dX2_tell_98 rfl rfl ?_
    refine zr_get X zfd_RX2_56 (b) (show b < w.1 by omega) (zPut_in (o := 0) (by omega)) (v := .int (σ 2)) rfl dX2_tell_99 ?_
    exact zret_i E rfl dX2_tell_102 (by simp only [hTell, if_neg h1, if_neg h2, if_pos h3]) rfl
  by_cases h4 : x = 3
  · refine zr_tableIn X (off := 102) (tgt := 103) dX2_tell_1 (by rw [h4]; decide) (by rw [h4]; decide) (by rw [h4]; decide) (by decide) ?_
    refine zr_aload_n X 0 dX2_tell_103 rfl rfl ?_
    refine zr_get X zfd_RX2_59 (b) (show b < w.1 by omega) (zPut_in (o := 0) (by omega)) (v := .int (σ 3)) rfl dX2_tell_104 ?_
    exact zret_i E rfl dX2_tell_107 (by simp only [hTell, if_neg h1, if_neg h2, if_neg h3, if_pos h4]) rfl
  by_cases h5 : x = 4
  · refine zr_tableIn X (off := 107) (tgt := 108) dX2_tell_1 (by rw [h5]; decide) (by rw [h5]; decide) (by rw [h5]; decide) (by decide) ?_
    refine zr_aload_n X 0 dX2_tell_108 rfl rfl ?_
    refine zr_get X zfd_RX2_44 (b) (show b < w.1 by omega) (zPut_in (o := 0) (by omega)) (v := .int (σ 4)) rfl dX2_tell_109 ?_
    exact zret_i E rfl dX2_tell_112 (by simp only [hTell, if_neg h1, if_neg h2, if_neg h3, if_neg h4, if_pos h5]) rfl
  by_cases h6 : x = 5
  · refine zr_tableIn X (off := 112) (tgt := 113) dX2_tell_1 (by rw [h6]; decide) (by rw [h6]; decide) (by rw [h6]; decide) (by decide) ?_
    refine zr_aload_n X 0 dX2_tell_113 rfl rfl ?_
    refine zr_get X zfd_RX2_33 (b) (show b < w.1 by omega) (zPut_in (o := 0) (by omega)) (v := .ref (w.2 (b + 5))) rfl dX2_tell_114 ?_
    refine zr_getN X zfn_RX2_128 (b + 5) (show b + 5 < w.1 by omega) (zPut_in (o := 5) (by omega)) (v := .int (σ 5)) rfl dX2_tell_117 ?_
    exact zret_i E rfl dX2_tell_120 (by simp only [hTell, if_neg h1, if_neg h2, if_neg h3, if_neg h4, if_neg h5, if_pos h6]) rfl
  by_cases h7 : x = 6
  · refine zr_tableIn X (off := 120) (tgt := 121) dX2_tell_1 (by rw [h7]; decide) (by rw [h7]; decide) (by rw [h7]; decide) (by decide) ?_
    refine zr_aload_n X 0 dX2_tell_121 rfl rfl ?_
    refine zr_get X zfd_RX2_33 (b) (show b < w.1 by omega) (zPut_in (o := 0) (by omega)) (v := .ref (w.2 (b + 5))) rfl dX2_tell_122 ?_
    refine zr_getN X zfn_RX2_105 (b + 5) (show b + 5 < w.1 by omega) (zPut_in (o := 5) (by omega)) (v := .int (σ 6)) rfl dX2_tell_125 ?_
    exact zret_i E rfl dX2_tell_128 (by simp only [hTell, if_neg h1, if_neg h2, if_neg h3, if_neg h4, if_neg h5, if_neg h6, if_pos h7]) rfl
  by_cases h8 : x = 7
  · refine zr_tableIn X (off := 128) (tgt := 129) dX2_tell_1 (by rw [h8]; decide) (by rw [h8]; decide) (by rw [h8]; decide) (by decide) ?_
    refine zr_aload_n X 0 dX2_tell_129 rfl rfl ?_
    refine zr_get X zfd_RX2_26 (b) (show b < w.1 by omega) (zPut_in (o := 0) (by omega)) (v := .ref (w.2 (b + 3))) rfl dX2_tell_130 ?_
    refine zr_iconst X (v := 0) dX2_tell_133 (by decide) ?_
    refine zr_bipush X (v := 20) dX2_tell_134 (by decide) ?_
    refine zr_cV X (As := [.int (0), .int (20)]) (rest := []) (f' := zPut f b (zHut w cy b γ σ)) (st' := [.int (shMany (fun k9 => σ (115 + k9)) 0 20 21)]) zc_X7_howMany (b + 3) (show b + 3 < w.1 by omega) (zPut_in (o := 3) (by omega)) (q9 := _) rfl rfl (k_Shelf_howMany (show b + 3 < w.1 by omega) (show b + 4 < w.1 by omega) (zPut_in (o := 3) (by omega)) (zPut_in (o := 4) (by omega)) (by omega)) ⟨Nat.le_of_ble_eq_true rfl, Nat.le_of_ble_eq_true rfl⟩ ⟨Nat.le_refl _, Nat.le_refl _⟩ rfl (Nat.le_of_ble_eq_true rfl) zm_2_34 rfl dX2_tell_136 rfl ?_
    exact zret_i E rfl dX2_tell_139 (by simp only [hTell, if_neg h1, if_neg h2, if_neg h3, if_neg h4, if_neg h5, if_neg h6, if_neg h7, if_pos h8]) rfl
  by_cases h9 : x = 8
  · refine zr_tableIn X (off := 139) (tgt := 140) dX2_tell_1 (by rw [h9]; decide) (by rw [h9]; decide) (by rw [h9]; decide) (by decide) ?_
    refine zr_aload_n X 0 dX2_tell_140 rfl rfl ?_
    refine zr_get X zfd_RX2_26 (b) (show b < w.1 by omega) (zPut_in (o := 0) (by omega)) (v := .ref (w.2 (b + 3))) rfl dX2_tell_141 ?_
    refine zr_aload_n X 0 dX2_tell_144 rfl rfl ?_
    refine zr_get X zfd_RX2_40 (b) (show b < w.1 by omega) (zPut_in (o := 0) (by omega)) (v := .ref (w.2 (b + 6))) rfl dX2_tell_145 ?_
    refine zr_getN X zfn_RX2_203 (b + 6) (show b + 6 < w.1 by omega) (zPut_in (o := 6) (by omega)) (v := .int (σ 17)) rfl dX2_tell_148 ?_
    refine zr_iconst X (v := 1) dX2_tell_151 (by decide) ?_
    refine zr_iadd X dX2_tell_152 ?_
    refine zr_bipush X (v := 20) dX2_tell_153 (by decide) ?_
    refine zr_cV X (As := [.int ((σ 17) + 1), .int (20)]) (rest := []) (f' := zPut f b (zHut w cy b γ σ)) (st' := [.int (shMany (fun k9 => σ (115 + k9)) ((σ 17) + 1) 20 21)]) zc_X7_howMany (b + 3) (show b + 3 < w.1 by omega) (zPut_in (o := 3) (by omega)) (q9 := _) rfl rfl (k_Shelf_howMany (show b + 3 < w.1 by omega) (show b + 4 < w.1 by omega) (zPut_in (o := 3) (by omega)) (zPut_in (o := 4) (by omega)) (by omega)) ⟨Nat.le_of_ble_eq_true rfl, Nat.le_of_ble_eq_true rfl⟩ ⟨Nat.le_refl _, Nat.le_refl _⟩ rfl (Nat.le_of_ble_eq_true rfl) zm_2_34 rfl dX2_tell_155 rfl ?_
    exact zret_i E rfl dX2_tell_158 (by simp only [hTell, if_neg h1, if_neg h2, if_neg h3, if_neg h4, if_neg h5, if_neg h6, if_neg h7, if_neg h8, if_pos h9]) rfl
  by_cases h10 : x = 9
  · refine zr_tableIn X (off := 158) (tgt := 159) dX2_tell_1 (by rw [h10]; decide) (by rw [h10]; decide) (by rw [h10]; decide) (by decide) ?_
    refine zr_aload_n X 0 dX2_tell_159 rfl rfl ?_
    refine zr_cV X (As := []) (rest := []) (f' := zPut f b (zHut w cy b γ σ)) (st' := [.int (hWay σ mc)]) zc_X2_loavesOnTheirWayUp (b) (show b < w.1 by omega) (zPut_in (o := 0) (by omega)) (q9 := _) rfl rfl (k_loavesOnTheirWayUp hb hm hmc hg hbk hγ) ⟨Nat.le_of_ble_eq_true rfl, Nat.le_of_ble_eq_true rfl⟩ ⟨Nat.le_refl _, Nat.le_refl _⟩ rfl (Nat.le_of_ble_eq_true rfl) zm_2_38 rfl dX2_tell_160 rfl ?_
    exact zret_i E rfl dX2_tell_163 (by simp only [hTell, if_neg h1, if_neg h2, if_neg h3, if_neg h4, if_neg h5, if_neg h6, if_neg h7, if_neg h8, if_neg h9, if_pos h10]) rfl
  by_cases h11 : x = 10
  · refine zr_tableIn X (off := 163) (tgt := 164) dX2_tell_1 (by rw [h11]; decide) (by rw [h11]; decide) (by rw [h11]; decide) (by decide) ?_
    refine zr_aload_n X 0 dX2_tell_164 rfl rfl ?_
    refine zr_get X zfd_RX2_33 (b) (show b < w.1 by omega) (zPut_in (o := 0) (by omega)) (v := .ref (w.2 (b + 5))) rfl dX2_tell_165 ?_
    refine zr_getN X zfn_RX2_122 (b + 5) (show b + 5 < w.1 by omega) (zPut_in (o := 5) (by omega)) (v := .int (σ 7)) rfl dX2_tell_168 ?_
    exact zret_i E rfl dX2_tell_171 (by simp only [hTell, if_neg h1, if_neg h2, if_neg h3, if_neg h4, if_neg h5, if_neg h6, if_neg h7, if_neg h8, if_neg h9, if_neg h10, if_pos h11]) rfl
  by_cases h12 : x = 11
  · refine zr_tableIn X (off := 171) (tgt := 172) dX2_tell_1 (by rw [h12]; decide) (by rw [h12]; decide) (by rw [h12]; decide) (by decide) ?_
    refine zr_aload_n X 0 dX2_tell_172 rfl rfl ?_
    refine zr_get X zfd_RX2_33 (b) (show b < w.1 by omega) (zPut_in (o := 0) (by omega)) (v := .ref (w.2 (b + 5))) rfl dX2_tell_173 ?_
    refine zr_getN X zfn_RX2_145 (b + 5) (show b + 5 < w.1 by omega) (zPut_in (o := 5) (by omega)) (v := .int (σ 8)) rfl dX2_tell_176 ?_
    exact zret_i E rfl dX2_tell_179 (by simp only [hTell, if_neg h1, if_neg h2, if_neg h3, if_neg h4, if_neg h5, if_neg h6, if_neg h7, if_neg h8, if_neg h9, if_neg h10, if_neg h11, if_pos h12]) rfl
  by_cases h13 : x = 12
  · refine zr_tableIn X (off := 179) (tgt := 180) dX2_tell_1 (by rw [h13]; decide) (by rw [h13]; decide) (by rw [h13]; decide) (by decide) ?_
    refine zr_aload_n X 0 dX2_tell_180 rfl rfl ?_
    refine zr_get X zfd_RX2_33 (b) (show b < w.1 by omega) (zPut_in (o := 0) (by omega)) (v := .ref (w.2 (b + 5))) rfl dX2_tell_181 ?_
    refine zr_getN X zfn_RX2_171 (b + 5) (show b + 5 < w.1 by omega) (zPut_in (o := 5) (by omega)) (v := .int (σ 9)) rfl dX2_tell_184 ?_
    exact zret_i E rfl dX2_tell_187 (by simp only [hTell, if_neg h1, if_neg h2, if_neg h3, if_neg h4, if_neg h5, if_neg h6, if_neg h7, if_neg h8, if_neg h9, if_neg h10, if_neg h11, if_neg h12, if_pos h13]) rfl
  by_cases h14 : x = 13
  · refine zr_tableIn X (off := 187) (tgt := 188) dX2_tell_1 (by rw [h14]; decide) (by rw [h14]; decide) (by rw [h14]; decide) (by decide) ?_
    refine zr_aload_n X 0 dX2_tell_188 rfl rfl ?_
    refine zr_get X zfd_RX2_33 (b) (show b < w.1 by omega) (zPut_in (o := 0) (by omega)) (v := .ref (w.2 (b + 5))) rfl dX2_tell_189 ?_
    refine zr_getN X zfn_RX2_197 (b + 5) (show b + 5 < w.1 by omega) (zPut_in (o := 5) (by omega)) (v := .int (σ 10)) rfl dX2_tell_192 ?_
    exact zret_i E rfl dX2_tell_195 (by simp only [hTell, if_neg h1, if_neg h2, if_neg h3, if_neg h4, if_neg h5, if_neg h6, if_neg h7, if_neg h8, if_neg h9, if_neg h10, if_neg h11, if_neg h12, if_neg h13, if_pos h14]) rfl
  by_cases h15 : x = 14
  · refine zr_tableIn X (off := 195) (tgt := 196) dX2_tell_1 (by rw [h15]; decide) (by rw [h15]; decide) (by rw [h15]; decide) (by decide) ?_
    refine zr_aload_n X 0 dX2_tell_196 rfl rfl ?_
    refine zr_get X zfd_RX2_33 (b) (show b < w.1 by omega) (zPut_in (o := 0) (by omega)) (v := .ref (w.2 (b + 5))) rfl dX2_tell_197 ?_
    refine zr_getN X zfn_RX2_154 (b + 5) (show b + 5 < w.1 by omega) (zPut_in (o := 5) (by omega)) (v := .int (σ 11)) rfl dX2_tell_200 ?_
    exact zret_i E rfl dX2_tell_203 (by simp only [hTell, if_neg h1, if_neg h2, if_neg h3, if_neg h4, if_neg h5, if_neg h6, if_neg h7, if_neg h8, if_neg h9, if_neg h10, if_neg h11, if_neg h12, if_neg h13, if_neg h14, if_pos h15]) rfl
  by_cases h16 : x = 15
  · refine zr_tableIn X (off := 203) (tgt := 204) dX2_tell_1 (by rw [h16]; decide) (by rw [h16]; decide) (by rw [h16]; decide) (by decide) ?_
    refine zr_aload_n X 0 dX2_tell_204 rfl rfl ?_
    refine zr_get X zfd_RX2_33 (b) (show b < w.1 by omega) (zPut_in (o := 0) (by omega)) (v := .ref (w.2 (b + 5))) rfl dX2_tell_205 ?_
    refine zr_getN X zfn_RX2_213 (b + 5) (show b + 5 < w.1 by omega) (zPut_in (o := 5) (by omega)) (v := .int (σ 12)) rfl dX2_tell_208 ?_
    exact zret_i E rfl dX2_tell_211 (by simp only [hTell, if_neg h1, if_neg h2, if_neg h3, if_neg h4, if_neg h5, if_neg h6, if_neg h7, if_neg h8, if_neg h9, if_neg h10, if_neg h11, if_neg h12, if_neg h13, if_neg h14, if_neg h15, if_pos h16]) rfl
  by_cases h17 : x = 16
  · refine zr_tableIn X (off := 211) (tgt := 212) dX2_tell_1 (by rw [h17]; decide) (by rw [h17]; decide) (by rw [h17]; decide) (by decide) ?_
    refine zr_aload_n X 0 dX2_tell_212 rfl rfl ?_
    refine zr_get X zfd_RX2_33 (b) (show b < w.1 by omega) (zPut_in (o := 0) (by omega)) (v := .ref (w.2 (b + 5))) rfl dX2_tell_213 ?_
    refine zr_getN X zfn_RX2_220 (b + 5) (show b + 5 < w.1 by omega) (zPut_in (o := 5) (by omega)) (v := .int (σ 13)) rfl dX2_tell_216 ?_
    exact zret_i E rfl dX2_tell_219 (by simp only [hTell, if_neg h1, if_neg h2, if_neg h3, if_neg h4, if_neg h5, if_neg h6, if_neg h7, if_neg h8, if_neg h9, if_neg h10, if_neg h11, if_neg h12, if_neg h13, if_neg h14, if_neg h15, if_neg h16, if_pos h17]) rfl
  by_cases h18 : x = 17
  · refine zr_tableIn X (off := 219) (tgt := 220) dX2_tell_1 (by rw [h18]; decide) (by rw [h18]; decide) (by rw [h18]; decide) (by decide) ?_
    refine zr_aload_n X 0 dX2_tell_220 rfl rfl ?_
    refine zr_get X zfd_RX2_33 (b) (show b < w.1 by omega) (zPut_in (o := 0) (by omega)) (v := .ref (w.2 (b + 5))) rfl dX2_tell_221 ?_
    refine zr_getN X zfn_RX2_131 (b + 5) (show b + 5 < w.1 by omega) (zPut_in (o := 5) (by omega)) (v := .int (σ 14)) rfl dX2_tell_224 ?_
    exact zret_i E rfl dX2_tell_227 (by simp only [hTell, if_neg h1, if_neg h2, if_neg h3, if_neg h4, if_neg h5, if_neg h6, if_neg h7, if_neg h8, if_neg h9, if_neg h10, if_neg h11, if_neg h12, if_neg h13, if_neg h14, if_neg h15, if_neg h16, if_neg h17, if_pos h18]) rfl
  refine zr_tableOut X (tgt := 228) dX2_tell_1 (by have e0 := lv_neT h1 (show (0 : Int32).toInt = 0 from by decide); have e1 := lv_neT h2 (show (1 : Int32).toInt = 1 from by decide); have e2 := lv_neT h3 (show (2 : Int32).toInt = 2 from by decide); have e3 := lv_neT h4 (show (3 : Int32).toInt = 3 from by decide); have e4 := lv_neT h5 (show (4 : Int32).toInt = 4 from by decide); have e5 := lv_neT h6 (show (5 : Int32).toInt = 5 from by decide); have e6 := lv_neT h7 (show (6 : Int32).toInt = 6 from by decide); have e7 := lv_neT h8 (show (7 : Int32).toInt = 7 from by decide); have e8 := lv_neT h9 (show (8 : Int32).toInt = 8 from by decide); have e9 := lv_neT h10 (show (9 : Int32).toInt = 9 from by decide); have e10 := lv_neT h11 (show (10 : Int32).toInt = 10 from by decide); have e11 := lv_neT h12 (show (11 : Int32).toInt = 11 from by decide); have e12 := lv_neT h13 (show (12 : Int32).toInt = 12 from by decide); have e13 := lv_neT h14 (show (13 : Int32).toInt = 13 from by decide); have e14 := lv_neT h15 (show (14 : Int32).toInt = 14 from by decide); have e15 := lv_neT h16 (show (15 : Int32).toInt = 15 from by decide); have e16 := lv_neT h17 (show (16 : Int32).toInt = 16 from by decide); have e17 := lv_neT h18 (show (17 : Int32).toInt = 17 from by decide); omega) (by decide) ?_
  refine zr_iload_n X 1 dX2_tell_228 rfl rfl ?_
  refine zr_bipush X (v := 20) dX2_tell_229 (by decide) ?_
  refine zr_bipush X (v := 23) dX2_tell_231 (by decide) ?_
  refine zr_cSN X (As := [.int (x), .int (20), .int (23)]) (rest := []) (f' := zPut f b (zHut w cy b γ σ)) (st' := [.int (zwin x 20 23)]) zc_X8_isWithin k_isWithin ⟨Nat.le_of_ble_eq_true rfl, Nat.le_of_ble_eq_true rfl⟩ ⟨Nat.le_refl _, Nat.le_refl _⟩ rfl (Nat.le_of_ble_eq_true rfl) (List.mem_of_getElem? (i := 37) rfl) rfl dX2_tell_233 rfl ?_
  refine zr_if_eq X (tgt := 253) dX2_tell_236 (by decide) (fun h19 => ?_) (fun h20 => ?_)
  · refine zr_ldc X zm_2_54 dX2_tell_253 ?_
    exact zret_i E rfl dX2_tell_255 (by simp only [hTell, if_neg h1, if_neg h2, if_neg h3, if_neg h4, if_neg h5, if_neg h6, if_neg h7, if_neg h8, if_neg h9, if_neg h10, if_neg h11, if_neg h12, if_neg h13, if_neg h14, if_neg h15, if_neg h16, if_neg h17, if_neg h18, if_pos h19]) rfl
  · refine zr_aload_n X 0 dX2_tell_239 rfl rfl ?_
    refine zr_get X zfd_RX2_40 (b) (show b < w.1 by omega) (zPut_in (o := 0) (by omega)) (v := .ref (w.2 (b + 6))) rfl dX2_tell_240 ?_
    refine zr_iload_n X 1 dX2_tell_243 rfl rfl ?_
    refine zr_bipush X (v := 20) dX2_tell_244 (by decide) ?_
    refine zr_isub X dX2_tell_246 ?_
    refine zr_cV X (As := [.int (x - 20)]) (rest := []) (f' := zPut f b (zHut w cy b γ σ)) (st' := [.int (sTell (fun i9 => σ (15 + i9)) (x - 20))]) zc_X6_tell (b + 6) (show b + 6 < w.1 by omega) (zPut_in (o := 6) (by omega)) (q9 := _) rfl rfl (k_Sett_tell (show b + 6 < w.1 by omega) (zPut_in (o := 6) (by omega))) ⟨Nat.le_of_ble_eq_true rfl, Nat.le_of_ble_eq_true rfl⟩ ⟨Nat.le_refl _, Nat.le_refl _⟩ rfl (Nat.le_of_ble_eq_true rfl) zm_2_49 rfl dX2_tell_247 rfl ?_
    refine zr_goto X (tgt := 255) dX2_tell_250 (by decide) ?_
    exact zret_i E rfl dX2_tell_255 (by simp only [hTell, if_neg h1, if_neg h2, if_neg h3, if_neg h4, if_neg h5, if_neg h6, if_neg h7, if_neg h8, if_neg h9, if_neg h10, if_neg h11, if_neg h12, if_neg h13, if_neg h14, if_neg h15, if_neg h16, if_neg h17, if_neg h18, if_neg h20]) rfl
def hD0 (σ : Nat → Int32) : Nat → Int32 := upd σ 4 (σ 4 * 421 + 1663 - (σ 4 * 421 + 1663) / 10000 * 10000)
def hSnow (σ : Nat → Int32) : Int32 := if ((hD0 σ) 18) ≤ (((hD0 σ) 4) - ((hD0 σ) 4) / 100 * 100) then 0 else 1
def hD1 (σ : Nat → Int32) : Nat → Int32 := if (hSnow σ) = 0 then hD0 σ else upd (hD0 σ) 11 (hD0 σ 11 + 1)
def hMulS (z : Int32) (k : Nat) (s : Nat → Int32) : Nat → Int32 := if ((mComeOn (fun i9 => s (19 + 9 * k + i9)) z).2) = 0 then setR s (19 + 9 * k) 9 (mComeOn (fun i9 => s (19 + 9 * k + i9)) z).1 else hUnload k (setR s (19 + 9 * k) 9 (mComeOn (fun i9 => s (19 + 9 * k + i9)) z).1)
def hMul (σ : Nat → Int32) (n : Nat) : Nat → Int32 := zfold (hMulS (hSnow σ)) (hD1 σ) n
theorem hMul_s {σ : Nat → Int32} {n : Nat} : hMul σ (n + 1) = hMulS (hSnow σ) n (hMul σ n) := rfl
theorem hUnload_lo {k i : Nat} {σ : Nat → Int32} (h : i < 5) : hUnload k σ i = σ i := by
  unfold hUnload
  split
  · rw [upd_ne (by omega)]
    unfold hUn2
    rw [setA_lo (by omega)]
    exact setR_out (by omega)
  · rw [upd_ne (by omega)]
    exact setR_out (by omega)
theorem hD1_lo {σ : Nat → Int32} {i : Nat} (h : i < 4) : hD1 σ i = σ i := by
  unfold hD1
  split
  · exact upd_ne (by omega)
  · rw [upd_ne (by omega)]
    exact upd_ne (by omega)
theorem hMulS_lo {z : Int32} {k i : Nat} {s : Nat → Int32} (h : i < 5) : hMulS z k s i = s i := by
  unfold hMulS
  split
  · exact setR_out (by omega)
  · rw [hUnload_lo h]
    exact setR_out (by omega)
theorem hMul_lo {σ : Nat → Int32} {i : Nat} (h : i < 4) : ∀ n, hMul σ n i = σ i
  | 0 => by
    unfold hMul zfold
    exact hD1_lo h
  | n + 1 => by rw [hMul_s, hMulS_lo (by omega), hMul_lo h n]
def hFdS (γ : Nat → Nat) (k : Nat) (s : Nat → Int32) : Nat → Int32 := if (gThere (fun i9 => s (55 + 6 * (γ k) + i9)) (s 3)) = 0 then s else hFeed s (γ k)
def hFd (γ : Nat → Nat) (mc : Nat) (σ : Nat → Int32) (n : Nat) : Nat → Int32 := zfold (hFdS γ) (hMul σ mc) n
theorem hFd_s {γ : Nat → Nat} {mc : Nat} {σ : Nat → Int32} {n : Nat} : hFd γ mc σ (n + 1) = hFdS γ n (hFd γ mc σ n) := rfl
theorem hFeed_lo {j i : Nat} {σ : Nat → Int32} (h : i < 5) : hFeed σ j i = σ i := by
  have e3 : hFs3 σ j i = σ i := by
    unfold hFs3 hFs2 hFs1
    rw [upd_ne (by omega), setA_lo (by omega), setA_lo (by omega)]
  unfold hFeed
  split
  · unfold hFpay
    rw [upd_ne (by omega), upd_ne (by omega), upd_ne (by omega), e3]
  · unfold hFpay hFs4
    rw [upd_ne (by omega), upd_ne (by omega), upd_ne (by omega), upd_ne (by omega), upd_ne (by omega), e3]
theorem hFd_lo {γ : Nat → Nat} {mc : Nat} {σ : Nat → Int32} {i : Nat} (h : i < 4) : ∀ n, hFd γ mc σ n i = σ i
  | 0 => by
    unfold hFd zfold
    exact hMul_lo h mc
  | n + 1 => by
    rw [hFd_s]
    unfold hFdS
    split
    · exact hFd_lo h n
    · rw [hFeed_lo (by omega), hFd_lo h n]
def hGr (γ : Nat → Nat) (mc bk : Nat) (σ : Nat → Int32) : (Nat → Int32) × Int32 := shGrow (fun k9 => hFd γ mc σ bk (115 + k9)) 21
def hE1 (γ : Nat → Nat) (mc bk : Nat) (σ : Nat → Int32) : Nat → Int32 := setA (hFd γ mc σ bk) (hGr γ mc bk σ).1
def hE2 (γ : Nat → Nat) (mc bk : Nat) (σ : Nat → Int32) : Nat → Int32 := upd (hE1 γ mc bk σ) 9 (hFd γ mc σ bk 9 + (hGr γ mc bk σ).2)
def hE3 (γ : Nat → Nat) (mc bk : Nat) (σ : Nat → Int32) : Nat → Int32 := upd (hE2 γ mc bk σ) 3 (hE2 γ mc bk σ 3 + 1)
theorem hE3_lo {γ : Nat → Nat} {mc bk : Nat} {σ : Nat → Int32} {i : Nat} (h : i < 3) : hE3 γ mc bk σ i = σ i := by
  unfold hE3 hE2 hE1
  rw [upd_ne (by omega), upd_ne (by omega), setA_lo (by omega)]
  exact hFd_lo (by omega) bk
abbrev zGS : Type := (Nat → Nat) × (Nat → Int32)
def hGoneS (k : Nat) (s : zGS) : zGS := if (gGone (fun i9 => s.2 (55 + 6 * (s.1 k) + i9)) (s.2 3)) = 0 then s else (gRem s.1 (nI k) 9, upd s.2 1 (s.2 1 - 1))
def hGone : Nat → zGS → zGS
  | 0, s => s
  | n + 1, s => hGone n (hGoneS n s)
def hDayB (mc bk : Nat) (s : zGS) : zGS := hGone bk (s.1, hE3 s.1 mc bk s.2)
theorem hGone_s {n : Nat} {s : zGS} : hGone (n + 1) s = hGone n (hGoneS n s) := rfl
theorem hGone_ok {mc : Nat} : ∀ (n cb : Nat) (s : zGS), (∀ k, k < 10 → s.1 k < 10) → s.2 0 = nI mc → s.2 1 = nI cb → n ≤ cb → cb ≤ 10 → (∀ k, k < 10 → (hGone n s).1 k < 10) ∧ (hGone n s).2 0 = nI mc ∧ ∃ c, c ≤ cb ∧ (hGone n s).2 1 = nI c
  | 0, cb, s, h1, h2, h3, _, _ => ⟨h1, h2, cb, Nat.le_refl _, h3⟩
  | n + 1, cb, s, h1, h2, h3, h4, h5 => by
    rw [hGone_s]
    unfold hGoneS
    split
    · exact hGone_ok n cb s h1 h2 h3 (by omega) h5
    · obtain ⟨a, b, c, d, e⟩ := hGone_ok n (cb - 1) (gRem s.1 (nI n) 9, upd s.2 1 (s.2 1 - 1)) (gRem_lt h1 9 (Nat.le_refl _)) (show upd s.2 1 (s.2 1 - 1) 0 = nI mc from (upd_ne (show 0 ≠ 1 by decide)).trans h2) (by
        show upd s.2 1 (s.2 1 - 1) 1 = _
        rw [upd_eq, h3, show cb = (cb - 1) + 1 by omega]
        exact nI_pred _) (by omega) (by omega)
      exact ⟨a, b, c, by omega, e⟩
theorem hDayB_ok {mc bk : Nat} {s : zGS} (h1 : ∀ k, k < 10 → s.1 k < 10) (h2 : s.2 0 = nI mc) (h3 : s.2 1 = nI bk) (h4 : bk ≤ 10) : (∀ k, k < 10 → (hDayB mc bk s).1 k < 10) ∧ (hDayB mc bk s).2 0 = nI mc ∧ ∃ c, c ≤ bk ∧ (hDayB mc bk s).2 1 = nI c :=
  hGone_ok bk bk (s.1, hE3 s.1 mc bk s.2) h1 ((hE3_lo (by decide)).trans h2) ((hE3_lo (by decide)).trans h3) (Nat.le_refl _) h4
