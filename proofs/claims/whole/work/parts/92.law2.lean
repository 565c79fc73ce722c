theorem law_out {j L : Nat} (h : L < 4 * j + 4) (hL : L ≤ 2048) (hj : 4 * j ≤ L) : Int32.ofNat L - 4 < nI (4 * j) := by
  have a : (Int32.ofNat L).toInt = (L : Int) := tnI (by omega)
  have c := tk4
  have d := tnI (n := 4 * j) (by omega)
  apply tlt.mpr
  rw [tsub (by omega) (by omega), d, a, c]
  omega
set_option maxHeartbeats 4000000 in
set_option maxRecDepth 100000 in
theorem law_loop {l : Launch} {D : va_G} {cy : Nat → ClassId} {w : zW} {b L : Nat} {xs : Nat → Int32} {nm : String} {G : zJ} {c9 l9 : Nat} (Z : zLw l D cy b L xs nm G) (hw : w.1 = 139) (hc : c9 ≤ 600000) (hs : l9 ≤ 7302249) (hL2 : L ≤ 2048) : ∀ (m j : Nat) (f : zF), L < 4 * (j + m) + 4 → 4 * j ≤ L → LI w cy f (60 * (j : Int)) → G (w, c9, l9) f [(0, .ref b), (1, .ref (w.2 0)), (2, .ref (w.2 132)), (3, .int (nI (4 * j)))] 18 [] := by
  have X := Z.1
  intro m
  induction m with
  | zero =>
    intro j f hm hj hI
    refine zr_iload_n X 3 dL_law_18 rfl rfl ?_
    refine zr_aload_n X 0 dL_law_19 rfl rfl ?_
    refine Z.2.2.1 _ _ _ _ _ dL_law_20 ?_
    refine zr_iconst X (v := 4) dL_law_21 (by decide) ?_
    refine zr_isub X dL_law_22 ?_
    refine zr_icmp_gt X (tgt := 742) dL_law_23 (by decide) (fun h => ?_) (fun h => ?_)
    · refine zr_iconst X (v := 1) dL_law_742 (by decide) ?_
      exact Z.2.2.2 _ _ _ _ hc hs dL_law_743
    · exact absurd (law_out (by omega) hL2 hj) h
  | succ m ih =>
    intro j f hm hj hI
    refine zr_iload_n X 3 dL_law_18 rfl rfl ?_
    refine zr_aload_n X 0 dL_law_19 rfl rfl ?_
    refine Z.2.2.1 _ _ _ _ _ dL_law_20 ?_
    refine zr_iconst X (v := 4) dL_law_21 (by decide) ?_
    refine zr_isub X dL_law_22 ?_
    refine zr_icmp_gt X (tgt := 742) dL_law_23 (by decide) (fun h => ?_) (fun h => ?_)
    · refine zr_iconst X (v := 1) dL_law_742 (by decide) ?_
      exact Z.2.2.2 _ _ _ _ hc hs dL_law_743
    · have hj4 : 4 * j + 4 ≤ L := by
        rcases Nat.lt_or_ge L (4 * j + 4) with q | q
        · exact absurd (law_out q hL2 hj) h
        · exact q
      have next : ∀ g : zF, LI w cy g (60 * (j : Int) + 60) → G (w, c9, l9) g [(0, .ref b), (1, .ref (w.2 0)), (2, .ref (w.2 132)), (3, .int (nI (4 * j)))] 736 [] := by
        intro g hg
        refine zr_iinc X (v := nI (4 * (j + 1))) (ls' := [(3, .int (nI (4 * (j + 1)))), (0, .ref b), (1, .ref (w.2 0)), (2, .ref (w.2 132))]) 3 dL_law_736 rfl (nI_add (4 * j) 4) (by decide) rfl ?_
        refine zr_goto X (tgt := 18) dL_law_739 (by decide) ?_
        refine zr_loc X (ls' := [(0, .ref b), (1, .ref (w.2 0)), (2, .ref (w.2 132)), (3, .int (nI (4 * (j + 1))))]) [1, 2, 3, 0] rfl ?_
        exact ih (j + 1) g (by omega) (by omega) (LI_mono hg (by omega))
      have hB : 60 * (j : Int) ≤ 1000000000 := by omega
      refine zr_aload_n X 0 dL_law_26 rfl rfl ?_
      refine zr_iload_n X 3 dL_law_27 rfl rfl ?_
      refine Z.2.1 _ _ _ _ _ _ (vp_in_nI (show 4 * j < L by omega) (by omega)) dL_law_28 ?_
      refine zr_bipush X (v := 31) dL_law_29 (by decide) ?_
      refine zr_iand X dL_law_31 ?_
      generalize (xs (nI (4 * j)).toNatClampNeg) &&& 31 = y
      by_cases x0 : y = 0
      · refine zr_tableIn X (off := 112) (tgt := 144) dL_law_32 (by rw [x0]; decide) (by rw [x0]; decide) (by rw [x0]; rfl) (by decide) ?_
        exact law_mule Z hw hc hs hL2 hj4 hI hB next
      by_cases x1 : y = 1
      · refine zr_tableIn X (off := 145) (tgt := 177) dL_law_32 (by rw [x1]; decide) (by rw [x1]; decide) (by rw [x1]; rfl) (by decide) ?_
        exact law_send Z hw hc hs hL2 hj4 hI hB next
      by_cases x2 : y = 2
      · refine zr_tableIn X (off := 178) (tgt := 210) dL_law_32 (by rw [x2]; decide) (by rw [x2]; decide) (by rw [x2]; rfl) (by decide) ?_
        exact law_rest Z hw hc hs hL2 hj4 hI hB next
      by_cases x3 : y = 3
      · refine zr_tableIn X (off := 201) (tgt := 233) dL_law_32 (by rw [x3]; decide) (by rw [x3]; decide) (by rw [x3]; rfl) (by decide) ?_
        exact law_pay Z hw hc hs hL2 hj4 hI hB next
      by_cases x4 : y = 4
      · refine zr_tableIn X (off := 224) (tgt := 256) dL_law_32 (by rw [x4]; decide) (by rw [x4]; decide) (by rw [x4]; rfl) (by decide) ?_
        exact law_group Z hw hc hs hL2 hj4 hI hB next
      by_cases x5 : y = 5
      · refine zr_tableIn X (off := 267) (tgt := 299) dL_law_32 (by rw [x5]; decide) (by rw [x5]; decide) (by rw [x5]; rfl) (by decide) ?_
        exact law_off Z hw hc hs hL2 hj4 hI hB next
      by_cases x6 : y = 6
      · refine zr_tableIn X (off := 290) (tgt := 322) dL_law_32 (by rw [x6]; decide) (by rw [x6]; decide) (by rw [x6]; rfl) (by decide) ?_
        exact law_end Z hw hc hs hL2 hj4 hI hB next
      by_cases x7 : y = 7
      · refine zr_tableIn X (off := 313) (tgt := 345) dL_law_32 (by rw [x7]; decide) (by rw [x7]; decide) (by rw [x7]; rfl) (by decide) ?_
        exact law_set Z hw hc hs hL2 hj4 hI hB next
      by_cases x8 : y = 8
      · refine zr_tableIn X (off := 346) (tgt := 378) dL_law_32 (by rw [x8]; decide) (by rw [x8]; decide) (by rw [x8]; rfl) (by decide) ?_
        exact law_muleOf Z hw hc hs hL2 hj4 hI hB next
      by_cases x9 : y = 9
      · refine zr_tableIn X (off := 379) (tgt := 411) dL_law_32 (by rw [x9]; decide) (by rw [x9]; decide) (by rw [x9]; rfl) (by decide) ?_
        exact law_groupOf Z hw hc hs hL2 hj4 hI hB next
      by_cases x10 : y = 10
      · refine zr_tableIn X (off := 412) (tgt := 444) dL_law_32 (by rw [x10]; decide) (by rw [x10]; decide) (by rw [x10]; rfl) (by decide) ?_
        exact law_number Z hw hc hs hL2 hj4 hI hB next
      by_cases x11 : y = 11
      · refine zr_tableIn X (off := 435) (tgt := 467) dL_law_32 (by rw [x11]; decide) (by rw [x11]; decide) (by rw [x11]; rfl) (by decide) ?_
        exact law_loaves Z hw hc hs hL2 hj4 hI hB next
      by_cases x12 : y = 12
      · refine zr_tableIn X (off := 458) (tgt := 490) dL_law_32 (by rw [x12]; decide) (by rw [x12]; decide) (by rw [x12]; rfl) (by decide) ?_
        exact law_why Z hw hc hs hL2 hj4 hI hB next
      by_cases x13 : y = 13
      · refine zr_tableIn X (off := 491) (tgt := 523) dL_law_32 (by rw [x13]; decide) (by rw [x13]; decide) (by rw [x13]; rfl) (by decide) ?_
        exact law_wanted Z hw hc hs hL2 hj4 hI hB next
      by_cases x14 : y = 14
      · refine zr_tableIn X (off := 514) (tgt := 546) dL_law_32 (by rw [x14]; decide) (by rw [x14]; decide) (by rw [x14]; rfl) (by decide) ?_
        exact law_hungry Z hw hc hs hL2 hj4 hI hB next
      by_cases x15 : y = 15
      · refine zr_tableIn X (off := 527) (tgt := 559) dL_law_32 (by rw [x15]; decide) (by rw [x15]; decide) (by rw [x15]; rfl) (by decide) ?_
        exact law_next Z hw hc hs hL2 hj4 hI hB next
      by_cases x16 : y = 16
      · refine zr_tableIn X (off := 550) (tgt := 582) dL_law_32 (by rw [x16]; decide) (by rw [x16]; decide) (by rw [x16]; rfl) (by decide) ?_
        exact law_would Z hw hc hs hL2 hj4 hI hB next
      by_cases x17 : y = 17
      · refine zr_tableIn X (off := 583) (tgt := 615) dL_law_32 (by rw [x17]; decide) (by rw [x17]; decide) (by rw [x17]; rfl) (by decide) ?_
        exact law_mean Z hw hc hs hL2 hj4 hI hB next
      by_cases x18 : y = 18
      · refine zr_tableIn X (off := 596) (tgt := 628) dL_law_32 (by rw [x18]; decide) (by rw [x18]; decide) (by rw [x18]; rfl) (by decide) ?_
        exact law_count Z hw hc hs hL2 hj4 hI hB next
      by_cases x19 : y = 19
      · refine zr_tableIn X (off := 619) (tgt := 651) dL_law_32 (by rw [x19]; decide) (by rw [x19]; decide) (by rw [x19]; rfl) (by decide) ?_
        exact law_undo Z hw hc hs hL2 hj4 hI hB next
      by_cases x20 : y = 20
      · refine zr_tableIn X (off := 632) (tgt := 664) dL_law_32 (by rw [x20]; decide) (by rw [x20]; decide) (by rw [x20]; rfl) (by decide) ?_
        exact law_type Z hw hc hs hL2 hj4 hI hB next
      by_cases x21 : y = 21
      · refine zr_tableIn X (off := 655) (tgt := 687) dL_law_32 (by rw [x21]; decide) (by rw [x21]; decide) (by rw [x21]; rfl) (by decide) ?_
        exact law_clearText Z hw hc hs hL2 hj4 hI hB next
      by_cases x22 : y = 22
      · refine zr_tableIn X (off := 668) (tgt := 700) dL_law_32 (by rw [x22]; decide) (by rw [x22]; decide) (by rw [x22]; rfl) (by decide) ?_
        exact law_fault Z hw hc hs hL2 hj4 hI hB next
      by_cases x23 : y = 23
      · refine zr_tableIn X (off := 691) (tgt := 723) dL_law_32 (by rw [x23]; decide) (by rw [x23]; decide) (by rw [x23]; rfl) (by decide) ?_
        exact law_play Z hw hc hs hL2 hj4 hI hB next
      refine zr_tableOut X (tgt := 736) dL_law_32 (by
        have e0 := lv_neT x0 (show (0 : Int32).toInt = 0 from by decide)
        have e1 := lv_neT x1 (show (1 : Int32).toInt = 1 from by decide)
        have e2 := lv_neT x2 (show (2 : Int32).toInt = 2 from by decide)
        have e3 := lv_neT x3 (show (3 : Int32).toInt = 3 from by decide)
        have e4 := lv_neT x4 (show (4 : Int32).toInt = 4 from by decide)
        have e5 := lv_neT x5 (show (5 : Int32).toInt = 5 from by decide)
        have e6 := lv_neT x6 (show (6 : Int32).toInt = 6 from by decide)
        have e7 := lv_neT x7 (show (7 : Int32).toInt = 7 from by decide)
        have e8 := lv_neT x8 (show (8 : Int32).toInt = 8 from by decide)
        have e9 := lv_neT x9 (show (9 : Int32).toInt = 9 from by decide)
        have e10 := lv_neT x10 (show (10 : Int32).toInt = 10 from by decide)
        have e11 := lv_neT x11 (show (11 : Int32).toInt = 11 from by decide)
        have e12 := lv_neT x12 (show (12 : Int32).toInt = 12 from by decide)
        have e13 := lv_neT x13 (show (13 : Int32).toInt = 13 from by decide)
        have e14 := lv_neT x14 (show (14 : Int32).toInt = 14 from by decide)
        have e15 := lv_neT x15 (show (15 : Int32).toInt = 15 from by decide)
        have e16 := lv_neT x16 (show (16 : Int32).toInt = 16 from by decide)
        have e17 := lv_neT x17 (show (17 : Int32).toInt = 17 from by decide)
        have e18 := lv_neT x18 (show (18 : Int32).toInt = 18 from by decide)
        have e19 := lv_neT x19 (show (19 : Int32).toInt = 19 from by decide)
        have e20 := lv_neT x20 (show (20 : Int32).toInt = 20 from by decide)
        have e21 := lv_neT x21 (show (21 : Int32).toInt = 21 from by decide)
        have e22 := lv_neT x22 (show (22 : Int32).toInt = 22 from by decide)
        have e23 := lv_neT x23 (show (23 : Int32).toInt = 23 from by decide)
        omega) (by decide) ?_
      exact next f (LI_mono hI (by omega))
