set_option maxHeartbeats 4000000 in
set_option maxRecDepth 100000 in
theorem law_entry {l : Launch} {D : va_G} {cy : Nat → ClassId} {b L : Nat} {xs : Nat → Int32} {nm : String} {G : zJ} (Z : zLw l D cy b L xs nm G) (hL2 : L ≤ 2048) (w0 : zW) (hw0 : w0.1 = 0) (f0 : zF) : G (w0, 0, 0) f0 [(0, .ref b)] 0 [] := by
  have X := Z.1
  refine zr_new X (ci := 8) (fs := [.null, .null, .null, .null]) rfl zin_X8 tyX8_ok zm_1_13 zm_1_14 zm_1_1 (fun j hj => by match j, hj with | 0, _ => rfl | 1, _ => rfl | 2, _ => rfl | 3, _ => rfl) (Nat.le_of_ble_eq_true rfl) (Nat.le_of_ble_eq_true rfl) dL_law_0 (fun w1 hw1 gw1 => ?_)
  have nw1 : w1.1 = 1 := by have q : w1.1 = w0.1 + 1 := hw1; omega
  show G (w1, 1, 4) (va_up f0 w0.1 (.inr (8, [.null, .null, .null, .null]))) [(0, .ref b)] 3 [.ref (w1.2 w0.1)]
  rw [hw0]
  refine zr_dup X dL_law_3 rfl ?_
  refine zr_callI X (As := []) (rest := [.ref (w1.2 0)]) 0 (k_HutLoaves_init nw1 (va_up_self _ _ _)) zc_X8_init.2.2.2.2 zc_X8_init.1 zc_X8_init.2.1 ⟨Nat.le_of_ble_eq_true rfl, Nat.le_of_ble_eq_true rfl, Nat.le_of_ble_eq_true rfl, Nat.le_of_ble_eq_true rfl⟩ rfl (Nat.le_of_ble_eq_true rfl) zm_1_15 rfl zc_X8_init.2.2.1 rfl dL_law_4 (fun r9 u1 f9 hp => ?_)
  obtain ⟨rfl, hu1, gu1, rfl⟩ := hp
  have nu1 : u1.1 = 132 := by have q : u1.1 = w1.1 + 131 := hu1; omega
  have au1 : u1.2 0 = w1.2 0 := gu1 0 (by show 0 < w1.1; omega)
  show G (u1, 132, 1016) (cW4 u1 cy (va_up f0 0 (.inr (8, [.null, .null, .null, .null])))) [(0, .ref b)] 7 [.ref (w1.2 0)]
  rw [← au1]
  refine zr_astore_n X (ls' := [(1, .ref (u1.2 0)), (0, .ref b)]) dL_law_7 rfl (by decide) rfl ?_
  refine zr_new X (ci := 9) (fs := [.null, .null, .null, .null, .int 0, .int 0, .null, .int 0, .int 0, .int 0, .int 0, .int 0, .int 0, .int 0, .null]) rfl zin_X9 tyX9_ok zm_3_171 zm_3_172 zm_1_10 (fun j hj => by match j, hj with | 0, _ => rfl | 1, _ => rfl | 2, _ => rfl | 3, _ => rfl | 4, _ => rfl | 5, _ => rfl | 6, _ => rfl | 7, _ => rfl | 8, _ => rfl | 9, _ => rfl | 10, _ => rfl | 11, _ => rfl | 12, _ => rfl | 13, _ => rfl | 14, _ => rfl) (Nat.le_of_ble_eq_true rfl) (Nat.le_of_ble_eq_true rfl) dL_law_8 (fun w2 hw2 gw2 => ?_)
  have nw2 : w2.1 = 132 + 1 := by have q : w2.1 = u1.1 + 1 := hw2; omega
  have aw2 : ∀ i, i < 132 → w2.2 i = u1.2 i := fun i h => gw2 i (by show i < u1.1; omega)
  show G (w2, 133, 1031) (va_up (cW4 u1 cy (va_up f0 0 (.inr (8, [.null, .null, .null, .null])))) u1.1 (.inr (9, [.null, .null, .null, .null, .int 0, .int 0, .null, .int 0, .int 0, .int 0, .int 0, .int 0, .int 0, .int 0, .null]))) [(1, .ref (u1.2 0)), (0, .ref b)] 11 [.ref (w2.2 u1.1)]
  rw [nu1]
  refine zr_dup X dL_law_11 rfl ?_
  refine zr_callI X (As := []) (rest := [.ref (w2.2 132)]) 132 (k_Model_init (t := 132) nw2 (va_up_self _ _ _)) zc_X9_init.2.2.2.2 zc_X9_init.1 zc_X9_init.2.1 ⟨Nat.le_of_ble_eq_true rfl, Nat.le_of_ble_eq_true rfl, Nat.le_of_ble_eq_true rfl, Nat.le_of_ble_eq_true rfl⟩ rfl (Nat.le_of_ble_eq_true rfl) zm_3_173 rfl zc_X9_init.2.2.1 rfl dL_law_12 (fun r9 u2 f9 hp => ?_)
  obtain ⟨rfl, hu2, gu2, rfl⟩ := hp
  have nu2 : u2.1 = 139 := by have q : u2.1 = w2.1 + 6 := hu2; omega
  have au2 : ∀ i, i < 133 → u2.2 i = w2.2 i := fun i h => gu2 i (by show i < w2.1; omega)
  show G (u2, 139, 2046) (va_up (va_up (va_up (va_up (va_up (va_up (va_up (va_up (cW4 u1 cy (va_up f0 0 (.inr (8, [.null, .null, .null, .null])))) 132 (.inr (9, [.null, .null, .null, .null, .int 0, .int 0, .null, .int 0, .int 0, .int 0, .int 0, .int 0, .int 0, .int 0, .null]))) (132 + 2) (eInts cy 544 (fun _ => 0))) (132 + 3) (eInts cy 136 (fun _ => 0))) (132 + 4) (eInts cy 136 (fun _ => 0))) (132 + 5) (eInts cy 60 (fun _ => 0))) (132 + 6) (eInts cy 3 (fun _ => 0))) (132 + 1) (eInts cy 136 (upd (upd (upd (upd (upd (fun _ => 0) 4 1) 15 2) 16 100) 17 3) 18 10))) 132 (.inr (9, [.ref (u2.2 (132 + 1)), .ref (u2.2 (132 + 2)), .ref (u2.2 (132 + 3)), .ref (u2.2 (132 + 4)), .int 0, .int 0, .ref (u2.2 (132 + 5)), .int 0, .int 0, .int 0, .int 0, .int 0, .int 0, .int 0, .ref (u2.2 (132 + 6))]))) [(1, .ref (u1.2 0)), (0, .ref b)] 15 [.ref (w2.2 132)]
  rw [← aw2 0 (by decide), ← au2 0 (by decide), ← au2 132 (by decide)]
  refine zr_astore_n X (ls' := [(2, .ref (u2.2 132)), (1, .ref (u2.2 0)), (0, .ref b)]) dL_law_15 rfl (by decide) rfl ?_
  refine zr_iconst X (v := 0) dL_law_16 (by decide) ?_
  refine zr_istore_n X (ls' := [(3, .int 0), (2, .ref (u2.2 132)), (1, .ref (u2.2 0)), (0, .ref b)]) dL_law_17 rfl (by decide) rfl ?_
  refine zworld_ext X (f2 := (va_up (va_up (va_up (va_up (va_up (va_up (va_up (va_up (cW4 u2 cy (va_up f0 0 (.inr (8, [.null, .null, .null, .null])))) 132 (.inr (9, [.null, .null, .null, .null, .int 0, .int 0, .null, .int 0, .int 0, .int 0, .int 0, .int 0, .int 0, .int 0, .null]))) (132 + 2) (eInts cy 544 (fun _ => 0))) (132 + 3) (eInts cy 136 (fun _ => 0))) (132 + 4) (eInts cy 136 (fun _ => 0))) (132 + 5) (eInts cy 60 (fun _ => 0))) (132 + 6) (eInts cy 3 (fun _ => 0))) (132 + 1) (eInts cy 136 (upd (upd (upd (upd (upd (fun _ => 0) 4 1) 15 2) 16 100) 17 3) 18 10))) 132 (.inr (9, [.ref (u2.2 (132 + 1)), .ref (u2.2 (132 + 2)), .ref (u2.2 (132 + 3)), .ref (u2.2 (132 + 4)), .int 0, .int 0, .ref (u2.2 (132 + 5)), .int 0, .int 0, .int 0, .int 0, .int 0, .int 0, .int 0, .ref (u2.2 (132 + 6))])))) (fun t _ => zsim_up2 (.inl rfl) (zsim_up2 (.inl rfl) (zsim_up2 (.inl rfl) (zsim_up2 (.inl rfl) (zsim_up2 (.inl rfl) (zsim_up2 (.inl rfl) (zsim_up2 (.inl rfl) (zsim_up2 (.inl rfl) (cW4_sim (fun i hi => (au2 i (by omega)).trans (aw2 i hi)))))))))) t) ?_
  refine zr_loc X (ls' := [(0, .ref b), (1, .ref (u2.2 0)), (2, .ref (u2.2 132)), (3, .int (nI (4 * 0)))]) [3, 2, 1, 0] rfl ?_
  refine law_loop Z nu2 (Nat.le_of_ble_eq_true rfl) (Nat.le_of_ble_eq_true rfl) hL2 (L + 1) 0 _ (by omega) (by omega) ?_
  refine LI_start (f := va_up f0 0 (.inr (8, [.null, .null, .null, .null]))) (s := upd (upd (upd (upd (upd (fun _ => 0) 4 1) 15 2) 16 100) 17 3) 18 10) (fun t ht => ?_) s0_ini ?_ ?_ ?_ ?_ ?_ ?_ ?_
  · rw [va_up_ne _ _ (by omega), va_up_ne _ _ (by omega), va_up_ne _ _ (by omega), va_up_ne _ _ (by omega), va_up_ne _ _ (by omega), va_up_ne _ _ (by omega), va_up_ne _ _ (by omega), va_up_ne _ _ (by omega)]
  · exact va_up_self _ _ _
  · rw [va_up_ne _ _ (by decide)]
    exact va_up_self _ _ _
  · rw [va_up_ne _ _ (by decide), va_up_ne _ _ (by decide), va_up_ne _ _ (by decide), va_up_ne _ _ (by decide), va_up_ne _ _ (by decide), va_up_ne _ _ (by decide)]
    exact va_up_self _ _ _
  · rw [va_up_ne _ _ (by decide), va_up_ne _ _ (by decide), va_up_ne _ _ (by decide), va_up_ne _ _ (by decide), va_up_ne _ _ (by decide)]
    exact va_up_self _ _ _
  · rw [va_up_ne _ _ (by decide), va_up_ne _ _ (by decide), va_up_ne _ _ (by decide), va_up_ne _ _ (by decide)]
    exact va_up_self _ _ _
  · rw [va_up_ne _ _ (by decide), va_up_ne _ _ (by decide), va_up_ne _ _ (by decide)]
    exact va_up_self _ _ _
  · rw [va_up_ne _ _ (by decide), va_up_ne _ _ (by decide)]
    exact va_up_self _ _ _
