theorem zrow_s {B : Nat → Nat} {n : Nat} : va_up (fun k => if k < n then some (B k) else none) n (some (B n)) = (fun k => if k < n + 1 then some (B k) else none) := by
  funext k
  unfold va_up
  by_cases e : k = n
  · rw [if_pos e, if_pos (by omega), e]
  · rw [if_neg e]
    show (if k < n then some (B k) else none) = _
    by_cases q : k < n
    · rw [if_pos q, if_pos (by omega)]
    · rw [if_neg q, if_neg (by omega)]
theorem hIni_m {w : zW} {cy : Nat → ClassId} {b m m' g o : Nat} (h : o ≠ 1) : hIni w cy b m g o = hIni w cy b m' g o := by
  match o, h with
  | 0, _ => rfl
  | 1, h => exact absurd rfl h
  | 2, _ => rfl
  | 3, _ => rfl
  | 4, _ => rfl
  | 5, _ => rfl
  | 6, _ => rfl
  | o + 7, _ => rfl
theorem hIni_g {w : zW} {cy : Nat → ClassId} {b m g g' o : Nat} (h : o ≠ 2) : hIni w cy b m g o = hIni w cy b m g' o := by
  match o, h with
  | 0, _ => rfl
  | 1, _ => rfl
  | 2, h => exact absurd rfl h
  | 3, _ => rfl
  | 4, _ => rfl
  | 5, _ => rfl
  | 6, _ => rfl
  | o + 7, _ => rfl
def sIni : Nat → Int32 := fun i => if i = 4 then 1 else if i = 15 then 2 else if i = 16 then 100 else if i = 17 then 3 else if i = 18 then 10 else 0
theorem sIni_0 {i : Nat} (h : 19 ≤ i) : sIni i = 0 := by
  unfold sIni
  rw [if_neg (by omega), if_neg (by omega), if_neg (by omega), if_neg (by omega), if_neg (by omega)]
theorem hIni_hut {w : zW} {cy : Nat → ClassId} {f : zF} {b : Nat} : va_up (va_up (zPutN f b 21 (hIni w cy b 4 10)) (b + 1) (eRefs cy 2 4 (fun k => some (w.2 (b + (7 + k)))))) (b + 2) (eRefs cy 3 10 (fun k => some (w.2 (b + (11 + k))))) = zPut f b (zHut w cy b id sIni) := by
  funext t
  by_cases q : b ≤ t ∧ t < b + 21
  · obtain ⟨o, rfl⟩ : ∃ o, t = b + o := ⟨t - b, by omega⟩
    have ho : o < 21 := by omega
    rw [zPut_in ho]
    match o, ho with
    | 0, _ => exact (va_up_ne _ _ (by omega)).trans ((va_up_ne _ _ (by omega)).trans (zPutN_in (o := 0) (by omega)))
    | 1, _ => exact (va_up_ne _ _ (by omega)).trans (va_up_self _ _ _)
    | 2, _ => exact va_up_self _ _ _
    | 3, _ => exact (va_up_ne _ _ (by omega)).trans ((va_up_ne _ _ (by omega)).trans (zPutN_in (o := 3) (by omega)))
    | 4, _ => exact (va_up_ne _ _ (by omega)).trans ((va_up_ne _ _ (by omega)).trans ((zPutN_in (o := 4) (by omega)).trans (congrArg (eInts cy 21) (funext fun k => (sIni_0 (by omega)).symm))))
    | 5, _ => exact (va_up_ne _ _ (by omega)).trans ((va_up_ne _ _ (by omega)).trans (zPutN_in (o := 5) (by omega)))
    | 6, _ => exact (va_up_ne _ _ (by omega)).trans ((va_up_ne _ _ (by omega)).trans (zPutN_in (o := 6) (by omega)))
    | o + 7, ho =>
      refine (va_up_ne _ _ (by omega)).trans ((va_up_ne _ _ (by omega)).trans ((zPutN_in (by omega)).trans ?_))
      show (if o < 4 then eMule (fun _ => 0) else eGroup (fun _ => 0)) = (if o < 4 then eMule (fun i => sIni (19 + 9 * o + i)) else eGroup (fun i => sIni (55 + 6 * (o - 4) + i)))
      rw [show (fun i => sIni (19 + 9 * o + i)) = (fun _ => 0) from funext fun i => sIni_0 (by omega), show (fun i => sIni (55 + 6 * (o - 4) + i)) = (fun _ => 0) from funext fun i => sIni_0 (by omega)]
  · rw [zPut_out (by omega)]
    exact (va_up_ne _ _ (by omega)).trans ((va_up_ne _ _ (by omega)).trans (zPutN_out (by omega)))
theorem hIni_7 {w : zW} {cy : Nat → ClassId} {b m g n : Nat} (hn : n < 4) : hIni w cy b m g (7 + n) = eMule (fun _ => 0) := by
  rw [Nat.add_comm 7 n]
  exact if_pos hn
theorem hIni_11 {w : zW} {cy : Nat → ClassId} {b m g n : Nat} : hIni w cy b m g (11 + n) = eGroup (fun _ => 0) := by
  rw [show 11 + n = (n + 4) + 7 by omega]
  show (if n + 4 < 4 then eMule (fun _ => 0) else eGroup (fun _ => 0)) = _
  rw [if_neg (by omega)]
set_option maxHeartbeats 4000000 in
set_option maxRecDepth 100000 in
theorem k_Hut_init {l : Launch} {D : va_G} {cy : Nat → ClassId} {w : zW} {f : zF} {b : Nat} (hb : w.1 = b + 1) (h0 : f b = .inr (2, [.null, .null, .null, .null, .null, .int 0, .int 0, .int 0, .int 0, .int 0])) : zM l D cy yX2_init cX2_init 2 none { frames := 2, cells := 20, slots := 146, locals := 80 } [.ref (w.2 b)] w f (fun r w' g => r = none ∧ w'.1 = w.1 + 20 ∧ (∀ i, i < w.1 → w'.2 i = w.2 i) ∧ g = zPut f b (zHut w' cy b id sIni)) := by
  refine zM.intro (by decide) (Nat.le_of_ble_eq_true rfl) (fun G X E => ?_)
  show G (w, 0, 0) f [(0, .ref (w.2 b))] 0 []
  have J2 : ∀ wn : zW, wn.1 = b + 11 → (∀ i, i < b + 1 → wn.2 i = w.2 i) → G (wn, 10, 86) (zPutN f b 11 (hIni wn cy b 4 0)) [(0, .ref (wn.2 b)), (1, .int 0)] 91 [] := by
    refine zdown (P := fun n => ∀ wn : zW, wn.1 = b + (11 + n) → (∀ i, i < b + 1 → wn.2 i = w.2 i) → G (wn, 10 + n, 86 + 6 * n) (zPutN f b (11 + n) (hIni wn cy b 4 (n))) [(0, .ref (wn.2 b)), (1, .int (nI (n)))] 91 []) (B := 10) ?_ (fun n hn ih => ?_) 0 (Nat.zero_le _) 
    · intro wn hn0 hz
      refine zr_iload_n X 1 dX2_init_91 rfl rfl ?_
      refine zr_aload_n X 0 dX2_init_92 rfl rfl ?_
      refine zr_get X zfd_RX2_19 b (show b < wn.1 by omega) (zPutN_in (o := 0) (by omega)) (v := .ref (wn.2 (b + 2))) rfl dX2_init_93 ?_
      refine zr_alen X (b + 2) (show b + 2 < wn.1 by omega) (b := 3) rfl (zPutN_in (o := 2) (by omega)) (v := 10) rfl dX2_init_96 ?_
      refine zr_icmp_ge X (tgt := 119) dX2_init_97 (by decide) (fun _ => ?_) (fun h => absurd (by decide) h)
      refine zrow_ext X (t := b + 1) (a2 := fun k => some (wn.2 (b + (7 + k)))) (zPutN_in (o := 1) (by omega)) (fun k hk => if_pos hk) ?_
      refine zrow_ext X (t := b + 2) (a2 := fun k => some (wn.2 (b + (11 + k)))) ((va_up_ne _ _ (by omega)).trans (zPutN_in (o := 2) (by omega))) (fun k hk => if_pos hk) ?_
      refine zcw (f2 := zPut f b (zHut wn cy b id sIni)) hIni_hut ?_
      exact E.2.1 (wn, 20, 146) _ _ _ rfl dX2_init_119 (Nat.le_of_ble_eq_true rfl) (Nat.le_of_ble_eq_true rfl) ⟨by show w.1 ≤ wn.1; omega, fun i hi => hz i (by omega)⟩ ⟨rfl, by show wn.1 = w.1 + 20; omega, fun i hi => hz i (by omega), rfl⟩
    · intro wn hn0 hz
      refine zr_iload_n X 1 dX2_init_91 rfl rfl ?_
      refine zr_aload_n X 0 dX2_init_92 rfl rfl ?_
      refine zr_get X zfd_RX2_19 b (show b < wn.1 by omega) (zPutN_in (o := 0) (by omega)) (v := .ref (wn.2 (b + 2))) rfl dX2_init_93 ?_
      refine zr_alen X (b + 2) (show b + 2 < wn.1 by omega) (b := 3) rfl (zPutN_in (o := 2) (by omega)) (v := 10) rfl dX2_init_96 ?_
      refine zr_icmp_ge X (tgt := 119) dX2_init_97 (by decide) (fun h => False.elim (nI_ge hn (by decide) h)) (fun _ => ?_)
      refine zr_aload_n X 0 dX2_init_100 rfl rfl ?_
      refine zr_get X zfd_RX2_19 b (show b < wn.1 by omega) (zPutN_in (o := 0) (by omega)) (v := .ref (wn.2 (b + 2))) rfl dX2_init_101 ?_
      refine zr_iload_n X 1 dX2_init_104 rfl rfl ?_
      refine zr_new X (ci := 0) (fs := [.int 0, .int 0, .int 0, .int 0, .int 0, .int 0]) rfl zin_X0 tyX0_ok zm_1_27 zm_1_148 zm_1_7 (fun j hj => by match j, hj with | 0, _ => rfl | 1, _ => rfl | 2, _ => rfl | 3, _ => rfl | 4, _ => rfl | 5, _ => rfl) (show 10 + n + 1 ≤ 20 by omega) (show 86 + 6 * n + 6 ≤ 146 by omega) dX2_init_105 (fun v hv hagv => ?_)
      have nv : v.1 = b + (11 + (n + 1)) := by have q : v.1 = wn.1 + 1 := hv; omega
      have av : ∀ i, i < b + (11 + n) → v.2 i = wn.2 i := fun i h => hagv i (by show i < wn.1; omega)
      have zv : ∀ i, i < b + 1 → v.2 i = w.2 i := fun i h => (av i (by omega)).trans (hz i h)
      show G (v, 10 + (n + 1), 86 + 6 * (n + 1)) (va_up (zPutN f b (11 + n) (hIni wn cy b 4 (n))) wn.1 (.inr (0, [.int 0, .int 0, .int 0, .int 0, .int 0, .int 0]))) [(0, .ref (wn.2 b)), (1, .int (nI (n)))] 108 [.ref (v.2 wn.1), .int (nI n), .ref (wn.2 (b + 2))]
      rw [hn0, ← av b (by omega), ← av (b + 2) (by omega)]
      refine zcw (f2 := zPutN f b (11 + n + 1) (hIni v cy b 4 (n))) (zPutN_new (h' := hIni v cy b 4 (n)) hIni_11 (fun i hi => hIni_w (by decide) (by omega) (.inr rfl) (fun i h => av i (by omega)) i)) ?_
      refine zr_dup X dX2_init_108 rfl ?_
      refine zr_callIN X (As := []) (rest := [.ref (v.2 (b + (11 + n))), .int (nI n), .ref (v.2 (b + 2))]) (b + (11 + n)) (k_Group_init (show b + (11 + n) < v.1 by omega)) zc_X0_init.2.2.2.2 zc_X0_init.1 zc_X0_init.2.1 ⟨Nat.le_of_ble_eq_true rfl, Nat.le_of_ble_eq_true rfl, (show 10 + (n + 1) + 0 ≤ 20 by omega), (show 86 + 6 * (n + 1) + 0 ≤ 146 by omega)⟩ rfl (Nat.le_of_ble_eq_true rfl) (List.mem_of_getElem? (i := 35) rfl) rfl zc_X0_init.2.2.1 rfl dX2_init_109 (fun r9 w9 f9 hp => ?_)
      obtain ⟨e9, rfl, rfl⟩ := hp
      rw [e9]
      show G (v, 10 + (n + 1), 86 + 6 * (n + 1)) (zPutN f b (11 + n + 1) (hIni v cy b 4 (n))) [(0, .ref (v.2 b)), (1, .int (nI (n)))] 112 [.ref (v.2 (b + (11 + n))), .int (nI n), .ref (v.2 (b + 2))]
      refine zr_aast X (b + 2) (show b + 2 < v.1 by omega) (b := 3) (ci := 0) (r := (RX0, TX0, 6)) rfl rfl (zPutN_in (o := 2) (by omega)) n rfl hn (by decide) (b + (11 + n)) (show b + (11 + n) < v.1 by omega) ((zPutN_in (o := 11 + n) (by omega)).trans hIni_11) dX2_init_112 ?_
      refine zcw (f2 := zPutN f b (11 + (n + 1)) (hIni v cy b 4 (n + 1))) (zPutN_up (o := 2) (by omega) (congrArg (eRefs cy 3 10) (zrow_s (B := fun k => v.2 (b + (11 + k)))).symm) (fun i hi hne => hIni_g hne)) ?_
      refine zr_iinc X (v := nI (n + 1)) (ls' := [(1, .int (nI (n + 1))), (0, .ref (v.2 b))]) 1 dX2_init_113 rfl (zinc1 _) (by decide) rfl ?_
      refine zr_loc X (ls' := [(0, .ref (v.2 b)), (1, .int (nI (n + 1)))]) [1, 0] rfl ?_
      refine zr_goto X (tgt := 91) dX2_init_116 (by decide) ?_
      exact ih v nv zv
  refine zr_aload_n X 0 dX2_init_0 rfl rfl ?_
  refine zr_objInit X zm_1_24 (by decide) (by decide) dX2_init_1 ?_
  refine zr_aload_n X 0 dX2_init_4 rfl rfl ?_
  refine zr_iconst X (v := 4) dX2_init_5 (by decide) ?_
  refine zr_newq X (C := RX4) (b := 2) (N' := 4) zm_1_25 (fun _ => .inr trivial) (.inl rfl) rfl (by decide) (by decide) (by decide) (Nat.le_of_ble_eq_true rfl) (Nat.le_of_ble_eq_true rfl) dX2_init_6 (fun w1 hw1 hag1 => ?_)
  have n1 : w1.1 = b + 2 := by have q : w1.1 = w.1 + 1 := hw1; rw [q, hb]
  have a1 : ∀ i, i < b + 1 → w1.2 i = w.2 i := fun i h => hag1 i (by show i < w.1; rw [hb]; exact h)
  have z1 : ∀ i, i < b + 1 → w1.2 i = w.2 i := fun i h => (a1 i (by omega))
  show G (w1, 1, 4) (va_up f w.1 (eRefs cy 2 4 (fun _ => none))) [(0, .ref (w.2 b))] 9 [.ref (w1.2 w.1), .ref (w.2 b)]
  rw [← a1 (b) (by omega), hb]
  show G (w1, 1, 4) (va_up f (b + 1) (eRefs cy 2 4 (fun _ => none))) [(0, .ref (w1.2 b))] 9 [.ref (w1.2 (b + 1)), .ref (w1.2 b)]
  refine zr_putF X zfd_RX2_11 zty_2_0 rfl b (show b < w1.1 by omega) ((va_up_ne _ _ (by omega)).trans h0) (fs' := [.ref (w1.2 (b + 1)), .null, .null, .null, .null, .int 0, .int 0, .int 0, .int 0, .int 0]) rfl rfl (Nat.le_of_ble_eq_true rfl) rfl dX2_init_9 ?_
  refine zr_aload_n X 0 dX2_init_12 rfl rfl ?_
  refine zr_bipush X (v := 10) dX2_init_13 (by decide) ?_
  refine zr_newq X (C := RX0) (b := 3) (N' := 10) zm_1_27 (fun _ => .inr trivial) (.inr (.inl rfl)) rfl (by decide) (by decide) (by decide) (Nat.le_of_ble_eq_true rfl) (Nat.le_of_ble_eq_true rfl) dX2_init_15 (fun w2 hw2 hag2 => ?_)
  have n2 : w2.1 = b + 3 := by have q : w2.1 = w1.1 + 1 := hw2; rw [q, n1]
  have a2 : ∀ i, i < b + 2 → w2.2 i = w1.2 i := fun i h => hag2 i (by show i < w1.1; rw [n1]; exact h)
  have z2 : ∀ i, i < b + 1 → w2.2 i = w.2 i := fun i h => (a2 i (by omega)).trans (z1 i h)
  show G (w2, 2, 14) (va_up (va_up (va_up f (b + 1) (eRefs cy 2 4 (fun _ => none))) (b) (.inr (2, [.ref (w1.2 (b + 1)), .null, .null, .null, .null, .int 0, .int 0, .int 0, .int 0, .int 0]))) w1.1 (eRefs cy 3 10 (fun _ => none))) [(0, .ref (w1.2 b))] 18 [.ref (w2.2 w1.1), .ref (w1.2 b)]
  rw [← a2 (b) (by omega), ← a2 (b + 1) (by omega), n1]
  show G (w2, 2, 14) (va_up (va_up (va_up f (b + 1) (eRefs cy 2 4 (fun _ => none))) (b) (.inr (2, [.ref (w2.2 (b + 1)), .null, .null, .null, .null, .int 0, .int 0, .int 0, .int 0, .int 0]))) (b + 2) (eRefs cy 3 10 (fun _ => none))) [(0, .ref (w2.2 b))] 18 [.ref (w2.2 (b + 2)), .ref (w2.2 b)]
  refine zr_putF X zfd_RX2_19 zty_2_1 rfl b (show b < w2.1 by omega) ((va_up_ne _ _ (by omega)).trans (va_up_self _ _ _)) (fs' := [.ref (w2.2 (b + 1)), .ref (w2.2 (b + 2)), .null, .null, .null, .int 0, .int 0, .int 0, .int 0, .int 0]) rfl rfl (Nat.le_of_ble_eq_true rfl) rfl dX2_init_18 ?_
  refine zr_aload_n X 0 dX2_init_21 rfl rfl ?_
  refine zr_new X (ci := 7) (fs := [.null]) rfl zin_X7 tyX7_ok zm_1_29 zm_1_30 zm_1_3 (fun j hj => by match j, hj with | 0, _ => rfl) (Nat.le_of_ble_eq_true rfl) (Nat.le_of_ble_eq_true rfl) dX2_init_22 (fun w3 hw3 hag3 => ?_)
  have n3 : w3.1 = b + 4 := by have q : w3.1 = w2.1 + 1 := hw3; rw [q, n2]
  have a3 : ∀ i, i < b + 3 → w3.2 i = w2.2 i := fun i h => hag3 i (by show i < w2.1; rw [n2]; exact h)
  have z3 : ∀ i, i < b + 1 → w3.2 i = w.2 i := fun i h => (a3 i (by omega)).trans (z2 i h)
  show G (w3, 3, 15) (va_up (va_up (va_up (va_up (va_up f (b + 1) (eRefs cy 2 4 (fun _ => none))) (b) (.inr (2, [.ref (w2.2 (b + 1)), .null, .null, .null, .null, .int 0, .int 0, .int 0, .int 0, .int 0]))) (b + 2) (eRefs cy 3 10 (fun _ => none))) (b) (.inr (2, [.ref (w2.2 (b + 1)), .ref (w2.2 (b + 2)), .null, .null, .null, .int 0, .int 0, .int 0, .int 0, .int 0]))) w2.1 (.inr (7, [.null]))) [(0, .ref (w2.2 b))] 25 [.ref (w3.2 w2.1), .ref (w2.2 b)]
  rw [← a3 (b) (by omega), ← a3 (b + 1) (by omega), ← a3 (b + 2) (by omega), n2]
  show G (w3, 3, 15) (va_up (va_up (va_up (va_up (va_up f (b + 1) (eRefs cy 2 4 (fun _ => none))) (b) (.inr (2, [.ref (w3.2 (b + 1)), .null, .null, .null, .null, .int 0, .int 0, .int 0, .int 0, .int 0]))) (b + 2) (eRefs cy 3 10 (fun _ => none))) (b) (.inr (2, [.ref (w3.2 (b + 1)), .ref (w3.2 (b + 2)), .null, .null, .null, .int 0, .int 0, .int 0, .int 0, .int 0]))) (b + 3) (.inr (7, [.null]))) [(0, .ref (w3.2 b))] 25 [.ref (w3.2 (b + 3)), .ref (w3.2 b)]
  refine zr_dup X dX2_init_25 rfl ?_
  refine zr_callIN X (As := []) (rest := [.ref (w3.2 (b + 3)), .ref (w3.2 b)]) (b + 3) (k_Shelf_init (show b + 3 < w3.1 by omega) (va_up_self _ _ _)) zc_X7_init.2.2.2.2 zc_X7_init.1 zc_X7_init.2.1 ⟨Nat.le_of_ble_eq_true rfl, Nat.le_of_ble_eq_true rfl, Nat.le_of_ble_eq_true rfl, Nat.le_of_ble_eq_true rfl⟩ rfl (Nat.le_of_ble_eq_true rfl) (List.mem_of_getElem? (i := 31) rfl) rfl zc_X7_init.2.2.1 rfl dX2_init_26 (fun r9 w4 f9 hp => ?_)
  obtain ⟨rfl, hw4, hag4, rfl⟩ := hp
  have n4 : w4.1 = b + 5 := by have q : w4.1 = w3.1 + 1 := hw4; rw [q, n3]
  have a4 : ∀ i, i < b + 4 → w4.2 i = w3.2 i := fun i h => hag4 i (by show i < w3.1; rw [n3]; exact h)
  have z4 : ∀ i, i < b + 1 → w4.2 i = w.2 i := fun i h => (a4 i (by omega)).trans (z3 i h)
  show G (w4, 4, 36) (va_up (va_up (va_up (va_up (va_up (va_up (va_up f (b + 1) (eRefs cy 2 4 (fun _ => none))) (b) (.inr (2, [.ref (w3.2 (b + 1)), .null, .null, .null, .null, .int 0, .int 0, .int 0, .int 0, .int 0]))) (b + 2) (eRefs cy 3 10 (fun _ => none))) (b) (.inr (2, [.ref (w3.2 (b + 1)), .ref (w3.2 (b + 2)), .null, .null, .null, .int 0, .int 0, .int 0, .int 0, .int 0]))) (b + 3) (.inr (7, [.null]))) w3.1 (eInts cy 21 (fun _ => 0))) (b + 3) (.inr (7, [.ref (w4.2 w3.1)]))) [(0, .ref (w3.2 b))] 29 [.ref (w3.2 (b + 3)), .ref (w3.2 b)]
  rw [← a4 (b) (by omega), ← a4 (b + 1) (by omega), ← a4 (b + 2) (by omega), ← a4 (b + 3) (by omega), n3]
  show G (w4, 4, 36) (va_up (va_up (va_up (va_up (va_up (va_up (va_up f (b + 1) (eRefs cy 2 4 (fun _ => none))) (b) (.inr (2, [.ref (w4.2 (b + 1)), .null, .null, .null, .null, .int 0, .int 0, .int 0, .int 0, .int 0]))) (b + 2) (eRefs cy 3 10 (fun _ => none))) (b) (.inr (2, [.ref (w4.2 (b + 1)), .ref (w4.2 (b + 2)), .null, .null, .null, .int 0, .int 0, .int 0, .int 0, .int 0]))) (b + 3) (.inr (7, [.null]))) (b + 4) (eInts cy 21 (fun _ => 0))) (b + 3) (.inr (7, [.ref (w4.2 (b + 4))]))) [(0, .ref (w4.2 b))] 29 [.ref (w4.2 (b + 3)), .ref (w4.2 b)]
  refine zr_putF X zfd_RX2_26 zty_2_2 rfl b (show b < w4.1 by omega) ((va_up_ne _ _ (by omega)).trans ((va_up_ne _ _ (by omega)).trans ((va_up_ne _ _ (by omega)).trans (va_up_self _ _ _)))) (fs' := [.ref (w4.2 (b + 1)), .ref (w4.2 (b + 2)), .ref (w4.2 (b + 3)), .null, .null, .int 0, .int 0, .int 0, .int 0, .int 0]) rfl rfl (Nat.le_of_ble_eq_true rfl) rfl dX2_init_29 ?_
  refine zr_aload_n X 0 dX2_init_32 rfl rfl ?_
  refine zr_new X (ci := 3) (fs := [.int 0, .int 0, .int 0, .int 0, .int 0, .int 0, .int 0, .int 0, .int 0, .int 0]) rfl zin_X3 tyX3_ok zm_1_40 zm_1_41 zm_1_4 (fun j hj => by match j, hj with | 0, _ => rfl | 1, _ => rfl | 2, _ => rfl | 3, _ => rfl | 4, _ => rfl | 5, _ => rfl | 6, _ => rfl | 7, _ => rfl | 8, _ => rfl | 9, _ => rfl) (Nat.le_of_ble_eq_true rfl) (Nat.le_of_ble_eq_true rfl) dX2_init_33 (fun w5 hw5 hag5 => ?_)
  have n5 : w5.1 = b + 6 := by have q : w5.1 = w4.1 + 1 := hw5; rw [q, n4]
  have a5 : ∀ i, i < b + 5 → w5.2 i = w4.2 i := fun i h => hag5 i (by show i < w4.1; rw [n4]; exact h)
  have z5 : ∀ i, i < b + 1 → w5.2 i = w.2 i := fun i h => (a5 i (by omega)).trans (z4 i h)
  show G (w5, 5, 46) (va_up (va_up (va_up (va_up (va_up (va_up (va_up (va_up (va_up f (b + 1) (eRefs cy 2 4 (fun _ => none))) (b) (.inr (2, [.ref (w4.2 (b + 1)), .null, .null, .null, .null, .int 0, .int 0, .int 0, .int 0, .int 0]))) (b + 2) (eRefs cy 3 10 (fun _ => none))) (b) (.inr (2, [.ref (w4.2 (b + 1)), .ref (w4.2 (b + 2)), .null, .null, .null, .int 0, .int 0, .int 0, .int 0, .int 0]))) (b + 3) (.inr (7, [.null]))) (b + 4) (eInts cy 21 (fun _ => 0))) (b + 3) (.inr (7, [.ref (w4.2 (b + 4))]))) (b) (.inr (2, [.ref (w4.2 (b + 1)), .ref (w4.2 (b + 2)), .ref (w4.2 (b + 3)), .null, .null, .int 0, .int 0, .int 0, .int 0, .int 0]))) w4.1 (.inr (3, [.int 0, .int 0, .int 0, .int 0, .int 0, .int 0, .int 0, .int 0, .int 0, .int 0]))) [(0, .ref (w4.2 b))] 36 [.ref (w5.2 w4.1), .ref (w4.2 b)]
  rw [← a5 (b) (by omega), ← a5 (b + 1) (by omega), ← a5 (b + 2) (by omega), ← a5 (b + 3) (by omega), ← a5 (b + 4) (by omega), n4]
  show G (w5, 5, 46) (va_up (va_up (va_up (va_up (va_up (va_up (va_up (va_up (va_up f (b + 1) (eRefs cy 2 4 (fun _ => none))) (b) (.inr (2, [.ref (w5.2 (b + 1)), .null, .null, .null, .null, .int 0, .int 0, .int 0, .int 0, .int 0]))) (b + 2) (eRefs cy 3 10 (fun _ => none))) (b) (.inr (2, [.ref (w5.2 (b + 1)), .ref (w5.2 (b + 2)), .null, .null, .null, .int 0, .int 0, .int 0, .int 0, .int 0]))) (b + 3) (.inr (7, [.null]))) (b + 4) (eInts cy 21 (fun _ => 0))) (b + 3) (.inr (7, [.ref (w5.2 (b + 4))]))) (b) (.inr (2, [.ref (w5.2 (b + 1)), .ref (w5.2 (b + 2)), .ref (w5.2 (b + 3)), .null, .null, .int 0, .int 0, .int 0, .int 0, .int 0]))) (b + 5) (.inr (3, [.int 0, .int 0, .int 0, .int 0, .int 0, .int 0, .int 0, .int 0, .int 0, .int 0]))) [(0, .ref (w5.2 b))] 36 [.ref (w5.2 (b + 5)), .ref (w5.2 b)]
  refine zr_dup X dX2_init_36 rfl ?_
  refine zr_callIN X (As := []) (rest := [.ref (w5.2 (b + 5)), .ref (w5.2 b)]) (b + 5) (k_Ledger_init (show b + 5 < w5.1 by omega)) zc_X3_init.2.2.2.2 zc_X3_init.1 zc_X3_init.2.1 ⟨Nat.le_of_ble_eq_true rfl, Nat.le_of_ble_eq_true rfl, Nat.le_of_ble_eq_true rfl, Nat.le_of_ble_eq_true rfl⟩ rfl (Nat.le_of_ble_eq_true rfl) (List.mem_of_getElem? (i := 32) rfl) rfl zc_X3_init.2.2.1 rfl dX2_init_37 (fun r9 w9 f9 hp => ?_)
  obtain ⟨e9, rfl, rfl⟩ := hp
  rw [e9]
  show G (w5, 5, 46) (va_up (va_up (va_up (va_up (va_up (va_up (va_up (va_up (va_up f (b + 1) (eRefs cy 2 4 (fun _ => none))) (b) (.inr (2, [.ref (w5.2 (b + 1)), .null, .null, .null, .null, .int 0, .int 0, .int 0, .int 0, .int 0]))) (b + 2) (eRefs cy 3 10 (fun _ => none))) (b) (.inr (2, [.ref (w5.2 (b + 1)), .ref (w5.2 (b + 2)), .null, .null, .null, .int 0, .int 0, .int 0, .int 0, .int 0]))) (b + 3) (.inr (7, [.null]))) (b + 4) (eInts cy 21 (fun _ => 0))) (b + 3) (.inr (7, [.ref (w5.2 (b + 4))]))) (b) (.inr (2, [.ref (w5.2 (b + 1)), .ref (w5.2 (b + 2)), .ref (w5.2 (b + 3)), .null, .null, .int 0, .int 0, .int 0, .int 0, .int 0]))) (b + 5) (.inr (3, [.int 0, .int 0, .int 0, .int 0, .int 0, .int 0, .int 0, .int 0, .int 0, .int 0]))) [(0, .ref (w5.2 b))] 40 [.ref (w5.2 (b + 5)), .ref (w5.2 b)]
  refine zr_putF X zfd_RX2_33 zty_2_3 rfl b (show b < w5.1 by omega) ((va_up_ne _ _ (by omega)).trans (va_up_self _ _ _)) (fs' := [.ref (w5.2 (b + 1)), .ref (w5.2 (b + 2)), .ref (w5.2 (b + 3)), .ref (w5.2 (b + 5)), .null, .int 0, .int 0, .int 0, .int 0, .int 0]) rfl rfl (Nat.le_of_ble_eq_true rfl) rfl dX2_init_40 ?_
  refine zr_aload_n X 0 dX2_init_43 rfl rfl ?_
  refine zr_new X (ci := 6) (fs := [.int 0, .int 0, .int 0, .int 0]) rfl zin_X6 tyX6_ok zm_1_87 zm_1_88 zm_1_5 (fun j hj => by match j, hj with | 0, _ => rfl | 1, _ => rfl | 2, _ => rfl | 3, _ => rfl) (Nat.le_of_ble_eq_true rfl) (Nat.le_of_ble_eq_true rfl) dX2_init_44 (fun w6 hw6 hag6 => ?_)
  have n6 : w6.1 = b + 7 := by have q : w6.1 = w5.1 + 1 := hw6; rw [q, n5]
  have a6 : ∀ i, i < b + 6 → w6.2 i = w5.2 i := fun i h => hag6 i (by show i < w5.1; rw [n5]; exact h)
  have z6 : ∀ i, i < b + 1 → w6.2 i = w.2 i := fun i h => (a6 i (by omega)).trans (z5 i h)
  show G (w6, 6, 50) (va_up (va_up (va_up (va_up (va_up (va_up (va_up (va_up (va_up (va_up (va_up f (b + 1) (eRefs cy 2 4 (fun _ => none))) (b) (.inr (2, [.ref (w5.2 (b + 1)), .null, .null, .null, .null, .int 0, .int 0, .int 0, .int 0, .int 0]))) (b + 2) (eRefs cy 3 10 (fun _ => none))) (b) (.inr (2, [.ref (w5.2 (b + 1)), .ref (w5.2 (b + 2)), .null, .null, .null, .int 0, .int 0, .int 0, .int 0, .int 0]))) (b + 3) (.inr (7, [.null]))) (b + 4) (eInts cy 21 (fun _ => 0))) (b + 3) (.inr (7, [.ref (w5.2 (b + 4))]))) (b) (.inr (2, [.ref (w5.2 (b + 1)), .ref (w5.2 (b + 2)), .ref (w5.2 (b + 3)), .null, .null, .int 0, .int 0, .int 0, .int 0, .int 0]))) (b + 5) (.inr (3, [.int 0, .int 0, .int 0, .int 0, .int 0, .int 0, .int 0, .int 0, .int 0, .int 0]))) (b) (.inr (2, [.ref (w5.2 (b + 1)), .ref (w5.2 (b + 2)), .ref (w5.2 (b + 3)), .ref (w5.2 (b + 5)), .null, .int 0, .int 0, .int 0, .int 0, .int 0]))) w5.1 (.inr (6, [.int 0, .int 0, .int 0, .int 0]))) [(0, .ref (w5.2 b))] 47 [.ref (w6.2 w5.1), .ref (w5.2 b)]
  rw [← a6 (b) (by omega), ← a6 (b + 1) (by omega), ← a6 (b + 2) (by omega), ← a6 (b + 3) (by omega), ← a6 (b + 4) (by omega), ← a6 (b + 5) (by omega), n5]
  show G (w6, 6, 50) (va_up (va_up (va_up (va_up (va_up (va_up (va_up (va_up (va_up (va_up (va_up f (b + 1) (eRefs cy 2 4 (fun _ => none))) (b) (.inr (2, [.ref (w6.2 (b + 1)), .null, .null, .null, .null, .int 0, .int 0, .int 0, .int 0, .int 0]))) (b + 2) (eRefs cy 3 10 (fun _ => none))) (b) (.inr (2, [.ref (w6.2 (b + 1)), .ref (w6.2 (b + 2)), .null, .null, .null, .int 0, .int 0, .int 0, .int 0, .int 0]))) (b + 3) (.inr (7, [.null]))) (b + 4) (eInts cy 21 (fun _ => 0))) (b + 3) (.inr (7, [.ref (w6.2 (b + 4))]))) (b) (.inr (2, [.ref (w6.2 (b + 1)), .ref (w6.2 (b + 2)), .ref (w6.2 (b + 3)), .null, .null, .int 0, .int 0, .int 0, .int 0, .int 0]))) (b + 5) (.inr (3, [.int 0, .int 0, .int 0, .int 0, .int 0, .int 0, .int 0, .int 0, .int 0, .int 0]))) (b) (.inr (2, [.ref (w6.2 (b + 1)), .ref (w6.2 (b + 2)), .ref (w6.2 (b + 3)), .ref (w6.2 (b + 5)), .null, .int 0, .int 0, .int 0, .int 0, .int 0]))) (b + 6) (.inr (6, [.int 0, .int 0, .int 0, .int 0]))) [(0, .ref (w6.2 b))] 47 [.ref (w6.2 (b + 6)), .ref (w6.2 b)]
  refine zr_dup X dX2_init_47 rfl ?_
  refine zr_callIN X (As := []) (rest := [.ref (w6.2 (b + 6)), .ref (w6.2 b)]) (b + 6) (k_Sett_init (v := fun _ => 0) (show b + 6 < w6.1 by omega) (va_up_self _ _ _)) zc_X6_init.2.2.2.2 zc_X6_init.1 zc_X6_init.2.1 ⟨Nat.le_of_ble_eq_true rfl, Nat.le_of_ble_eq_true rfl, Nat.le_of_ble_eq_true rfl, Nat.le_of_ble_eq_true rfl⟩ rfl (Nat.le_of_ble_eq_true rfl) (List.mem_of_getElem? (i := 33) rfl) rfl zc_X6_init.2.2.1 rfl dX2_init_48 (fun r9 w9 f9 hp => ?_)
  obtain ⟨e9, rfl, rfl⟩ := hp
  rw [e9]
  show G (w6, 6, 50) (va_up (va_up (va_up (va_up (va_up (va_up (va_up (va_up (va_up (va_up (va_up (va_up f (b + 1) (eRefs cy 2 4 (fun _ => none))) (b) (.inr (2, [.ref (w6.2 (b + 1)), .null, .null, .null, .null, .int 0, .int 0, .int 0, .int 0, .int 0]))) (b + 2) (eRefs cy 3 10 (fun _ => none))) (b) (.inr (2, [.ref (w6.2 (b + 1)), .ref (w6.2 (b + 2)), .null, .null, .null, .int 0, .int 0, .int 0, .int 0, .int 0]))) (b + 3) (.inr (7, [.null]))) (b + 4) (eInts cy 21 (fun _ => 0))) (b + 3) (.inr (7, [.ref (w6.2 (b + 4))]))) (b) (.inr (2, [.ref (w6.2 (b + 1)), .ref (w6.2 (b + 2)), .ref (w6.2 (b + 3)), .null, .null, .int 0, .int 0, .int 0, .int 0, .int 0]))) (b + 5) (.inr (3, [.int 0, .int 0, .int 0, .int 0, .int 0, .int 0, .int 0, .int 0, .int 0, .int 0]))) (b) (.inr (2, [.ref (w6.2 (b + 1)), .ref (w6.2 (b + 2)), .ref (w6.2 (b + 3)), .ref (w6.2 (b + 5)), .null, .int 0, .int 0, .int 0, .int 0, .int 0]))) (b + 6) (.inr (6, [.int 0, .int 0, .int 0, .int 0]))) (b + 6) (eSett (upd (upd (upd (upd (fun _ => 0) 0 2) 1 100) 2 3) 3 10))) [(0, .ref (w6.2 b))] 51 [.ref (w6.2 (b + 6)), .ref (w6.2 b)]
  refine zr_putF X zfd_RX2_40 zty_2_4 rfl b (show b < w6.1 by omega) ((va_up_ne _ _ (by omega)).trans ((va_up_ne _ _ (by omega)).trans (va_up_self _ _ _))) (fs' := [.ref (w6.2 (b + 1)), .ref (w6.2 (b + 2)), .ref (w6.2 (b + 3)), .ref (w6.2 (b + 5)), .ref (w6.2 (b + 6)), .int 0, .int 0, .int 0, .int 0, .int 0]) rfl rfl (Nat.le_of_ble_eq_true rfl) rfl dX2_init_51 ?_
  refine zr_aload_n X 0 dX2_init_54 rfl rfl ?_
  refine zr_iconst X (v := 1) dX2_init_55 (by decide) ?_
  refine zr_put X zfd_RX2_44 zty_2_9 b (show b < w6.1 by omega) (va_up_self _ _ _) (fs' := [.ref (w6.2 (b + 1)), .ref (w6.2 (b + 2)), .ref (w6.2 (b + 3)), .ref (w6.2 (b + 5)), .ref (w6.2 (b + 6)), .int 0, .int 0, .int 0, .int 0, .int 1]) rfl rfl (Nat.le_of_ble_eq_true rfl) rfl dX2_init_56 ?_
  refine zr_iconst X (v := 0) dX2_init_59 (by decide) ?_
  refine zr_istore_n X (ls' := [(1, .int 0), (0, .ref (w6.2 b))]) dX2_init_60 rfl (by decide) rfl ?_
  refine zr_loc X (ls' := [(0, .ref (w6.2 b)), (1, .int 0)]) [1, 0] rfl ?_
  have eW : (va_up (va_up (va_up (va_up (va_up (va_up (va_up (va_up (va_up (va_up (va_up (va_up (va_up (va_up f (b + 1) (eRefs cy 2 4 (fun _ => none))) (b) (.inr (2, [.ref (w6.2 (b + 1)), .null, .null, .null, .null, .int 0, .int 0, .int 0, .int 0, .int 0]))) (b + 2) (eRefs cy 3 10 (fun _ => none))) (b) (.inr (2, [.ref (w6.2 (b + 1)), .ref (w6.2 (b + 2)), .null, .null, .null, .int 0, .int 0, .int 0, .int 0, .int 0]))) (b + 3) (.inr (7, [.null]))) (b + 4) (eInts cy 21 (fun _ => 0))) (b + 3) (.inr (7, [.ref (w6.2 (b + 4))]))) (b) (.inr (2, [.ref (w6.2 (b + 1)), .ref (w6.2 (b + 2)), .ref (w6.2 (b + 3)), .null, .null, .int 0, .int 0, .int 0, .int 0, .int 0]))) (b + 5) (.inr (3, [.int 0, .int 0, .int 0, .int 0, .int 0, .int 0, .int 0, .int 0, .int 0, .int 0]))) (b) (.inr (2, [.ref (w6.2 (b + 1)), .ref (w6.2 (b + 2)), .ref (w6.2 (b + 3)), .ref (w6.2 (b + 5)), .null, .int 0, .int 0, .int 0, .int 0, .int 0]))) (b + 6) (.inr (6, [.int 0, .int 0, .int 0, .int 0]))) (b + 6) (eSett (upd (upd (upd (upd (fun _ => 0) 0 2) 1 100) 2 3) 3 10))) (b) (.inr (2, [.ref (w6.2 (b + 1)), .ref (w6.2 (b + 2)), .ref (w6.2 (b + 3)), .ref (w6.2 (b + 5)), .ref (w6.2 (b + 6)), .int 0, .int 0, .int 0, .int 0, .int 0]))) (b) (.inr (2, [.ref (w6.2 (b + 1)), .ref (w6.2 (b + 2)), .ref (w6.2 (b + 3)), .ref (w6.2 (b + 5)), .ref (w6.2 (b + 6)), .int 0, .int 0, .int 0, .int 0, .int 1]))) = zPutN f b 7 (hIni w6 cy b 0 0) := by
    funext t
    by_cases q : b ≤ t ∧ t < b + 7
    · obtain ⟨o, rfl⟩ : ∃ o, t = b + o := ⟨t - b, by omega⟩
      have ho : o < 7 := by omega
      rw [zPutN_in ho]
      match o, ho with
      | 0, _ => exact (va_up_self _ _ _)
      | 1, _ => exact (((va_up_ne _ _ (by omega)).trans ((va_up_ne _ _ (by omega)).trans ((va_up_ne _ _ (by omega)).trans ((va_up_ne _ _ (by omega)).trans ((va_up_ne _ _ (by omega)).trans ((va_up_ne _ _ (by omega)).trans ((va_up_ne _ _ (by omega)).trans ((va_up_ne _ _ (by omega)).trans ((va_up_ne _ _ (by omega)).trans ((va_up_ne _ _ (by omega)).trans ((va_up_ne _ _ (by omega)).trans ((va_up_ne _ _ (by omega)).trans ((va_up_ne _ _ (by omega)).trans (va_up_self _ _ _))))))))))))))).trans (congrArg (eRefs cy 2 4) (funext fun k => (if_neg (Nat.not_lt_zero k)).symm))
      | 2, _ => exact (((va_up_ne _ _ (by omega)).trans ((va_up_ne _ _ (by omega)).trans ((va_up_ne _ _ (by omega)).trans ((va_up_ne _ _ (by omega)).trans ((va_up_ne _ _ (by omega)).trans ((va_up_ne _ _ (by omega)).trans ((va_up_ne _ _ (by omega)).trans ((va_up_ne _ _ (by omega)).trans ((va_up_ne _ _ (by omega)).trans ((va_up_ne _ _ (by omega)).trans ((va_up_ne _ _ (by omega)).trans (va_up_self _ _ _))))))))))))).trans (congrArg (eRefs cy 3 10) (funext fun k => (if_neg (Nat.not_lt_zero k)).symm))
      | 3, _ => exact ((va_up_ne _ _ (by omega)).trans ((va_up_ne _ _ (by omega)).trans ((va_up_ne _ _ (by omega)).trans ((va_up_ne _ _ (by omega)).trans ((va_up_ne _ _ (by omega)).trans ((va_up_ne _ _ (by omega)).trans ((va_up_ne _ _ (by omega)).trans (va_up_self _ _ _))))))))
      | 4, _ => exact ((va_up_ne _ _ (by omega)).trans ((va_up_ne _ _ (by omega)).trans ((va_up_ne _ _ (by omega)).trans ((va_up_ne _ _ (by omega)).trans ((va_up_ne _ _ (by omega)).trans ((va_up_ne _ _ (by omega)).trans ((va_up_ne _ _ (by omega)).trans ((va_up_ne _ _ (by omega)).trans (va_up_self _ _ _)))))))))
      | 5, _ => exact ((va_up_ne _ _ (by omega)).trans ((va_up_ne _ _ (by omega)).trans ((va_up_ne _ _ (by omega)).trans ((va_up_ne _ _ (by omega)).trans ((va_up_ne _ _ (by omega)).trans (va_up_self _ _ _))))))
      | 6, _ => exact ((va_up_ne _ _ (by omega)).trans ((va_up_ne _ _ (by omega)).trans (va_up_self _ _ _)))
    · rw [zPutN_out (by omega)]
      exact ((va_up_ne _ _ (by omega)).trans ((va_up_ne _ _ (by omega)).trans ((va_up_ne _ _ (by omega)).trans ((va_up_ne _ _ (by omega)).trans ((va_up_ne _ _ (by omega)).trans ((va_up_ne _ _ (by omega)).trans ((va_up_ne _ _ (by omega)).trans ((va_up_ne _ _ (by omega)).trans ((va_up_ne _ _ (by omega)).trans ((va_up_ne _ _ (by omega)).trans ((va_up_ne _ _ (by omega)).trans ((va_up_ne _ _ (by omega)).trans ((va_up_ne _ _ (by omega)).trans ((va_up_ne _ _ (by omega)).trans rfl))))))))))))))
  rw [eW]
  refine zdown (P := fun n => ∀ wn : zW, wn.1 = b + (7 + n) → (∀ i, i < b + 1 → wn.2 i = w.2 i) → G (wn, 6 + n, 50 + 9 * n) (zPutN f b (7 + n) (hIni wn cy b (n) 0)) [(0, .ref (wn.2 b)), (1, .int (nI (n)))] 61 []) (B := 4) ?_ (fun n hn ih => ?_) 0 (Nat.zero_le _) w6 n6 z6
  · intro wn hn0 hz
    refine zr_iload_n X 1 dX2_init_61 rfl rfl ?_
    refine zr_aload_n X 0 dX2_init_62 rfl rfl ?_
    refine zr_get X zfd_RX2_11 b (show b < wn.1 by omega) (zPutN_in (o := 0) (by omega)) (v := .ref (wn.2 (b + 1))) rfl dX2_init_63 ?_
    refine zr_alen X (b + 1) (show b + 1 < wn.1 by omega) (b := 2) rfl (zPutN_in (o := 1) (by omega)) (v := 4) rfl dX2_init_66 ?_
    refine zr_icmp_ge X (tgt := 89) dX2_init_67 (by decide) (fun _ => ?_) (fun h => absurd (by decide) h)
    refine zr_iconst X (v := 0) dX2_init_89 (by decide) ?_
    refine zr_istore_n X (ls' := [(1, .int 0), (0, .ref (wn.2 b))]) dX2_init_90 rfl (by decide) rfl ?_
    refine zr_loc X (ls' := [(0, .ref (wn.2 b)), (1, .int 0)]) [1, 0] rfl ?_
    exact J2 wn hn0 hz
  · intro wn hn0 hz
    refine zr_iload_n X 1 dX2_init_61 rfl rfl ?_
    refine zr_aload_n X 0 dX2_init_62 rfl rfl ?_
    refine zr_get X zfd_RX2_11 b (show b < wn.1 by omega) (zPutN_in (o := 0) (by omega)) (v := .ref (wn.2 (b + 1))) rfl dX2_init_63 ?_
    refine zr_alen X (b + 1) (show b + 1 < wn.1 by omega) (b := 2) rfl (zPutN_in (o := 1) (by omega)) (v := 4) rfl dX2_init_66 ?_
    refine zr_icmp_ge X (tgt := 89) dX2_init_67 (by decide) (fun h => False.elim (nI_ge hn (by decide) h)) (fun _ => ?_)
    refine zr_aload_n X 0 dX2_init_70 rfl rfl ?_
    refine zr_get X zfd_RX2_11 b (show b < wn.1 by omega) (zPutN_in (o := 0) (by omega)) (v := .ref (wn.2 (b + 1))) rfl dX2_init_71 ?_
    refine zr_iload_n X 1 dX2_init_74 rfl rfl ?_
    refine zr_new X (ci := 4) (fs := [.int 0, .int 0, .int 0, .int 0, .int 0, .int 0, .int 0, .int 0, .int 0]) rfl zin_X4 tyX4_ok zm_1_25 zm_1_110 zm_1_6 (fun j hj => by match j, hj with | 0, _ => rfl | 1, _ => rfl | 2, _ => rfl | 3, _ => rfl | 4, _ => rfl | 5, _ => rfl | 6, _ => rfl | 7, _ => rfl | 8, _ => rfl) (show 6 + n + 1 ≤ 20 by omega) (show 50 + 9 * n + 9 ≤ 146 by omega) dX2_init_75 (fun v hv hagv => ?_)
    have nv : v.1 = b + (7 + (n + 1)) := by have q : v.1 = wn.1 + 1 := hv; omega
    have av : ∀ i, i < b + (7 + n) → v.2 i = wn.2 i := fun i h => hagv i (by show i < wn.1; omega)
    have zv : ∀ i, i < b + 1 → v.2 i = w.2 i := fun i h => (av i (by omega)).trans (hz i h)
    show G (v, 6 + (n + 1), 50 + 9 * (n + 1)) (va_up (zPutN f b (7 + n) (hIni wn cy b (n) 0)) wn.1 (.inr (4, [.int 0, .int 0, .int 0, .int 0, .int 0, .int 0, .int 0, .int 0, .int 0]))) [(0, .ref (wn.2 b)), (1, .int (nI (n)))] 78 [.ref (v.2 wn.1), .int (nI n), .ref (wn.2 (b + 1))]
    rw [hn0, ← av b (by omega), ← av (b + 1) (by omega)]
    refine zcw (f2 := zPutN f b (7 + n + 1) (hIni v cy b (n) 0)) (zPutN_new (h' := hIni v cy b (n) 0) (hIni_7 (by omega)) (fun i hi => hIni_w (by omega) (by decide) (.inl rfl) (fun i h => av i (by omega)) i)) ?_
    refine zr_dup X dX2_init_78 rfl ?_
    refine zr_callIN X (As := []) (rest := [.ref (v.2 (b + (7 + n))), .int (nI n), .ref (v.2 (b + 1))]) (b + (7 + n)) (k_Mule_init (show b + (7 + n) < v.1 by omega)) zc_X4_init.2.2.2.2 zc_X4_init.1 zc_X4_init.2.1 ⟨Nat.le_of_ble_eq_true rfl, Nat.le_of_ble_eq_true rfl, (show 6 + (n + 1) + 0 ≤ 20 by omega), (show 50 + 9 * (n + 1) + 0 ≤ 146 by omega)⟩ rfl (Nat.le_of_ble_eq_true rfl) (List.mem_of_getElem? (i := 34) rfl) rfl zc_X4_init.2.2.1 rfl dX2_init_79 (fun r9 w9 f9 hp => ?_)
    obtain ⟨e9, rfl, rfl⟩ := hp
    rw [e9]
    show G (v, 6 + (n + 1), 50 + 9 * (n + 1)) (zPutN f b (7 + n + 1) (hIni v cy b (n) 0)) [(0, .ref (v.2 b)), (1, .int (nI (n)))] 82 [.ref (v.2 (b + (7 + n))), .int (nI n), .ref (v.2 (b + 1))]
    refine zr_aast X (b + 1) (show b + 1 < v.1 by omega) (b := 2) (ci := 4) (r := (RX4, TX4, 9)) rfl rfl (zPutN_in (o := 1) (by omega)) n rfl hn (by decide) (b + (7 + n)) (show b + (7 + n) < v.1 by omega) ((zPutN_in (o := 7 + n) (by omega)).trans (hIni_7 (by omega))) dX2_init_82 ?_
    refine zcw (f2 := zPutN f b (7 + (n + 1)) (hIni v cy b (n + 1) 0)) (zPutN_up (o := 1) (by omega) (congrArg (eRefs cy 2 4) (zrow_s (B := fun k => v.2 (b + (7 + k)))).symm) (fun i hi hne => hIni_m hne)) ?_
    refine zr_iinc X (v := nI (n + 1)) (ls' := [(1, .int (nI (n + 1))), (0, .ref (v.2 b))]) 1 dX2_init_83 rfl (zinc1 _) (by decide) rfl ?_
    refine zr_loc X (ls' := [(0, .ref (v.2 b)), (1, .int (nI (n + 1)))]) [1, 0] rfl ?_
    refine zr_goto X (tgt := 61) dX2_init_86 (by decide) ?_
    exact ih v nv zv
