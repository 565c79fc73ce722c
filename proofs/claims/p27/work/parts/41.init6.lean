theorem zPut_upb {f : zF} {b o : Nat} {e : va_E} {h : Nat → va_E} (ho : o < 21) : zPut (va_up f (b + o) e) b h = zPut f b h := by
  funext t
  unfold zPut va_up
  by_cases q : b ≤ t ∧ t < b + 21
  · rw [if_pos q, if_pos q]
  · rw [if_neg q, if_neg q, if_neg (by omega)]
theorem zsim_up {cy : Nat → ClassId} {f f2 : zF} {b : Nat} {e : va_E} (h : ∀ t, zsim cy (f t) (f2 t)) (t : Nat) : zsim cy (va_up f b e t) (va_up f2 b e t) := by
  by_cases q : t = b
  · subst q
    rw [va_up_self, va_up_self]
    exact .inl rfl
  · rw [va_up_ne _ _ q, va_up_ne _ _ q]
    exact h t
theorem zsim_put {cy : Nat → ClassId} {f f2 : zF} {b : Nat} {g : Nat → va_E} (h : ∀ t, zsim cy (f t) (f2 t)) (t : Nat) : zsim cy (zPut f b g t) (zPut f2 b g t) := by
  unfold zPut
  by_cases q : b ≤ t ∧ t < b + 21
  · rw [if_pos q, if_pos q]
    exact .inl rfl
  · rw [if_neg q, if_neg q]
    exact h t
set_option maxHeartbeats 4000000 in
set_option maxRecDepth 100000 in
theorem k_History_init {l : Launch} {D : va_G} {cy : Nat → ClassId} {w : zW} {f : zF} (hb : w.1 = 44) (h0 : f 43 = .inr (1, [.null, .int 0])) : zM l D cy yX1_init cX1_init 2 none { frames := 3, cells := 85, slots := 628, locals := 120 } [.ref (w.2 43)] w f (fun r w' g => r = none ∧ w'.1 = w.1 + 85 ∧ (∀ i, i < w.1 → w'.2 i = w.2 i) ∧ g = va_up (zHq w' cy f 4) 44 (eHra w' cy id)) := by
  refine zM.intro (by decide) (Nat.le_of_ble_eq_true rfl) (fun G X E => ?_)
  show G (w, 0, 0) f [(0, .ref (w.2 43))] 0 []
  refine zr_aload_n X 0 dX1_init_0 rfl rfl ?_
  refine zr_objInit X zm_1_216 (by decide) (by decide) dX1_init_1 ?_
  refine zr_aload_n X 0 dX1_init_4 rfl rfl ?_
  refine zr_iconst X (v := 4) dX1_init_5 (by decide) ?_
  refine zr_newq X (C := RX2) (b := 4) (N' := 4) zm_1_217 (fun _ => .inr trivial) (.inr (.inr rfl)) rfl (by decide) (by decide) (by decide) (Nat.le_of_ble_eq_true rfl) (Nat.le_of_ble_eq_true rfl) dX1_init_6 (fun w1 hw1 hag1 => ?_)
  have n1 : w1.1 = 45 := by have q : w1.1 = w.1 + 1 := hw1; rw [q, hb]
  have a1 : ∀ i, i < 44 → w1.2 i = w.2 i := fun i h => hag1 i (by show i < w.1; rw [hb]; exact h)
  show G (w1, 1, 4) (va_up f w.1 (eRefs cy 4 4 (fun _ => none))) [(0, .ref (w.2 43))] 9 [.ref (w1.2 w.1), .ref (w.2 43)]
  rw [← a1 43 (by decide), hb]
  refine zr_putF X zfd_RX1_11 zty_1_0 rfl 43 (show 43 < w1.1 by omega) ((va_up_ne _ _ (by decide)).trans h0) (fs' := [.ref (w1.2 44), .int 0]) rfl rfl (Nat.le_of_ble_eq_true rfl) rfl dX1_init_9 ?_
  refine zr_iconst X (v := 0) dX1_init_12 (by decide) ?_
  refine zr_istore_n X (ls' := [(1, .int 0), (0, .ref (w1.2 43))]) dX1_init_13 rfl (by decide) rfl ?_
  refine zr_loc X (ls' := [(0, .ref (w1.2 43)), (1, .int 0)]) [1, 0] rfl ?_
  have eW : va_up (va_up f 44 (eRefs cy 4 4 (fun _ => none))) 43 (.inr (1, [.ref (w1.2 44), .int 0])) = zHq w1 cy f 0 := by
    funext t
    by_cases h1 : t = 43
    · subst h1
      exact va_up_self _ _ _
    · rw [va_up_ne _ _ h1]
      by_cases h2 : t = 44
      · subst h2
        rw [va_up_self]
        exact congrArg (eRefs cy 4 4) (funext fun k => (if_neg (Nat.not_lt_zero k)).symm)
      · rw [va_up_ne _ _ h2, zHq_out h1 h2 (by omega)]
  rw [eW]
  refine zdown (P := fun n => ∀ wn : zW, wn.1 = 45 + 21 * n → (∀ i, i < 44 → wn.2 i = w.2 i) → G (wn, 1 + 21 * n, 4 + 156 * n) (zHq wn cy f n) [(0, .ref (wn.2 43)), (1, .int (nI n))] 14 []) (B := 4) ?_ (fun n hn ih => ?_) 0 (Nat.zero_le _) w1 n1 a1
  · intro wn hn0 hz
    refine zr_iload_n X 1 dX1_init_14 rfl rfl ?_
    refine zr_aload_n X 0 dX1_init_15 rfl rfl ?_
    refine zr_get X zfd_RX1_11 43 (show 43 < wn.1 by omega) (show zHq wn cy f 4 43 = .inr (1, [.ref (wn.2 44), .int 0]) from rfl) (v := .ref (wn.2 44)) rfl dX1_init_16 ?_
    refine zr_alen X 44 (show 44 < wn.1 by omega) (b := 4) rfl (show zHq wn cy f 4 44 = eRefs cy 4 4 (fun k => if k < 4 then some (wn.2 (45 + 21 * k)) else none) from rfl) (v := 4) rfl dX1_init_19 ?_
    refine zr_icmp_ge X (tgt := 42) dX1_init_20 (by decide) (fun _ => ?_) (fun h => absurd (by decide) h)
    refine zrow_ext X (t := 44) (a2 := fun k9 => some (wn.2 (45 + 21 * id k9))) (show zHq wn cy f 4 44 = eRefs cy 4 4 (fun k => if k < 4 then some (wn.2 (45 + 21 * k)) else none) from rfl) (fun k hk => if_pos hk) ?_
    exact E.2.1 (wn, 85, 628) _ _ _ rfl dX1_init_42 (Nat.le_of_ble_eq_true rfl) (Nat.le_of_ble_eq_true rfl) ⟨by show w.1 ≤ wn.1; omega, fun i hi => hz i (by omega)⟩ ⟨rfl, by show wn.1 = w.1 + 85; omega, fun i hi => hz i (by omega), rfl⟩
  · intro wn hn0 hz
    refine zr_iload_n X 1 dX1_init_14 rfl rfl ?_
    refine zr_aload_n X 0 dX1_init_15 rfl rfl ?_
    refine zr_get X zfd_RX1_11 43 (show 43 < wn.1 by omega) (show zHq wn cy f n 43 = .inr (1, [.ref (wn.2 44), .int 0]) from rfl) (v := .ref (wn.2 44)) rfl dX1_init_16 ?_
    refine zr_alen X 44 (show 44 < wn.1 by omega) (b := 4) rfl (show zHq wn cy f n 44 = eRefs cy 4 4 (fun k => if k < n then some (wn.2 (45 + 21 * k)) else none) from rfl) (v := 4) rfl dX1_init_19 ?_
    refine zr_icmp_ge X (tgt := 42) dX1_init_20 (by decide) (fun h => False.elim (nI_ge hn (by decide) h)) (fun _ => ?_)
    refine zr_aload_n X 0 dX1_init_23 rfl rfl ?_
    refine zr_get X zfd_RX1_11 43 (show 43 < wn.1 by omega) (show zHq wn cy f n 43 = .inr (1, [.ref (wn.2 44), .int 0]) from rfl) (v := .ref (wn.2 44)) rfl dX1_init_24 ?_
    refine zr_iload_n X 1 dX1_init_27 rfl rfl ?_
    refine zr_new X (ci := 2) (fs := [.null, .null, .null, .null, .null, .int 0, .int 0, .int 0, .int 0, .int 0]) rfl zin_X2 tyX2_ok zm_1_217 zm_1_20 zm_1_2 (fun j hj => by match j, hj with | 0, _ => rfl | 1, _ => rfl | 2, _ => rfl | 3, _ => rfl | 4, _ => rfl | 5, _ => rfl | 6, _ => rfl | 7, _ => rfl | 8, _ => rfl | 9, _ => rfl) (show 1 + 21 * n + 1 ≤ 85 by omega) (show 4 + 156 * n + 10 ≤ 628 by omega) dX1_init_28 (fun v hv hagv => ?_)
    have nv : v.1 = 45 + 21 * n + 1 := by have q : v.1 = wn.1 + 1 := hv; omega
    have av : ∀ i, i < 45 + 21 * n → v.2 i = wn.2 i := fun i h => hagv i (by show i < wn.1; omega)
    show G (v, 1 + 21 * n + 1, 4 + 156 * n + 10) (va_up (zHq wn cy f n) wn.1 (.inr (2, [.null, .null, .null, .null, .null, .int 0, .int 0, .int 0, .int 0, .int 0]))) [(0, .ref (wn.2 43)), (1, .int (nI n))] 31 [.ref (v.2 wn.1), .int (nI n), .ref (wn.2 44)]
    rw [hn0, ← av 43 (by omega), ← av 44 (by omega)]
    refine zworld_ext X (f2 := va_up (zHq v cy f n) (45 + 21 * n) (.inr (2, [.null, .null, .null, .null, .null, .int 0, .int 0, .int 0, .int 0, .int 0]))) (fun t _ => zsim_up (fun t => zHq_sim (by omega) av t) t) ?_
    refine zr_dup X dX1_init_31 rfl ?_
    refine zr_callI X (As := []) (rest := [.ref (v.2 (45 + 21 * n)), .int (nI n), .ref (v.2 44)]) (45 + 21 * n) (k_Hut_init (b := 45 + 21 * n) nv (va_up_self _ _ _)) zc_X2_init.2.2.2.2 zc_X2_init.1 zc_X2_init.2.1 ⟨Nat.le_of_ble_eq_true rfl, Nat.le_of_ble_eq_true rfl, (show 1 + 21 * n + 1 + 20 ≤ 85 by omega), (show 4 + 156 * n + 10 + 146 ≤ 628 by omega)⟩ rfl (Nat.le_of_ble_eq_true rfl) zm_1_219 rfl zc_X2_init.2.2.1 rfl dX1_init_32 (fun r9 u f9 hp => ?_)
    obtain ⟨rfl, hu, hagu, rfl⟩ := hp
    have nu9 : u.1 = 45 + 21 * (n + 1) := by have q : u.1 = v.1 + 20 := hu; omega
    have au : ∀ i, i < 45 + 21 * n + 1 → u.2 i = v.2 i := fun i h => hagu i (by omega)
    have zu : ∀ i, i < 44 → u.2 i = w.2 i := fun i h => (au i (by omega)).trans ((av i (by omega)).trans (hz i h))
    show G (u, 1 + 21 * n + 1 + 20, 4 + 156 * n + 10 + 146) (zPut (va_up (zHq v cy f n) (45 + 21 * n) (.inr (2, [.null, .null, .null, .null, .null, .int 0, .int 0, .int 0, .int 0, .int 0]))) (45 + 21 * n) (zHut u cy (45 + 21 * n) id sIni)) [(0, .ref (v.2 43)), (1, .int (nI n))] 35 [.ref (v.2 (45 + 21 * n)), .int (nI n), .ref (v.2 44)]
    rw [← au 43 (by omega), ← au 44 (by omega), ← au (45 + 21 * n) (by omega)]
    refine zcw (f2 := zPut (zHq v cy f n) (45 + 21 * n) (zHut u cy (45 + 21 * n) id sIni)) (zPut_upb (o := 0) (by decide)) ?_
    refine zworld_ext X (f2 := zPut (zHq u cy f n) (45 + 21 * n) (zHut u cy (45 + 21 * n) id sIni)) (fun t _ => zsim_put (fun t => zHq_sim (by omega) (fun i hi => au i (by omega)) t) t) ?_
    refine zr_aast X 44 (show 44 < u.1 by omega) (b := 4) (ci := 2) (r := (RX2, TX2, 10)) rfl rfl ((zPut_out (by omega)).trans (show zHq u cy f n 44 = eRefs cy 4 4 (fun k => if k < n then some (u.2 (45 + 21 * k)) else none) from rfl)) n rfl hn (by decide) (45 + 21 * n) (show 45 + 21 * n < u.1 by omega) ((zPut_in (o := 0) (by decide)).trans rfl) dX1_init_35 ?_
    refine zcw (f2 := zHq u cy f (n + 1)) (zHq_new hn) ?_
    refine zr_iinc X (v := nI (n + 1)) (ls' := [(1, .int (nI (n + 1))), (0, .ref (u.2 43))]) 1 dX1_init_36 rfl (zinc1 _) (by decide) rfl ?_
    refine zr_loc X (ls' := [(0, .ref (u.2 43)), (1, .int (nI (n + 1)))]) [1, 0] rfl ?_
    refine zr_goto X (tgt := 14) dX1_init_39 (by decide) ?_
    have k := ih u nu9 zu
    rw [show 1 + 21 * (n + 1) = 1 + 21 * n + 1 + 20 by omega, show 4 + 156 * (n + 1) = 4 + 156 * n + 10 + 146 by omega] at k
    exact k
