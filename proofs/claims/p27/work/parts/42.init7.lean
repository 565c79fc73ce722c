theorem zsim_up2 {cy : Nat → ClassId} {f f2 : zF} {b : Nat} {e e2 : va_E} (he : zsim cy e e2) (h : ∀ t, zsim cy (f t) (f2 t)) (t : Nat) : zsim cy (va_up f b e t) (va_up f2 b e2 t) := by
  by_cases q : t = b
  · subst q
    rw [va_up_self, va_up_self]
    exact he
  · rw [va_up_ne _ _ q, va_up_ne _ _ q]
    exact h t
theorem zsim_put2 {cy : Nat → ClassId} {f f2 : zF} {b : Nat} {g g2 : Nat → va_E} (hg : ∀ o, o < 21 → zsim cy (g o) (g2 o)) (h : ∀ t, zsim cy (f t) (f2 t)) (t : Nat) : zsim cy (zPut f b g t) (zPut f2 b g2 t) := by
  unfold zPut
  by_cases q : b ≤ t ∧ t < b + 21
  · rw [if_pos q, if_pos q]
    exact hg _ (by omega)
  · rw [if_neg q, if_neg q]
    exact h t
theorem zHq_sim2 {w w' : zW} {cy : Nat → ClassId} {f f2 : zF} {n : Nat} (hn : n ≤ 4) (h : ∀ i, i < 45 + 21 * n → w'.2 i = w.2 i) (hf : ∀ t, zsim cy (f t) (f2 t)) (t : Nat) : zsim cy (zHq w cy f n t) (zHq w' cy f2 n t) := by
  by_cases q : t ≠ 43 ∧ t ≠ 44 ∧ (t < 45 ∨ 45 + 21 * n ≤ t)
  · rw [zHq_out q.1 q.2.1 q.2.2, zHq_out q.1 q.2.1 q.2.2]
    exact hf t
  · have k := zHq_sim (cy := cy) (f := f) hn h t
    have e : zHq w' cy f n t = zHq w' cy f2 n t := by
      by_cases h1 : t = 43
      · subst h1; rfl
      · by_cases h2 : t = 44
        · subst h2; rfl
        · unfold zHq
          rw [if_neg h1, if_neg h2, if_neg h1, if_neg h2, if_pos (by omega), if_pos (by omega)]
    rw [← e]
    exact k
def cW1 (w : zW) (cy : Nat → ClassId) (f : zF) : zF := va_up (zPut f 1 (zHut w cy 1 id sIni)) 0 (.inr (8, [.ref (w.2 1), .null, .null, .null]))
def cW2 (w : zW) (cy : Nat → ClassId) (f : zF) : zF := va_up (zPut (cW1 w cy f) 22 (zHut w cy 22 id sIni)) 0 (.inr (8, [.ref (w.2 1), .ref (w.2 22), .null, .null]))
def cW3 (w : zW) (cy : Nat → ClassId) (f : zF) : zF := va_up (va_up (zHq w cy (va_up (cW2 w cy f) 43 (.inr (1, [.null, .int 0]))) 4) 44 (eHra w cy id)) 0 (.inr (8, [.ref (w.2 1), .ref (w.2 22), .ref (w.2 43), .null]))
def cWo (w : zW) (cy : Nat → ClassId) (g : zF) : zF := va_up (va_up (va_up (va_up g 129 (.inr (5, [.null, .null, .int 0, .int 0, .int 0, .int 0, .int 0]))) 130 (eChars cy 60 (fun _ => 0))) 131 (eInts cy 3 (fun _ => 0))) 129 (.inr (5, [.ref (w.2 130), .ref (w.2 131), .int 0, .int 0, .int 0, .int 0, .int 0]))
def cW4 (w : zW) (cy : Nat → ClassId) (f : zF) : zF := va_up (cWo w cy (cW3 w cy f)) 0 (eHL w)
theorem cW1_sim {w w' : zW} {cy : Nat → ClassId} {f : zF} (h : ∀ i, i < 22 → w'.2 i = w.2 i) : ∀ t, zsim cy (cW1 w cy f t) (cW1 w' cy f t) :=
  zsim_up2 (.inl (by rw [h 1 (by decide)])) (zsim_put2 (fun o ho => zHut_sim ho (fun i hi => h i (by omega))) (fun t => .inl rfl))
theorem cW2_sim {w w' : zW} {cy : Nat → ClassId} {f : zF} (h : ∀ i, i < 43 → w'.2 i = w.2 i) : ∀ t, zsim cy (cW2 w cy f t) (cW2 w' cy f t) :=
  zsim_up2 (.inl (by rw [h 1 (by decide), h 22 (by decide)])) (zsim_put2 (fun o ho => zHut_sim ho (fun i hi => h i (by omega))) (cW1_sim (fun i hi => h i (by omega))))
theorem eHra_sim {w w' : zW} {cy : Nat → ClassId} (h : ∀ i, i < 129 → w'.2 i = w.2 i) : zsim cy (eHra w cy id) (eHra w' cy id) := .inr ⟨4, 4, _, _, rfl, rfl, fun k hk => by rw [show id k = k from rfl, h _ (by omega)]⟩
theorem cW3_sim {w w' : zW} {cy : Nat → ClassId} {f : zF} (h : ∀ i, i < 129 → w'.2 i = w.2 i) : ∀ t, zsim cy (cW3 w cy f t) (cW3 w' cy f t) :=
  zsim_up2 (.inl (by rw [h 1 (by decide), h 22 (by decide), h 43 (by decide)])) (zsim_up2 (eHra_sim h) (zHq_sim2 (by decide) (fun i hi => h i (by omega)) (zsim_up2 (.inl rfl) (cW2_sim (fun i hi => h i (by omega))))))
theorem cWo_sim {w w' : zW} {cy : Nat → ClassId} {g g2 : zF} (h : ∀ i, i < 132 → w'.2 i = w.2 i) (hg : ∀ t, zsim cy (g t) (g2 t)) : ∀ t, zsim cy (cWo w cy g t) (cWo w' cy g2 t) :=
  zsim_up2 (.inl (by rw [h 130 (by decide), h 131 (by decide)])) (zsim_up2 (.inl rfl) (zsim_up2 (.inl rfl) (zsim_up2 (.inl rfl) hg)))
theorem cW4_sim {w w' : zW} {cy : Nat → ClassId} {f : zF} (h : ∀ i, i < 132 → w'.2 i = w.2 i) : ∀ t, zsim cy (cW4 w cy f t) (cW4 w' cy f t) :=
  zsim_up2 (.inl (by unfold eHL; rw [h 1 (by decide), h 22 (by decide), h 43 (by decide), h 129 (by decide)])) (cWo_sim h (cW3_sim (fun i hi => h i (by omega))))
set_option maxHeartbeats 4000000 in
set_option maxRecDepth 100000 in
theorem k_HutLoaves_init {l : Launch} {D : va_G} {cy : Nat → ClassId} {w : zW} {f : zF} (hb : w.1 = 1) (h0 : f 0 = .inr (8, [.null, .null, .null, .null])) : zM l D cy yX8_init cX8_init 1 none { frames := 4, cells := 131, slots := 1012, locals := 160 } [.ref (w.2 0)] w f (fun r w' g => r = none ∧ w'.1 = w.1 + 131 ∧ (∀ i, i < w.1 → w'.2 i = w.2 i) ∧ g = cW4 w' cy f) := by
  refine zM.intro (by decide) (Nat.le_of_ble_eq_true rfl) (fun G X E => ?_)
  show G (w, 0, 0) f [(0, .ref (w.2 0))] 0 []
  refine zr_aload_n X 0 dX8_init_0 rfl rfl ?_
  refine zr_objInit X zm_1_16 (by decide) (by decide) dX8_init_1 ?_
  refine zr_aload_n X 0 dX8_init_4 rfl rfl ?_
  refine zr_new X (ci := 2) (fs := [.null, .null, .null, .null, .null, .int 0, .int 0, .int 0, .int 0, .int 0]) rfl zin_X2 tyX2_ok zm_1_19 zm_1_20 zm_1_2 (fun j hj => by match j, hj with | 0, _ => rfl | 1, _ => rfl | 2, _ => rfl | 3, _ => rfl | 4, _ => rfl | 5, _ => rfl | 6, _ => rfl | 7, _ => rfl | 8, _ => rfl | 9, _ => rfl) (Nat.le_of_ble_eq_true rfl) (Nat.le_of_ble_eq_true rfl) dX8_init_5 (fun v1 hv1 gv1 => ?_)
  have nv1 : v1.1 = 2 := by have q : v1.1 = w.1 + 1 := hv1; omega
  have av1 : ∀ i, i < 1 → v1.2 i = w.2 i := fun i h => gv1 i (by show i < w.1; omega)
  have zv1 : ∀ i, i < 1 → v1.2 i = w.2 i := fun i h => (av1 i (by omega))
  show G (v1, 1, 10) (va_up f w.1 (.inr (2, [.null, .null, .null, .null, .null, .int 0, .int 0, .int 0, .int 0, .int 0]))) [(0, .ref (w.2 0))] 8 [.ref (v1.2 w.1), .ref (w.2 0)]
  rw [hb, ← av1 0 (by omega)]
  refine zr_dup X dX8_init_8 rfl ?_
  refine zr_callI X (As := []) (rest := [.ref (v1.2 1), .ref (v1.2 0)]) 1 (k_Hut_init (b := 1) nv1 (va_up_self _ _ _)) zc_X2_init.2.2.2.2 zc_X2_init.1 zc_X2_init.2.1 ⟨Nat.le_of_ble_eq_true rfl, Nat.le_of_ble_eq_true rfl, Nat.le_of_ble_eq_true rfl, Nat.le_of_ble_eq_true rfl⟩ rfl (Nat.le_of_ble_eq_true rfl) zm_1_21 rfl zc_X2_init.2.2.1 rfl dX8_init_9 (fun r9 u1 f9 hp => ?_)
  obtain ⟨rfl, hu1, gu1, rfl⟩ := hp
  have nu1 : u1.1 = 22 := by have q : u1.1 = v1.1 + 20 := hu1; omega
  have au1 : ∀ i, i < 2 → u1.2 i = v1.2 i := fun i h => gu1 i (by show i < v1.1; omega)
  have zu1 : ∀ i, i < 1 → u1.2 i = w.2 i := fun i h => (au1 i (by omega)).trans (zv1 i h)
  show G (u1, 21, 156) (zPut (va_up f 1 (.inr (2, [.null, .null, .null, .null, .null, .int 0, .int 0, .int 0, .int 0, .int 0]))) 1 (zHut u1 cy 1 id sIni)) [(0, .ref (v1.2 0))] 12 [.ref (v1.2 1), .ref (v1.2 0)]
  rw [← au1 0 (by omega), ← au1 1 (by omega)]
  refine zcw (f2 := zPut f 1 (zHut u1 cy 1 id sIni)) (zPut_upb (o := 0) (by decide)) ?_
  refine zr_putF X zfd_RX8_10 zty_8_0 rfl 0 (show 0 < u1.1 by omega) ((zPut_out (by omega)).trans h0) (fs' := [.ref (u1.2 1), .null, .null, .null]) rfl rfl (Nat.le_of_ble_eq_true rfl) rfl dX8_init_12 ?_
  show G (u1, 21, 156) (cW1 u1 cy f) [(0, .ref (u1.2 0))] 15 []
  refine zr_aload_n X 0 dX8_init_15 rfl rfl ?_
  refine zr_new X (ci := 2) (fs := [.null, .null, .null, .null, .null, .int 0, .int 0, .int 0, .int 0, .int 0]) rfl zin_X2 tyX2_ok zm_1_19 zm_1_20 zm_1_2 (fun j hj => by match j, hj with | 0, _ => rfl | 1, _ => rfl | 2, _ => rfl | 3, _ => rfl | 4, _ => rfl | 5, _ => rfl | 6, _ => rfl | 7, _ => rfl | 8, _ => rfl | 9, _ => rfl) (Nat.le_of_ble_eq_true rfl) (Nat.le_of_ble_eq_true rfl) dX8_init_16 (fun v2 hv2 gv2 => ?_)
  have nv2 : v2.1 = 23 := by have q : v2.1 = u1.1 + 1 := hv2; omega
  have av2 : ∀ i, i < 22 → v2.2 i = u1.2 i := fun i h => gv2 i (by show i < u1.1; omega)
  have zv2 : ∀ i, i < 1 → v2.2 i = w.2 i := fun i h => (av2 i (by omega)).trans (zu1 i h)
  show G (v2, 22, 166) (va_up (cW1 u1 cy f) u1.1 (.inr (2, [.null, .null, .null, .null, .null, .int 0, .int 0, .int 0, .int 0, .int 0]))) [(0, .ref (u1.2 0))] 19 [.ref (v2.2 u1.1), .ref (u1.2 0)]
  rw [nu1, ← av2 0 (by omega)]
  refine zworld_ext X (f2 := va_up (cW1 v2 cy f) 22 (.inr (2, [.null, .null, .null, .null, .null, .int 0, .int 0, .int 0, .int 0, .int 0]))) (fun t _ => zsim_up2 (.inl rfl) (cW1_sim av2) t) ?_
  refine zr_dup X dX8_init_19 rfl ?_
  refine zr_callI X (As := []) (rest := [.ref (v2.2 22), .ref (v2.2 0)]) 22 (k_Hut_init (b := 22) nv2 (va_up_self _ _ _)) zc_X2_init.2.2.2.2 zc_X2_init.1 zc_X2_init.2.1 ⟨Nat.le_of_ble_eq_true rfl, Nat.le_of_ble_eq_true rfl, Nat.le_of_ble_eq_true rfl, Nat.le_of_ble_eq_true rfl⟩ rfl (Nat.le_of_ble_eq_true rfl) zm_1_21 rfl zc_X2_init.2.2.1 rfl dX8_init_20 (fun r9 u2 f9 hp => ?_)
  obtain ⟨rfl, hu2, gu2, rfl⟩ := hp
  have nu2 : u2.1 = 43 := by have q : u2.1 = v2.1 + 20 := hu2; omega
  have au2 : ∀ i, i < 23 → u2.2 i = v2.2 i := fun i h => gu2 i (by show i < v2.1; omega)
  have zu2 : ∀ i, i < 1 → u2.2 i = w.2 i := fun i h => (au2 i (by omega)).trans (zv2 i h)
  show G (u2, 42, 312) (zPut (va_up (cW1 v2 cy f) 22 (.inr (2, [.null, .null, .null, .null, .null, .int 0, .int 0, .int 0, .int 0, .int 0]))) 22 (zHut u2 cy 22 id sIni)) [(0, .ref (v2.2 0))] 23 [.ref (v2.2 22), .ref (v2.2 0)]
  rw [← au2 0 (by omega), ← au2 22 (by omega)]
  refine zcw (f2 := zPut (cW1 v2 cy f) 22 (zHut u2 cy 22 id sIni)) (zPut_upb (o := 0) (by decide)) ?_
  refine zworld_ext X (f2 := (zPut (cW1 u2 cy f) 22 (zHut u2 cy 22 id sIni))) (fun t _ => zsim_put (cW1_sim (fun i hi => au2 i (by omega))) t) ?_
  refine zr_putF X zfd_RX8_16 zty_8_1 rfl 0 (show 0 < u2.1 by omega) ((zPut_out (by omega)).trans (va_up_self _ _ _)) (fs' := [.ref (u2.2 1), .ref (u2.2 22), .null, .null]) rfl rfl (Nat.le_of_ble_eq_true rfl) rfl dX8_init_23 ?_
  show G (u2, 42, 312) (cW2 u2 cy f) [(0, .ref (u2.2 0))] 26 []
  refine zr_aload_n X 0 dX8_init_26 rfl rfl ?_
  refine zr_new X (ci := 1) (fs := [.null, .int 0]) rfl zin_X1 tyX1_ok zm_1_211 zm_1_212 zm_1_8 (fun j hj => by match j, hj with | 0, _ => rfl | 1, _ => rfl) (Nat.le_of_ble_eq_true rfl) (Nat.le_of_ble_eq_true rfl) dX8_init_27 (fun v3 hv3 gv3 => ?_)
  have nv3 : v3.1 = 44 := by have q : v3.1 = u2.1 + 1 := hv3; omega
  have av3 : ∀ i, i < 43 → v3.2 i = u2.2 i := fun i h => gv3 i (by show i < u2.1; omega)
  have zv3 : ∀ i, i < 1 → v3.2 i = w.2 i := fun i h => (av3 i (by omega)).trans (zu2 i h)
  show G (v3, 43, 314) (va_up (cW2 u2 cy f) u2.1 (.inr (1, [.null, .int 0]))) [(0, .ref (u2.2 0))] 30 [.ref (v3.2 u2.1), .ref (u2.2 0)]
  rw [nu2, ← av3 0 (by omega)]
  refine zworld_ext X (f2 := va_up (cW2 v3 cy f) 43 (.inr (1, [.null, .int 0]))) (fun t _ => zsim_up2 (.inl rfl) (cW2_sim av3) t) ?_
  refine zr_dup X dX8_init_30 rfl ?_
  refine zr_callI X (As := []) (rest := [.ref (v3.2 43), .ref (v3.2 0)]) 43 (k_History_init nv3 (va_up_self _ _ _)) zc_X1_init.2.2.2.2 zc_X1_init.1 zc_X1_init.2.1 ⟨Nat.le_of_ble_eq_true rfl, Nat.le_of_ble_eq_true rfl, Nat.le_of_ble_eq_true rfl, Nat.le_of_ble_eq_true rfl⟩ rfl (Nat.le_of_ble_eq_true rfl) zm_1_213 rfl zc_X1_init.2.2.1 rfl dX8_init_31 (fun r9 u3 f9 hp => ?_)
  obtain ⟨rfl, hu3, gu3, rfl⟩ := hp
  have nu3 : u3.1 = 129 := by have q : u3.1 = v3.1 + 85 := hu3; omega
  have au3 : ∀ i, i < 44 → u3.2 i = v3.2 i := fun i h => gu3 i (by show i < v3.1; omega)
  have zu3 : ∀ i, i < 1 → u3.2 i = w.2 i := fun i h => (au3 i (by omega)).trans (zv3 i h)
  show G (u3, 128, 942) (va_up (zHq u3 cy (va_up (cW2 v3 cy f) 43 (.inr (1, [.null, .int 0]))) 4) 44 (eHra u3 cy id)) [(0, .ref (v3.2 0))] 34 [.ref (v3.2 43), .ref (v3.2 0)]
  rw [← au3 0 (by omega), ← au3 43 (by omega)]
  refine zworld_ext X (f2 := (va_up (zHq u3 cy (va_up (cW2 u3 cy f) 43 (.inr (1, [.null, .int 0]))) 4) 44 (eHra u3 cy id))) (fun t _ => zsim_up2 (.inl rfl) (zHq_sim2 (by decide) (fun _ _ => rfl) (zsim_up2 (.inl rfl) (cW2_sim (fun i hi => au3 i (by omega))))) t) ?_
  refine zr_putF X zfd_RX8_22 zty_8_2 rfl 0 (show 0 < u3.1 by omega) ((va_up_ne _ _ (by decide)).trans ((zHq_out (by decide) (by decide) (by decide)).trans ((va_up_ne _ _ (by decide)).trans (va_up_self _ _ _)))) (fs' := [.ref (u3.2 1), .ref (u3.2 22), .ref (u3.2 43), .null]) rfl rfl (Nat.le_of_ble_eq_true rfl) rfl dX8_init_34 ?_
  show G (u3, 128, 942) (cW3 u3 cy f) [(0, .ref (u3.2 0))] 37 []
  refine zr_aload_n X 0 dX8_init_37 rfl rfl ?_
  refine zr_new X (ci := 5) (fs := [.null, .null, .int 0, .int 0, .int 0, .int 0, .int 0]) rfl zin_X5 tyX5_ok zm_1_228 zm_1_229 zm_1_9 (fun j hj => by match j, hj with | 0, _ => rfl | 1, _ => rfl | 2, _ => rfl | 3, _ => rfl | 4, _ => rfl | 5, _ => rfl | 6, _ => rfl) (Nat.le_of_ble_eq_true rfl) (Nat.le_of_ble_eq_true rfl) dX8_init_38 (fun v4 hv4 gv4 => ?_)
  have nv4 : v4.1 = 130 := by have q : v4.1 = u3.1 + 1 := hv4; omega
  have av4 : ∀ i, i < 129 → v4.2 i = u3.2 i := fun i h => gv4 i (by show i < u3.1; omega)
  have zv4 : ∀ i, i < 1 → v4.2 i = w.2 i := fun i h => (av4 i (by omega)).trans (zu3 i h)
  show G (v4, 129, 949) (va_up (cW3 u3 cy f) u3.1 (.inr (5, [.null, .null, .int 0, .int 0, .int 0, .int 0, .int 0]))) [(0, .ref (u3.2 0))] 41 [.ref (v4.2 u3.1), .ref (u3.2 0)]
  rw [nu3, ← av4 0 (by omega)]
  refine zworld_ext X (f2 := va_up (cW3 v4 cy f) 129 (.inr (5, [.null, .null, .int 0, .int 0, .int 0, .int 0, .int 0]))) (fun t _ => zsim_up2 (.inl rfl) (cW3_sim av4) t) ?_
  refine zr_dup X dX8_init_41 rfl ?_
  refine zr_callIN X (As := []) (rest := [.ref (v4.2 129), .ref (v4.2 0)]) 129 (k_Orders_init (t := 129) nv4 (va_up_self _ _ _)) zc_X5_init.2.2.2.2 zc_X5_init.1 zc_X5_init.2.1 ⟨Nat.le_of_ble_eq_true rfl, Nat.le_of_ble_eq_true rfl, Nat.le_of_ble_eq_true rfl, Nat.le_of_ble_eq_true rfl⟩ rfl (Nat.le_of_ble_eq_true rfl) (List.mem_of_getElem? (i := 36) rfl) rfl zc_X5_init.2.2.1 rfl dX8_init_42 (fun r9 u4 f9 hp => ?_)
  obtain ⟨rfl, hu4, gu4, rfl⟩ := hp
  have nu4 : u4.1 = 132 := by have q : u4.1 = v4.1 + 2 := hu4; omega
  have au4 : ∀ i, i < 130 → u4.2 i = v4.2 i := fun i h => gu4 i (by show i < v4.1; omega)
  have zu4 : ∀ i, i < 1 → u4.2 i = w.2 i := fun i h => (au4 i (by omega)).trans (zv4 i h)
  show G (u4, 131, 1012) (cWo u4 cy (cW3 v4 cy f)) [(0, .ref (v4.2 0))] 45 [.ref (v4.2 129), .ref (v4.2 0)]
  rw [← au4 0 (by omega), ← au4 129 (by omega)]
  refine zworld_ext X (f2 := (cWo u4 cy (cW3 u4 cy f))) (fun t _ => cWo_sim (fun _ _ => rfl) (cW3_sim (fun i hi => au4 i (by omega))) t) ?_
  refine zr_putF X zfd_RX8_29 zty_8_3 rfl 0 (show 0 < u4.1 by omega) ((va_up_ne _ _ (by decide)).trans ((va_up_ne _ _ (by decide)).trans ((va_up_ne _ _ (by decide)).trans ((va_up_ne _ _ (by decide)).trans (va_up_self _ _ _))))) (fs' := [.ref (u4.2 1), .ref (u4.2 22), .ref (u4.2 43), .ref (u4.2 129)]) rfl rfl (Nat.le_of_ble_eq_true rfl) rfl dX8_init_45 ?_
  show G (u4, 131, 1012) (cW4 u4 cy f) [(0, .ref (u4.2 0))] 48 []
  exact E.2.1 (u4, 131, 1012) _ _ _ rfl dX8_init_48 (Nat.le_of_ble_eq_true rfl) (Nat.le_of_ble_eq_true rfl) ⟨by show w.1 ≤ u4.1; omega, fun i hi => zu4 i (by omega)⟩ ⟨rfl, by show u4.1 = w.1 + 131; omega, fun i hi => zu4 i (by omega), rfl⟩
