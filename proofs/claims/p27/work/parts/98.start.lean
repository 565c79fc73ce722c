theorem zNests_tb : ∀ x ∈ zNests, x ∈ lw_tbl := by decide +kernel
theorem zNests_on : ∀ x ∈ zNests, x.onTables = true := by decide +kernel
/-- what the machine knows at the law's entry -/
theorem law_K {p : Program} {s : State} {m : MethodId} {meth : Method} {c : Code} {b L : Nat} {xs : Nat → Int32} (C0 : lw_At p s m meth c b L xs) : ∃ (D : va_G) (cy : Nat → ClassId), zK D cy (fun q => s.heap.size ≤ q) s := by
  obtain ⟨hx, hb, hr, hml, hown, hts, hX, hbl, hlocks, hgv⟩ := C0
  have zts : ∀ w ∈ zTb, w.before #[Value.ref b] s = true := fun w h => hts w (zTb_lw h)
  obtain ⟨c0, iS0, hK0⟩ := u_known (C := RX0) (T := TX0) (N := 6) (n := 6) zts zin_X0 (zts (.instantiable RX0 6) zm_1_148)
  obtain ⟨c1, iS1, hK1⟩ := u_known (C := RX1) (T := TX1) (N := 2) (n := 2) zts zin_X1 (zts (.instantiable RX1 2) zm_1_212)
  obtain ⟨c2, iS2, hK2⟩ := u_known (C := RX2) (T := TX2) (N := 10) (n := 10) zts zin_X2 (zts (.instantiable RX2 10) zm_1_20)
  obtain ⟨c3, iS3, hK3⟩ := u_known (C := RX3) (T := TX3) (N := 10) (n := 10) zts zin_X3 (zts (.instantiable RX3 10) zm_1_41)
  obtain ⟨c4, iS4, hK4⟩ := u_known (C := RX4) (T := TX4) (N := 9) (n := 9) zts zin_X4 (zts (.instantiable RX4 9) zm_1_110)
  obtain ⟨c5, iS5, hK5⟩ := u_known (C := RX5) (T := TX5) (N := 7) (n := 7) zts zin_X5 (zts (.instantiable RX5 7) zm_1_229)
  obtain ⟨c6, iS6, hK6⟩ := u_known (C := RX6) (T := TX6) (N := 4) (n := 4) zts zin_X6 (zts (.instantiable RX6 4) zm_1_88)
  obtain ⟨c7, iS7, hK7⟩ := u_known (C := RX7) (T := TX7) (N := 1) (n := 1) zts zin_X7 (zts (.instantiable RX7 1) zm_1_30)
  obtain ⟨c8, iS8, hK8⟩ := u_known (C := RX8) (T := TX8) (N := 4) (n := 4) zts zin_X8 (zts (.instantiable RX8 4) zm_1_12)
  obtain ⟨D, hD⟩ : ∃ D : va_G, ∀ (k : Nat) (q : vw_C), vwCl[k]? = some q → u_Kn s q.1 q.2.1 q.2.2 (D.1 k) (D.2 k) := by
    refine ⟨(fun k => if k = 0 then c0 else if k = 1 then c1 else if k = 2 then c2 else if k = 3 then c3 else if k = 4 then c4 else if k = 5 then c5 else if k = 6 then c6 else if k = 7 then c7 else c8, fun k => if k = 0 then iS0 else if k = 1 then iS1 else if k = 2 then iS2 else if k = 3 then iS3 else if k = 4 then iS4 else if k = 5 then iS5 else if k = 6 then iS6 else if k = 7 then iS7 else iS8), ?_⟩
    intro k q hq
    match k, hq with
    | 0, hq => cases hq; exact hK0
    | 1, hq => cases hq; exact hK1
    | 2, hq => cases hq; exact hK2
    | 3, hq => cases hq; exact hK3
    | 4, hq => cases hq; exact hK4
    | 5, hq => cases hq; exact hK5
    | 6, hq => cases hq; exact hK6
    | 7, hq => cases hq; exact hK7
    | 8, hq => cases hq; exact hK8
    | k + 9, hq => simp [vwCl] at hq
  obtain ⟨a0, k0, p0, f0, g0, h0⟩ := Cond.arrayClass_spec (zts _ zw_ac_int)
  obtain ⟨a1, k1, p1, f1, g1, h1⟩ := Cond.arrayClass_spec (zts _ zw_ac_char)
  have o2 := hts (.arrayOver (.object RX4)) (by decide +kernel)
  have o3 := hts (.arrayOver (.object RX0)) (by decide +kernel)
  have o4 := hts (.arrayOver (.object RX2)) (by decide +kernel)
  obtain ⟨p2, a2, k2, n2, -, g2, h2, f2⟩ := Cond.arrayOver_spec o2
  obtain ⟨p3, a3, k3, n3, -, g3, h3, f3⟩ := Cond.arrayOver_spec o3
  obtain ⟨p4, a4, k4, n4, -, g4, h4, f4⟩ := Cond.arrayOver_spec o4
  have hA : ∀ a : Nat, a < s.heap.size → ¬ (fun q => s.heap.size ≤ q) a := fun a h => Nat.not_le.mpr h
  have hq := flat_of_before _ hgv
  obtain ⟨tl, tl1, tl2⟩ := va_Tof (ty := .int) (tm := .static "HutLoaves" "LOWEST_VALUES" "[I") (N := 4) (f := zLow) (A := fun q => s.heap.size ≤ q) (by decide) (hq _ (by decide +kernel)) (va_eqt (z := 4) (hq _ (by decide +kernel))) (fun j hj => by
    match j, hj with
    | 0, _ => exact va_eqt (z := 1) (hq _ (by decide +kernel))
    | 1, _ => exact va_eqt (z := 10) (hq _ (by decide +kernel))
    | 2, _ => exact va_eqt (z := 0) (hq _ (by decide +kernel))
    | 3, _ => exact va_eqt (z := 0) (hq _ (by decide +kernel))) hA
  obtain ⟨th, th1, th2⟩ := va_Tof (ty := .int) (tm := .static "HutLoaves" "HIGHEST_VALUES" "[I") (N := 4) (f := zHigh) (A := fun q => s.heap.size ≤ q) (by decide) (hq _ (by decide +kernel)) (va_eqt (z := 4) (hq _ (by decide +kernel))) (fun j hj => by
    match j, hj with
    | 0, _ => exact va_eqt (z := 9) (hq _ (by decide +kernel))
    | 1, _ => exact va_eqt (z := 500) (hq _ (by decide +kernel))
    | 2, _ => exact va_eqt (z := 15) (hq _ (by decide +kernel))
    | 3, _ => exact va_eqt (z := 90) (hq _ (by decide +kernel))) hA
  refine ⟨D, fun k => if k = 0 then a0 else if k = 1 then a1 else if k = 2 then a2 else if k = 3 then a3 else a4, ⟨hD, fun k q hk => ?_⟩, fun x hx => va_Nw.of (zNests_on x hx) (hts x (zNests_tb x hx)), ⟨tl, th, va_Zof (hts _ (by decide +kernel)) (zts _ zm_1_1) tl1 hA, tl2, va_Zof (hts _ (by decide +kernel)) (zts _ zm_1_1) th1 hA, th2⟩, va_AO.of o2, va_AO.of o3, va_AO.of o4⟩
  match k, hk with
  | 0, hk => cases hk; exact ⟨fun n z => ⟨fun k h => (by cases h), k0, g0, p0, h0⟩, f0⟩
  | 1, hk => cases hk; exact ⟨fun n z => ⟨fun k h => (by cases h), k1, g1, p1, h1⟩, f1⟩
  | 2, hk => cases hk; exact ⟨fun n z => ⟨fun k h => (by cases h), k2, g2, p2, h2⟩, k2, p2, g2, h2, n2, f2⟩
  | 3, hk => cases hk; exact ⟨fun n z => ⟨fun k h => (by cases h), k3, g3, p3, h3⟩, k3, p3, g3, h3, n3, f3⟩
  | 4, hk => cases hk; exact ⟨fun n z => ⟨fun k h => (by cases h), k4, g4, p4, h4⟩, k4, p4, g4, h4, n4, f4⟩
  | k + 5, hk => simp at hk
set_option maxHeartbeats 4000000 in
/-- from the entry, for every script of at most 260 ints, the law comes to its end with true -/
theorem whole_start {p : Program} {e : Env} {s : State} {m : MethodId} {below : List Frame} {meth : Method} {c : Code} (l : Launch) (hflags : l.flags = flags0) {b L : Nat} {xs : Nat → Int32} (hL : L ≤ 260) (C0 : lw_At p s m meth c b L xs) : W p l e room_1 s m #[Value.ref b] below meth c s.heap [] 0 0 (lw_Z below #[Value.ref b] s) (entryFrame m ([Value.ref b] : List Value).toArray 9) := by
  obtain ⟨D, cy, hK⟩ := law_K C0
  obtain ⟨hx, hb, hr, hml, hown, hts, hX, hbl, hlocks, hgv⟩ := C0
  have hbA : ¬ (fun q : Nat => s.heap.size ≤ q) b := Nat.not_le.mpr hbl
  have hA : ∀ q, s.heap.size ≤ q → (fun q : Nat => s.heap.size ≤ q) q := fun q h => h
  have zts : ∀ w ∈ zTb, w.before #[Value.ref b] s = true := fun w h => hts w (zTb_lw h)
  have hT0 : va_T .int b L (fun j => .int (xs j)) (fun q : Nat => s.heap.size ≤ q) s s.heap := by
    obtain ⟨scr, h1, h2, h3, h4, h5⟩ := hX
    exact ⟨scr, h1, h2, h3, Nat.le_of_eq h4.symm, by rw [h4], h5, hbA⟩
  have Z : zLw l D cy b meth.name (zG p l e room_1 s m #[Value.ref b] below meth c (lw_Z below #[Value.ref b] s) D 9 (fun q => s.heap.size ≤ q)) := by
    refine ⟨⟨p, e, s, m, #[Value.ref b], below, meth, c, _, _, rfl, hx, hb, hml, rfl, hown, zts, hA, hK⟩, ?_, ?_⟩
    · intro κ f ls pc rest K hK9 hc9 hs9 hW9 hd k H locs arr hP hI hAl hS hl
      obtain ⟨z1, z2, z3, z5⟩ := zc_L_cell
      have hT : GoodIn zTb (va_wsS RL 102 yL_cell (zWs yL_cell cL_cell 2 (some .int))) := zGood (c0 := .initialized yL_cell.cls) (fun x hx => by
        rcases List.mem_append.mp hx with hx | hx
        · simp only [List.mem_cons, List.not_mem_nil, or_false] at hx
          rcases hx with rfl | rfl | rfl
          · exact zm_2_55
          · exact z3
          · exact z2
        · exact zWs_in z1 x hx)
      refine zCall (va_runS (As := [.ref b, .int (nI K)]) (rest := rest) (mc := 0) (ms := 0) ⟨hx, hb, hml, hown, zts⟩ (kl_cell (l := l) (D := D) (cy := cy) (w := κ.1) (f := f) (b := b) (L := L) (xs := xs) hK9 (by omega) H.size) (va_cwS 2 zts hT rfl rfl rfl z5 ⟨Nat.le_of_ble_eq_true rfl, Nat.le_of_ble_eq_true rfl⟩) ⟨zBlindS, fun U hU hW => ⟨rfl, zPre_of hP hI hAl hS hA hK hU hW, ?_⟩⟩ rfl rfl hl.1 rfl (by show 2 * 0 + _ ≤ 8; omega) hd ⟨by show κ.2.1 + 0 ≤ _; exact hc9, by show κ.2.2 + 0 ≤ _; exact hs9⟩) hS (zSub hAl hS hA) (zSub hAl hS hA) (fun r w' f' H1 locs1 hp hP1 hI1 hAl1 _ _ hS1 => ?_)
      · rw [hU]
        exact ((hT0.moved hW.alike).kept (fun a h1 h2 => hS.2.1 a h1 h2)).narrow (zSub hAl hS hA)
      · obtain ⟨rfl, ⟨v, rfl⟩, rfl⟩ := hp
        exact k v H1 locs1 arr hP1 hI1 hAl1 hS1 hl
    · intro κ f ls pc h1 h2 hd H locs arr hP hI hAl hS hl
      refine va_forget (fun q hq => hS.2.2 q hq) ?_
      refine W.widen h1 h2 ?_
      exact lw_ret hx hb hr hlocks hd
  have key := law_entry Z (0, fun _ => 0) rfl (fun _ => .inr (0, [])) s.heap [] _ (fun k q h => by simp [zl] at h) (fun i j hi _ _ => absurd hi (Nat.not_lt_zero i)) (fun i hi => absurd hi (Nat.not_lt_zero i)) va_S.rf (lv_entry [Value.ref b] (n := 9) (Nat.le_of_ble_eq_true rfl))
  rw [lg_entry_eq]
  exact key
