/-! THE BEGINNING: the class's object and the law's rows new -/
theorem cWo_lo {w : zW} {cy : Nat → ClassId} {g : zF} {t : Nat} (h : t < 129) : cWo w cy g t = g t := by
  unfold cWo
  rw [va_up_ne _ _ (by omega), va_up_ne _ _ (by omega), va_up_ne _ _ (by omega), va_up_ne _ _ (by omega)]
theorem cW4_1 {w : zW} {cy : Nat → ClassId} {f : zF} {o : Nat} (ho : o < 21) : cW4 w cy f (1 + o) = zHut w cy 1 id sIni o := by
  unfold cW4
  rw [va_up_ne _ _ (by omega), cWo_lo (by omega)]
  unfold cW3
  rw [va_up_ne _ _ (by omega), va_up_ne _ _ (by omega), zHq_out (by omega) (by omega) (by omega), va_up_ne _ _ (by omega)]
  unfold cW2
  rw [va_up_ne _ _ (by omega), zPut_out (by omega)]
  unfold cW1
  rw [va_up_ne _ _ (by omega), zPut_in ho]
theorem cW4_22 {w : zW} {cy : Nat → ClassId} {f : zF} {o : Nat} (ho : o < 21) : cW4 w cy f (22 + o) = zHut w cy 22 id sIni o := by
  unfold cW4
  rw [va_up_ne _ _ (by omega), cWo_lo (by omega)]
  unfold cW3
  rw [va_up_ne _ _ (by omega), va_up_ne _ _ (by omega), zHq_out (by omega) (by omega) (by omega), va_up_ne _ _ (by omega)]
  unfold cW2
  rw [va_up_ne _ _ (by omega), zPut_in ho]
theorem cW4_45 {w : zW} {cy : Nat → ClassId} {f : zF} {i o : Nat} (hi : i < 4) (ho : o < 21) : cW4 w cy f (45 + 21 * i + o) = zHut w cy (45 + 21 * i) id sIni o := by
  unfold cW4
  rw [va_up_ne _ _ (by omega), cWo_lo (by omega)]
  unfold cW3
  rw [va_up_ne _ _ (by omega), va_up_ne _ _ (by omega)]
  exact zHq_hut hi ho
theorem cW4_43 {w : zW} {cy : Nat → ClassId} {f : zF} : cW4 w cy f 43 = eHis w (nI 0) := by
  unfold cW4
  rw [va_up_ne _ _ (by omega), cWo_lo (by omega)]
  unfold cW3
  rw [va_up_ne _ _ (by omega), va_up_ne _ _ (by omega)]
  rfl
theorem cW4_44 {w : zW} {cy : Nat → ClassId} {f : zF} : cW4 w cy f 44 = eHra w cy id := by
  unfold cW4
  rw [va_up_ne _ _ (by omega), cWo_lo (by omega)]
  unfold cW3
  rw [va_up_ne _ _ (by omega), va_up_self]
theorem zOkE_ini : zOkE (id, sIni) := ⟨0, by decide, fun k hk => hk, rfl, 0, by decide, rfl⟩
theorem St_ini {s : Nat → Int32} (h : ∀ i, i < 136 → s i = sIni i) : St 0 (id, sIni) s := by
  refine St_congr h ⟨0, 0, ⟨fun i _ => rfl, fun m hm => absurd hm (Nat.not_lt_zero m), fun j hj => absurd hj (Nat.not_lt_zero j), fun a _ => rfl, rfl, by decide, rfl, by decide⟩, ⟨fun k hk => hk, fun i j _ _ e => e⟩, fun m hm => absurd hm (Nat.not_lt_zero m), fun j hj => absurd hj (Nat.not_lt_zero j), ⟨⟨?_, ?_⟩, rfl⟩, by decide, by decide, by decide, by decide, fun _ => by decide⟩
  · intro k hk
    have e : sIni (115 + k) = 0 := by
      unfold sIni
      rw [if_neg (by omega), if_neg (by omega), if_neg (by omega), if_neg (by omega), if_neg (by omega)]
    rw [e]
    decide
  · decide
/-- the law's numbers at its beginning -/
def s0L : Nat → Int32 := upd (upd (upd (upd (upd (fun _ => 0) 4 1) 15 2) 16 100) 17 3) 18 10
theorem s0_ini : ∀ i, i < 136 → s0L i = sIni i := by
  intro i hi
  unfold s0L sIni
  by_cases e1 : i = 18
  · rw [e1]
    rfl
  · rw [upd_ne e1]
    by_cases e2 : i = 17
    · rw [e2]
      rfl
    · rw [upd_ne e2]
      by_cases e3 : i = 16
      · rw [e3]
        rfl
      · rw [upd_ne e3]
        by_cases e4 : i = 15
        · rw [e4]
          rfl
        · rw [upd_ne e4]
          by_cases e5 : i = 4
          · rw [e5]
            rfl
          · rw [upd_ne e5, if_neg e5, if_neg e4, if_neg e3, if_neg e2, if_neg e1]
theorem s0_0 {i : Nat} (h : i ≠ 4) (h2 : i < 15 ∨ 18 < i) : s0L i = 0 := by
  unfold s0L
  rw [upd_ne (by omega), upd_ne (by omega), upd_ne (by omega), upd_ne (by omega), upd_ne h]
theorem Jn_ini : Jn 0 0 s0L := by
  refine ⟨fun m hm => absurd hm (Nat.not_lt_zero m), ⟨List.Pairwise.nil, fun a ha => absurd ha List.not_mem_nil⟩, ⟨?_, ?_⟩, ?_, ?_⟩
  · unfold jP
    rw [dLF_congr (t := fun _ => 0) (fun k hk => s0_0 (by omega) (by omega)) 0 21 (by decide)]
    rfl
  · rfl
  · decide
  · decide
theorem LX_start {w : zW} {cy : Nat → ClassId} {f F : zF} (hlo : ∀ t, t < 132 → F t = cW4 w cy f t) : LX w cy F 0 s0L := by
  refine ⟨⟨(id, sIni), (id, sIni), fun _ => (id, sIni), id, 0, fun _ => 0, fun _ => 0, ⟨⟨?_, ?_, ?_, ?_, ?_, ?_⟩, ⟨zOkE_ini, zOkE_ini, fun _ _ => zOkE_ini, fun j hj => hj, by decide⟩, ?_, 0, 0, 0, 0, fun _ => 0, ?_, ?_⟩, ⟨St_ini s0_ini, ⟨fun k hk => hk, fun i j _ _ e => e⟩, fun _ _ => ⟨fun k hk => hk, fun i j _ _ e => e⟩, fun i j _ _ e => e, fun i hi => hi, by decide, fun i hi => absurd hi (Nat.not_lt_zero i)⟩⟩, 0, 0, rfl, by decide, rfl, by decide, Jn_ini⟩
  · rw [hlo 0 (by decide)]
    exact va_up_self _ _ _
  · intro o ho
    rw [hlo _ (by omega)]
    exact cW4_1 ho
  · intro o ho
    rw [hlo _ (by omega)]
    exact cW4_22 ho
  · rw [hlo _ (by decide)]
    exact cW4_43
  · rw [hlo _ (by decide)]
    exact cW4_44
  · intro i hi o ho
    rw [hlo _ (by omega)]
    exact cW4_45 hi ho
  · rw [hlo _ (by decide)]
    unfold cW4 cWo
    rw [va_up_ne _ _ (by decide), va_up_ne _ _ (by decide), va_up_ne _ _ (by decide), va_up_self]
  · rw [hlo _ (by decide)]
    unfold cW4 cWo
    rw [va_up_ne _ _ (by decide), va_up_self]
    rfl
  · rw [hlo _ (by decide)]
    unfold cW4 cWo
    rw [va_up_ne _ _ (by decide), va_up_ne _ _ (by decide), va_up_self]
