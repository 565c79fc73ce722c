/-! groups as a list; those that have gone by, from the first on and from the last on -/
def gk (s : Nat → Int32) (j : Nat) : Nat → Int32 := fun i => if i < 6 then s (55 + 6 * j + i) else 0
def gl (s : Nat → Int32) (b : Nat) : List (Nat → Int32) := (List.range b).map (gk s)
theorem gl_len {s : Nat → Int32} {b : Nat} : (gl s b).length = b := by simp [gl]
theorem gl_at {s : Nat → Int32} {b j : Nat} (h : j < b) : (gl s b)[j]? = some (gk s j) := by simp [gl, h]
theorem gl_no {s : Nat → Int32} {b j : Nat} (h : ¬ j < b) : (gl s b)[j]? = none := by
  rw [List.getElem?_eq_none_iff, gl_len]
  omega
theorem gk_in {s : Nat → Int32} {j i : Nat} (h : i < 6) : gk s j i = s (55 + 6 * j + i) := if_pos h
theorem gk_eq {s t : Nat → Int32} {j j' : Nat} (h : ∀ i, i < 6 → s (55 + 6 * j + i) = t (55 + 6 * j' + i)) : gk s j = gk t j' := by
  funext i
  unfold gk
  by_cases z : i < 6
  · rw [if_pos z, if_pos z, h i z]
  · rw [if_neg z, if_neg z]
theorem gl_eq {s t : Nat → Int32} {b : Nat} (h : ∀ j, j < b → ∀ i, i < 6 → s (55 + 6 * j + i) = t (55 + 6 * j + i)) : gl s b = gl t b := by
  apply List.ext_getElem?
  intro j
  by_cases z : j < b
  · rw [gl_at z, gl_at z, gk_eq (h j z)]
  · rw [gl_no z, gl_no z]
theorem gl_same {s t : Nat → Int32} {b j i : Nat} (h : gl s b = gl t b) (hj : j < b) (hi : i < 6) : s (55 + 6 * j + i) = t (55 + 6 * j + i) := by
  have e : some (gk s j) = some (gk t j) := by rw [← gl_at hj, ← gl_at hj, h]
  have e2 := congrFun (Option.some.inj e) i
  rw [gk_in hi, gk_in hi] at e2
  exact e2
theorem gl_go {s : Nat → Int32} {k b : Nat} (hk : k < b) (hb : b ≤ 10) : gl (dGo s k (b - 1)) (b - 1) = (gl s b).eraseIdx k := by
  apply List.ext_getElem?
  intro j
  rw [List.getElem?_eraseIdx]
  by_cases z : j < b - 1
  · rw [gl_at z]
    by_cases c : j < k
    · rw [if_pos c, gl_at (by omega)]
      refine congrArg some (gk_eq (fun i hi => ?_))
      rw [dGo_at (by omega) z hi, if_neg (by omega)]
    · rw [if_neg c, gl_at (by omega)]
      refine congrArg some (gk_eq (fun i hi => ?_))
      rw [dGo_at (by omega) z hi, if_pos (by omega)]
  · rw [gl_no z]
    by_cases c : j < k
    · omega
    · rw [if_neg c, gl_no (by omega)]
theorem dGo_hi {s : Nat → Int32} {k b i : Nat} (hk : k ≤ b) (hb : b ≤ 10) (hi : 115 ≤ i) : dGo s k b i = s i := by
  have h : ∀ n, n ≤ 6 * (b - k) → dGoL s k b n i = s i := by
    intro n
    induction n with
    | zero => exact fun _ => upd_ne (by omega)
    | succ n ih => exact fun hn => (upd_ne (by omega)).trans (ih (by omega))
  exact h _ (Nat.le_refl _)
/-- a group that stays -/
def gStay (d : Int32) (c : Nat → Int32) : Bool := !decide (c 2 + c 3 = d)
theorem gStay_no {s : Nat → Int32} {d : Int32} {k : Nat} (h : s (55 + 6 * k + 2) + s (55 + 6 * k + 3) = d) : gStay d (gk s k) = false := by
  unfold gStay
  rw [gk_in (by decide), gk_in (by decide), h]
  simp
theorem gStay_yes {s : Nat → Int32} {d : Int32} {k : Nat} (h : ¬ s (55 + 6 * k + 2) + s (55 + 6 * k + 3) = d) : gStay d (gk s k) = true := by
  unfold gStay
  rw [gk_in (by decide), gk_in (by decide)]
  simp [h]
theorem gl_drop {s : Nat → Int32} {b k : Nat} (h : k < b) : (gl s b).drop k = gk s k :: (gl s b).drop (k + 1) := by
  rw [List.drop_eq_getElem_cons (by rw [gl_len]; exact h)]
  have e := gl_at (s := s) h
  rw [List.getElem?_eq_getElem (by rw [gl_len]; exact h)] at e
  rw [Option.some.inj e]
theorem gl_take {s : Nat → Int32} {b k : Nat} (h : k < b) : (gl s b).take (k + 1) = (gl s b).take k ++ [gk s k] := by
  rw [List.take_succ, gl_at h]
  rfl
theorem lGz_v : ∀ m k b (u : Nat → Int32), b = k + m → b ≤ 10 → u 1 = nI b → ∃ b', b' ≤ b ∧ lGz m k b u 1 = nI b' ∧ gl (lGz m k b u) b' = (gl u b).take k ++ ((gl u b).drop k).filter (gStay (u 3)) ∧ (∀ i, i < 55 → i ≠ 1 → lGz m k b u i = u i) ∧ ∀ i, 115 ≤ i → lGz m k b u i = u i
  | 0, k, b, u, hb, h10, h1 => by
    refine ⟨b, Nat.le_refl _, h1, ?_, fun i _ _ => rfl, fun i _ => rfl⟩
    show gl u b = _
    rw [List.take_of_length_le (by rw [gl_len]; omega), List.drop_of_length_le (by rw [gl_len]; omega)]
    simp
  | m + 1, k, b, u, hb, h10, h1 => by
    rw [lGz_s]
    by_cases c : u (55 + 6 * k + 2) + u (55 + 6 * k + 3) = u 3
    · rw [if_pos c]
      obtain ⟨b', a1, a2, a3, a4, a5⟩ := lGz_v m k (b - 1) (dGo u k (b - 1)) (by omega) (by omega) dGo_1
      refine ⟨b', by omega, a2, ?_, fun i hi h => (a4 i hi h).trans (dGo_lo hi h), fun i hi => (a5 i hi).trans (dGo_hi (by omega) (by omega) hi)⟩
      rw [a3, dGo_lo (by decide) (by decide), gl_go (by omega) h10, gl_drop (s := u) (show k < b by omega), List.filter_cons_of_neg (by rw [gStay_no c]; decide)]
      rw [List.eraseIdx_eq_take_drop_succ]
      have lt : ((gl u b).take k).length = k := by rw [List.length_take, gl_len]; omega
      rw [List.take_append_of_le_length (by omega), List.take_of_length_le (by omega), List.drop_append_of_le_length (by omega), List.drop_of_length_le (by omega), List.nil_append]
    · rw [if_neg c]
      obtain ⟨b', a1, a2, a3, a4, a5⟩ := lGz_v m (k + 1) b u (by omega) h10 h1
      refine ⟨b', a1, a2, ?_, a4, a5⟩
      rw [a3, gl_take (by omega), gl_drop (s := u) (show k < b by omega), List.filter_cons_of_pos (gStay_yes c), List.append_assoc]
      rfl
theorem dGz_v {d : Int32} : ∀ n b (u : Nat → Int32), n ≤ b → b ≤ 10 → u 1 = nI b → u 3 + 1 = d → ∃ b', b' ≤ b ∧ dGz n b u 1 = nI b' ∧ gl (dGz n b u) b' = ((gl u b).take n).filter (gStay d) ++ (gl u b).drop n ∧ (∀ i, i < 55 → i ≠ 1 → dGz n b u i = u i) ∧ ∀ i, 115 ≤ i → dGz n b u i = u i
  | 0, b, u, hn, h10, h1, hd => ⟨b, Nat.le_refl _, h1, by simp [dGz], fun i _ _ => rfl, fun i _ => rfl⟩
  | n + 1, b, u, hn, h10, h1, hd => by
    have cc : (u (55 + 6 * n + 2) + u (55 + 6 * n + 3) - 1 = u 3) ↔ (u (55 + 6 * n + 2) + u (55 + 6 * n + 3) = d) := by
      rw [← hd]
      generalize u (55 + 6 * n + 2) + u (55 + 6 * n + 3) = y
      generalize u 3 = z
      grind
    rw [dGz_s]
    by_cases c : u (55 + 6 * n + 2) + u (55 + 6 * n + 3) = d
    · rw [if_pos (cc.mpr c)]
      obtain ⟨b', a1, a2, a3, a4, a5⟩ := dGz_v (d := d) n (b - 1) (dGo u n (b - 1)) (by omega) (by omega) dGo_1 (by rw [dGo_lo (by decide) (by decide)]; exact hd)
      refine ⟨b', by omega, a2, ?_, fun i hi h => (a4 i hi h).trans (dGo_lo hi h), fun i hi => (a5 i hi).trans (dGo_hi (by omega) (by omega) hi)⟩
      rw [a3, gl_go (by omega) h10, gl_take (s := u) (show n < b by omega), List.filter_append, List.filter_cons_of_neg (by rw [gStay_no c]; decide), List.filter_nil, List.append_nil]
      rw [List.eraseIdx_eq_take_drop_succ]
      have lt : ((gl u b).take n).length = n := by rw [List.length_take, gl_len]; omega
      rw [List.take_append_of_le_length (by omega), List.take_of_length_le (by omega), List.drop_append_of_le_length (by omega), List.drop_of_length_le (by omega), List.nil_append]
    · rw [if_neg (fun z => c (cc.mp z))]
      obtain ⟨b', a1, a2, a3, a4, a5⟩ := dGz_v (d := d) n b u (by omega) h10 h1 hd
      refine ⟨b', a1, a2, ?_, a4, a5⟩
      rw [a3, gl_take (by omega), gl_drop (s := u) (show n < b by omega), List.filter_append, List.filter_cons_of_pos (gStay_yes c), List.filter_nil, List.append_assoc]
      rfl
/-- alike where it counts -/
def Lv (mc bk : Nat) (s t : Nat → Int32) : Prop := (∀ i, i < 19 → t i = s i) ∧ (∀ m, m < mc → ∀ i, i < 9 → t (19 + 9 * m + i) = s (19 + 9 * m + i)) ∧ (∀ j, j < bk → ∀ i, i < 6 → t (55 + 6 * j + i) = s (55 + 6 * j + i)) ∧ ∀ a, a < 21 → t (115 + a) = s (115 + a)
theorem Rl_lv {mc bk : Nat} {g : zGS} {s t : Nat → Int32} (h : Lv mc bk s t) (r : Rl mc bk g s) : Rl mc bk g t := by
  obtain ⟨a, b, c, d, e1, e2, e3, e4⟩ := r
  obtain ⟨h1, h2, h3, h4⟩ := h
  exact ⟨fun i hi => (h1 i hi).trans (a i hi), fun m hm i hi => (h2 m hm i hi).trans (b m hm i hi), fun j hj i hi => (h3 j hj i hi).trans (c j hj i hi), fun k hk => (h4 k hk).trans (d k hk), (h1 0 (by decide)).trans e1, e2, (h1 1 (by decide)).trans e3, e4⟩
theorem Iv_lv {mc bk : Nat} {s t : Nat → Int32} {B D : Int} (h : Lv mc bk s t) (v : Iv B D mc bk s) : Iv B D mc bk t := by
  obtain ⟨h1, h2, h3, h4⟩ := h
  obtain ⟨a, b, ⟨c1, c2⟩, d, u, i6, j, k⟩ := v
  unfold Iv
  rw [h1 3 (by decide), h1 12 (by decide), h1 6 (by decide), h1 15 (by decide), h1 16 (by decide), h1 17 (by decide), h1 18 (by decide), h1 2 (by decide), h4 0 (by decide)]
  refine ⟨fun m hm => iMu_congr (fun i hi => h2 m hm i hi) (h1 3 (by decide)) (a m hm), fun x hx => ?_, ⟨iAg_congr (fun k hk => h4 k hk) c1, c2⟩, d, u, i6, j, k⟩
  rw [h3 x hx 2 (by decide), h3 x hx 3 (by decide)]
  exact ⟨iGr_congr (fun i hi => h3 x hx i (by omega)) (b x hx).1, (b x hx).2⟩
theorem nI_i {a b : Nat} (h : nI a = nI b) (ha : a ≤ 10) (hb : b ≤ 10) : a = b := nI_inj4 h (by omega) (by omega)
/-- the hut behind the groups that went: either way the same -/
theorem gz_lv {mc bk : Nat} {t : Nat → Int32} (hmc : mc ≤ 4) (hb : bk ≤ 10) (h1 : t 1 = nI bk) : ∃ b', b' ≤ bk ∧ dGz bk bk t 1 = nI b' ∧ gl (lGz bk 0 bk (upd t 3 (t 3 + 1))) b' = (gl t bk).filter (gStay (t 3 + 1)) ∧ (∀ i, i < 55 → i ≠ 1 → lGz bk 0 bk (upd t 3 (t 3 + 1)) i = (upd t 3 (t 3 + 1)) i) ∧ (∀ i, 115 ≤ i → lGz bk 0 bk (upd t 3 (t 3 + 1)) i = t i) ∧ Lv mc b' (upd (dGz bk bk t) 3 ((dGz bk bk t) 3 + 1)) (lGz bk 0 bk (upd t 3 (t 3 + 1))) := by
  obtain ⟨x, a1, a2, a3, a4, a5⟩ := lGz_v bk 0 bk (upd t 3 (t 3 + 1)) (by omega) hb ((upd_ne (by decide)).trans h1)
  obtain ⟨y, b1, b2, b3, b4, b5⟩ := dGz_v (d := t 3 + 1) bk bk t (Nat.le_refl _) hb h1 rfl
  rw [List.take_zero, List.nil_append, List.drop_zero, upd_eq, gl_eq (t := t) (fun j _ i _ => upd_ne (by omega))] at a3
  rw [List.take_of_length_le (by rw [gl_len]; omega), List.drop_of_length_le (by rw [gl_len]; omega), List.append_nil] at b3
  have exy : x = y := by
    have z := congrArg List.length (a3.trans b3.symm)
    rw [gl_len, gl_len] at z
    exact z
  subst exy
  have e3 : dGz bk bk t 3 = t 3 := b4 3 (by decide) (by decide)
  refine ⟨x, a1, b2, a3, a4, fun i hi => (a5 i hi).trans (upd_ne (by omega)), fun i hi => ?_, fun m hm i hi => ?_, fun j hj i hi => ?_, fun k hk => ?_⟩
  · by_cases z1 : i = 1
    · rw [z1, a2, upd_ne (by decide), b2]
    · rw [a4 i (by omega) z1]
      by_cases z3 : i = 3
      · rw [z3, upd_eq, upd_eq, e3]
      · rw [upd_ne z3, upd_ne z3, b4 i (by omega) z1]
  · rw [a4 _ (by omega) (by omega), upd_ne (by omega), upd_ne (by omega), b4 _ (by omega) (by omega)]
  · rw [upd_ne (by omega)]
    exact gl_same (a3.trans b3.symm) hj hi
  · rw [a5 _ (by omega), upd_ne (by omega), upd_ne (by omega), b5 _ (by omega)]
