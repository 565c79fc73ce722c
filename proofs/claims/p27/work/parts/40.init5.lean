/-- two contents that hold the same cells -/
def zsim (cy : Nat → ClassId) (e e' : va_E) : Prop := e = e' ∨ ∃ b n a a2, e = eRefs cy b n a ∧ e' = eRefs cy b n a2 ∧ ∀ k, k < n → a k = a2 k
theorem zcell_ext {cy : Nat → ClassId} {b n : Nat} {a a2 : Nat → Option Nat} (ha : ∀ k, k < n → a k = a2 k) : vp_cell (cy b) (n, .inr (.inr (.inr (.inr a)))) = vp_cell (cy b) (n, .inr (.inr (.inr (.inr a2)))) := by
  show arrV (cy b) n (fun j => va_rf (a j)) = arrV (cy b) n (fun j => va_rf (a2 j))
  unfold arrV
  congr 1
  apply Array.ext
  · simp
  · intro j h1 h2
    simp only [Array.getElem_ofFn]
    rw [ha j (by simpa using h1)]
theorem zworld_ext {l : Launch} {D : va_G} {cy : Nat → ClassId} {own : String} {cc : ByteArray} {nL : Nat} {R : Room} {nm : String} {G : zJ} {κ : zκ} {f f2 : zF} {ls : List (Nat × Value)} {pc : Nat} {st : List Value} (X : zX l D cy own cc nL R nm G) (h : ∀ t, t < κ.1.1 → zsim cy (f t) (f2 t)) (k : G κ f2 ls pc st) : G κ f ls pc st := by
  obtain ⟨p, e, s, m, args, below, meth, c, Q, A, rfl, hx, hb, hml, hnm, hown, hts, hA, hK⟩ := X
  intro H locs arr hP hI hAl hS hl
  refine k H locs arr ?_ hI hAl hS hl
  intro i q hq
  obtain ⟨hi, rfl⟩ := zl_of hq
  have h0 := hP i _ (zl_get hi)
  rcases h i hi with e1 | ⟨b, n, a, a2, e1, e2, ha⟩
  · rw [← e1]
    exact h0
  · unfold va_at at h0 ⊢
    simp only [e1] at h0
    simp only [e2]
    rw [h0]
    exact congrArg some (zcell_ext ha)
theorem zHut_sim {w w' : zW} {cy : Nat → ClassId} {b o : Nat} {σ : Nat → Int32} (ho : o < 21) (h : ∀ i, i < b + 21 → w'.2 i = w.2 i) : zsim cy (zHut w cy b id σ o) (zHut w' cy b id σ o) := by
  match o, ho with
  | 0, _ =>
    refine .inl ?_
    show eHut w b _ = eHut w' b _
    unfold eHut eHutL
    rw [h (b + 1) (by omega), h (b + 2) (by omega), h (b + 3) (by omega), h (b + 5) (by omega), h (b + 6) (by omega)]
  | 1, _ => exact .inr ⟨2, 4, _, _, rfl, rfl, fun k hk => by rw [h (b + (7 + k)) (by omega)]⟩
  | 2, _ => exact .inr ⟨3, 10, _, _, rfl, rfl, fun k hk => by rw [show id k = k from rfl, h (b + (11 + k)) (by omega)]⟩
  | 3, _ =>
    refine .inl ?_
    show (Sum.inr (7, [Value.ref (w.2 (b + 4))]) : va_E) = .inr (7, [.ref (w'.2 (b + 4))])
    rw [h (b + 4) (by omega)]
  | 4, _ => exact .inl rfl
  | 5, _ => exact .inl rfl
  | 6, _ => exact .inl rfl
  | o + 7, _ => exact .inl rfl
/-- the history's cells, with n huts made -/
def zHq (w : zW) (cy : Nat → ClassId) (f : zF) (n : Nat) : zF := fun t => if t = 43 then .inr (1, [.ref (w.2 44), .int 0]) else if t = 44 then eRefs cy 4 4 (fun k => if k < n then some (w.2 (45 + 21 * k)) else none) else if 45 ≤ t ∧ t < 45 + 21 * n then zHut w cy (45 + 21 * ((t - 45) / 21)) id sIni ((t - 45) % 21) else f t
theorem zHq_out {w : zW} {cy : Nat → ClassId} {f : zF} {n t : Nat} (h : t ≠ 43) (h2 : t ≠ 44) (h3 : t < 45 ∨ 45 + 21 * n ≤ t) : zHq w cy f n t = f t := by
  unfold zHq
  rw [if_neg h, if_neg h2, if_neg (by omega)]
theorem zHq_hut {w : zW} {cy : Nat → ClassId} {f : zF} {n i o : Nat} (hi : i < n) (ho : o < 21) : zHq w cy f n (45 + 21 * i + o) = zHut w cy (45 + 21 * i) id sIni o := by
  unfold zHq
  rw [if_neg (by omega), if_neg (by omega), if_pos ⟨by omega, by omega⟩, show (45 + 21 * i + o - 45) / 21 = i by omega, show (45 + 21 * i + o - 45) % 21 = o by omega]
theorem zHq_sim {w w' : zW} {cy : Nat → ClassId} {f : zF} {n : Nat} (hn : n ≤ 4) (h : ∀ i, i < 45 + 21 * n → w'.2 i = w.2 i) (t : Nat) : zsim cy (zHq w cy f n t) (zHq w' cy f n t) := by
  by_cases h1 : t = 43
  · subst h1
    refine .inl ?_
    show (Sum.inr (1, [Value.ref (w.2 44), .int 0]) : va_E) = .inr (1, [.ref (w'.2 44), .int 0])
    rw [h 44 (by omega)]
  · by_cases h2 : t = 44
    · subst h2
      refine .inr ⟨4, 4, _, _, rfl, rfl, fun k hk => ?_⟩
      by_cases q : k < n
      · rw [if_pos q, if_pos q, h _ (by omega)]
      · rw [if_neg q, if_neg q]
    · by_cases q : 45 ≤ t ∧ t < 45 + 21 * n
      · obtain ⟨i, o, hi, ho, rfl⟩ : ∃ i o, i < n ∧ o < 21 ∧ t = 45 + 21 * i + o := ⟨(t - 45) / 21, (t - 45) % 21, by omega, by omega, by omega⟩
        rw [zHq_hut hi ho, zHq_hut hi ho]
        exact zHut_sim ho (fun j hj => h j (by omega))
      · refine .inl ?_
        rw [zHq_out h1 h2 (by omega), zHq_out h1 h2 (by omega)]
theorem zHq_new {w : zW} {cy : Nat → ClassId} {f : zF} {n : Nat} (hn : n < 4) : va_up (zPut (zHq w cy f n) (45 + 21 * n) (zHut w cy (45 + 21 * n) id sIni)) 44 (eRefs cy 4 4 (va_up (fun k => if k < n then some (w.2 (45 + 21 * k)) else none) n (some (w.2 (45 + 21 * n))))) = zHq w cy f (n + 1) := by
  rw [zrow_s (B := fun k => w.2 (45 + 21 * k))]
  funext t
  by_cases h2 : t = 44
  · subst h2
    rw [va_up_self]
    rfl
  · rw [va_up_ne _ _ h2]
    by_cases q : 45 + 21 * n ≤ t ∧ t < 45 + 21 * n + 21
    · obtain ⟨o, rfl⟩ : ∃ o, t = 45 + 21 * n + o := ⟨t - (45 + 21 * n), by omega⟩
      rw [zPut_in (by omega), zHq_hut (Nat.lt_succ_self n) (by omega)]
    · rw [zPut_out (by omega)]
      by_cases h1 : t = 43
      · subst h1; rfl
      · by_cases q2 : 45 ≤ t ∧ t < 45 + 21 * n
        · obtain ⟨i, o, hi, ho, rfl⟩ : ∃ i o, i < n ∧ o < 21 ∧ t = 45 + 21 * i + o := ⟨(t - 45) / 21, (t - 45) % 21, by omega, by omega, by omega⟩
          rw [zHq_hut hi ho, zHq_hut (by omega) ho]
        · rw [zHq_out h1 h2 (by omega), zHq_out h1 h2 (by omega)]
