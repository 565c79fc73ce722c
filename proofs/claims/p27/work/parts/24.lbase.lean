/-! THE LAW'S OWN HUT: four rows of numbers (counts 132, mules 133, groups 134, loaves by ages 135), told as one function s: counts from 0, mules from 19, groups from 55, ages from 115 -/
section ZRL
variable {l : Launch} {D : va_G} {cy : Nat → ClassId} {own : String} {cc : ByteArray} {nL : Nat} {R : Room} {nm : String} {G : zJ} {κ : zκ} {f : zF} {ls ls' : List (Nat × Value)} {pc : Nat} {st : List Value}
theorem zr_ixor (X : zX l D cy own cc nL R nm G) {x y : Int32} (d : decode cc pc = .ok (.ixor, 1)) (k : G κ f ls (pc + 1) (.int (x ^^^ y) :: st)) : G κ f ls pc (.int y :: .int x :: st) := by
  obtain ⟨p, e, s, m, args, below, meth, c, Q, A, rfl, hx, hb, hml, hnm, hown, hts, hA, hK⟩ := X
  intro H locs arr hP hI hAl hS hl
  exact lv_ixor hx hb d (k H locs arr hP hI hAl hS hl)
theorem zr_ishr (X : zX l D cy own cc nL R nm G) {x y : Int32} (d : decode cc pc = .ok (.ishr, 1)) (k : G κ f ls (pc + 1) (.int (x >>> (y &&& 31)) :: st)) : G κ f ls pc (.int y :: .int x :: st) := by
  obtain ⟨p, e, s, m, args, below, meth, c, Q, A, rfl, hx, hb, hml, hnm, hown, hts, hA, hK⟩ := X
  intro H locs arr hP hI hAl hS hl
  exact lv_ishr hx hb d (k H locs arr hP hI hAl hS hl)
def lc (s : Nat → Int32) (o n : Nat) : Nat → Int32 := fun i => if i < n then s (o + i) else 0
theorem lc_in {s : Nat → Int32} {o n j : Nat} (h : j < n) : lc s o n j = s (o + j) := if_pos h
theorem lc_up {s : Nat → Int32} {o n j : Nat} {x : Int32} (h : j < n) : upd (lc s o n) j x = lc (upd s (o + j) x) o n := by
  funext i
  show (if i = j then x else (if i < n then s (o + i) else 0)) = (if i < n then (if o + i = o + j then x else s (o + i)) else 0)
  by_cases e : i = j
  · subst e
    rw [if_pos rfl, if_pos h, if_pos rfl]
  · rw [if_neg e]
    by_cases z : i < n
    · rw [if_pos z, if_pos z, if_neg (by omega)]
    · rw [if_neg z, if_neg z]
theorem lc_out {s : Nat → Int32} {o n q : Nat} {x : Int32} (h : q < o ∨ o + n ≤ q) : lc (upd s q x) o n = lc s o n := by
  funext i
  show (if i < n then (if o + i = q then x else s (o + i)) else 0) = (if i < n then s (o + i) else 0)
  by_cases z : i < n
  · rw [if_pos z, if_pos z, if_neg (by omega)]
  · rw [if_neg z, if_neg z]
theorem lc_eq {s t : Nat → Int32} {o n : Nat} (h : ∀ i, i < n → s (o + i) = t (o + i)) : lc s o n = lc t o n := by
  funext i
  unfold lc
  by_cases z : i < n
  · rw [if_pos z, if_pos z, h i z]
  · rw [if_neg z, if_neg z]
/-- the law's rows: tag, length, where they begin in s -/
def LR (t n o : Nat) : Prop := (t = 132 ∧ n = 19 ∧ o = 0) ∨ (t = 133 ∧ n = 36 ∧ o = 19) ∨ (t = 134 ∧ n = 60 ∧ o = 55) ∨ (t = 135 ∧ n = 21 ∧ o = 115)
theorem lr_g : LR 132 19 0 := .inl ⟨rfl, rfl, rfl⟩
theorem lr_m : LR 133 36 19 := .inr (.inl ⟨rfl, rfl, rfl⟩)
theorem lr_p : LR 134 60 55 := .inr (.inr (.inl ⟨rfl, rfl, rfl⟩))
theorem lr_a : LR 135 21 115 := .inr (.inr (.inr ⟨rfl, rfl, rfl⟩))
/-- the world f, but for the law's rows, which hold s -/
def lW (cy : Nat → ClassId) (f : zF) (s : Nat → Int32) : zF := fun t => if t = 132 then eInts cy 19 (lc s 0 19) else if t = 133 then eInts cy 36 (lc s 19 36) else if t = 134 then eInts cy 60 (lc s 55 60) else if t = 135 then eInts cy 21 (lc s 115 21) else f t
theorem lW_at {s : Nat → Int32} {t n o : Nat} (h : LR t n o) : lW cy f s t = eInts cy n (lc s o n) := by
  rcases h with ⟨rfl, rfl, rfl⟩ | ⟨rfl, rfl, rfl⟩ | ⟨rfl, rfl, rfl⟩ | ⟨rfl, rfl, rfl⟩ <;> rfl
theorem lW_lo {s : Nat → Int32} {t : Nat} (h : t < 132 ∨ 136 ≤ t) : lW cy f s t = f t := by
  unfold lW
  rw [if_neg (by omega), if_neg (by omega), if_neg (by omega), if_neg (by omega)]
theorem lW_ext {s t : Nat → Int32} (h : ∀ i, i < 136 → s i = t i) : lW cy f s = lW cy f t := by
  unfold lW
  rw [lc_eq (o := 0) (n := 19) (fun i hi => h _ (by omega)), lc_eq (o := 19) (n := 36) (fun i hi => h _ (by omega)), lc_eq (o := 55) (n := 60) (fun i hi => h _ (by omega)), lc_eq (o := 115) (n := 21) (fun i hi => h _ (by omega))]
theorem lW_of {g : zF} {s : Nat → Int32} (h : ∀ t n o, LR t n o → g t = eInts cy n (lc s o n)) : lW cy g s = g := by
  funext t
  by_cases h1 : t = 132
  · rw [h1, lW_at lr_g, h _ _ _ lr_g]
  · by_cases h2 : t = 133
    · rw [h2, lW_at lr_m, h _ _ _ lr_m]
    · by_cases h3 : t = 134
      · rw [h3, lW_at lr_p, h _ _ _ lr_p]
      · by_cases h4 : t = 135
        · rw [h4, lW_at lr_a, h _ _ _ lr_a]
        · exact lW_lo (by omega)
theorem lW_up {s : Nat → Int32} {t n o q : Nat} {x : Int32} (h : LR t n o) (h1 : o ≤ q) (h2 : q < o + n) : va_up (lW cy f s) t (eInts cy n (lc (upd s q x) o n)) = lW cy f (upd s q x) := by
  funext j
  by_cases e : j = t
  · subst e
    rw [va_up_self, lW_at h]
  · rw [va_up_ne _ _ e]
    unfold lW
    rcases h with ⟨rfl, rfl, rfl⟩ | ⟨rfl, rfl, rfl⟩ | ⟨rfl, rfl, rfl⟩ | ⟨rfl, rfl, rfl⟩
    · rw [if_neg e, if_neg e, lc_out (by omega), lc_out (by omega), lc_out (by omega)]
    · rw [if_neg e, if_neg e, lc_out (by omega), lc_out (by omega), lc_out (by omega)]
    · rw [if_neg e, if_neg e, lc_out (by omega), lc_out (by omega), lc_out (by omega)]
    · rw [if_neg e, if_neg e, lc_out (by omega), lc_out (by omega), lc_out (by omega)]
theorem lr_lt {t n o : Nat} (h : LR t n o) : t < 136 ∧ n < 2147483648 := by
  rcases h with ⟨rfl, rfl, rfl⟩ | ⟨rfl, rfl, rfl⟩ | ⟨rfl, rfl, rfl⟩ | ⟨rfl, rfl, rfl⟩ <;> exact ⟨by decide, by decide⟩
theorem zr_lld (X : zX l D cy own cc nL R nm G) (hw : κ.1.1 = 136) {F : zF} {s : Nat → Int32} {t n o : Nat} (hr : LR t n o) {i : Int32} (j q : Nat) (hi : i = nI j) (hj : j < n) (hq : o + j = q) (d : decode cc pc = .ok (.iaload, 1)) (k : G κ (lW cy F s) ls (pc + 1) (.int (s q) :: st)) : G κ (lW cy F s) ls pc (.int i :: .ref (κ.1.2 t) :: st) := by
  subst hq
  have h := lr_lt hr
  refine zr_iald X t (by omega) (lW_at hr) j hi hj h.2 d ?_
  rw [lc_in hj]
  exact k
theorem zr_lst (X : zX l D cy own cc nL R nm G) (hw : κ.1.1 = 136) {F : zF} {s : Nat → Int32} {t n o : Nat} (hr : LR t n o) {i x : Int32} (j q : Nat) (hi : i = nI j) (hj : j < n) (hq : o + j = q) (d : decode cc pc = .ok (.iastore, 1)) (k : G κ (lW cy F (upd s q x)) ls (pc + 1) st) : G κ (lW cy F s) ls pc (.int x :: .int i :: .ref (κ.1.2 t) :: st) := by
  subst hq
  have h := lr_lt hr
  refine zr_iast X t (by omega) (lW_at hr) j hi hj h.2 d ?_
  rw [lc_up hj]
  have e : va_up (lW cy F s) t (.inl (cy 0, n, .inl (lc (upd s (o + j) x) o n))) = lW cy F (upd s (o + j) x) := lW_up hr (by omega) (by omega)
  rw [e]
  exact k
end ZRL
theorem lW_lW {cy : Nat → ClassId} {f : zF} {s t : Nat → Int32} : lW cy (lW cy f s) t = lW cy f t := by
  funext i
  unfold lW
  split
  · rfl
  · split
    · rfl
    · split
      · rfl
      · split <;> rfl
theorem upd_id {s : Nat → Int32} {k : Nat} : upd s k (s k) = s := by
  funext i
  unfold upd
  split
  · next h => rw [h]
  · rfl
