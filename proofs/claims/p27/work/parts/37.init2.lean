theorem zrow_ext {l : Launch} {D : va_G} {cy : Nat → ClassId} {own : String} {cc : ByteArray} {nL : Nat} {R : Room} {nm : String} {G : zJ} {κ : zκ} {f : zF} {ls : List (Nat × Value)} {pc : Nat} {st : List Value} (X : zX l D cy own cc nL R nm G) {t b n : Nat} {a a2 : Nat → Option Nat} (hf : f t = eRefs cy b n a) (ha : ∀ k, k < n → a k = a2 k) (k : G κ (va_up f t (eRefs cy b n a2)) ls pc st) : G κ f ls pc st := by
  obtain ⟨p, e, s, m, args, below, meth, c, Q, A, rfl, hx, hb, hml, hnm, hown, hts, hA, hK⟩ := X
  intro H locs arr hP hI hAl hS hl
  refine k H locs arr ?_ hI hAl hS hl
  intro i q hq
  obtain ⟨hi, rfl⟩ := zl_of hq
  have h0 := hP i _ (zl_get hi)
  by_cases e : i = t
  · subst e
    unfold va_at at h0 ⊢
    simp only [hf] at h0
    simp only [va_up_self]
    rw [h0]
    congr 1
    show arrV (cy b) n (fun j => va_rf (a j)) = arrV (cy b) n (fun j => va_rf (a2 j))
    unfold arrV
    congr 1
    apply Array.ext
    · simp
    · intro j h1 h2
      simp only [Array.getElem_ofFn]
      rw [ha j (by simpa using h1)]
  · have e2 : va_up f t (eRefs cy b n a2) i = f i := va_up_ne _ _ e
    rw [e2]
    exact h0
def hIni (w : zW) (cy : Nat → ClassId) (b m g : Nat) (o : Nat) : va_E := match o with
  | 0 => eHut w b (upd (fun _ => 0) 4 1)
  | 1 => eRefs cy 2 4 (fun k => if k < m then some (w.2 (b + (7 + k))) else none)
  | 2 => eRefs cy 3 10 (fun k => if k < g then some (w.2 (b + (11 + k))) else none)
  | 3 => .inr (7, [.ref (w.2 (b + 4))])
  | 4 => eInts cy 21 (fun _ => 0)
  | 5 => eLedger (fun _ => 0)
  | 6 => eSett (upd (upd (upd (upd (fun _ => 0) 0 2) 1 100) 2 3) 3 10)
  | o + 7 => if o < 4 then eMule (fun _ => 0) else eGroup (fun _ => 0)
def zPutN (f : zF) (b N : Nat) (h : Nat → va_E) : zF := fun t => if b ≤ t ∧ t < b + N then h (t - b) else f t
theorem zPutN_in {f : zF} {b N : Nat} {h : Nat → va_E} {o : Nat} (ho : o < N) : zPutN f b N h (b + o) = h o := by
  unfold zPutN
  rw [if_pos ⟨by omega, by omega⟩, Nat.add_sub_cancel_left]
theorem zPutN_out {f : zF} {b N t : Nat} {h : Nat → va_E} (ht : t < b ∨ b + N ≤ t) : zPutN f b N h t = f t := by
  unfold zPutN
  rw [if_neg (by omega)]
theorem zPutN_up {f : zF} {b N : Nat} {h h' : Nat → va_E} {o : Nat} {e : va_E} (ho : o < N) (h1 : h' o = e) (h2 : ∀ i, i < N → i ≠ o → h' i = h i) : va_up (zPutN f b N h) (b + o) e = zPutN f b N h' := by
  funext t
  unfold va_up zPutN
  by_cases e1 : t = b + o
  · rw [if_pos e1, if_pos ⟨by omega, by omega⟩, e1, Nat.add_sub_cancel_left, h1]
  · rw [if_neg e1]
    by_cases q : b ≤ t ∧ t < b + N
    · rw [if_pos q, if_pos q, h2 _ (by omega) (by omega)]
    · rw [if_neg q, if_neg q]
theorem zPutN_new {f : zF} {b N : Nat} {h h' : Nat → va_E} {e : va_E} (h1 : h' N = e) (h2 : ∀ i, i < N → h' i = h i) : va_up (zPutN f b N h) (b + N) e = zPutN f b (N + 1) h' := by
  funext t
  unfold va_up zPutN
  by_cases e1 : t = b + N
  · rw [if_pos e1, if_pos ⟨by omega, by omega⟩, e1, Nat.add_sub_cancel_left, h1]
  · rw [if_neg e1]
    by_cases q : b ≤ t ∧ t < b + N
    · rw [if_pos q, if_pos (by omega), h2 _ (by omega)]
    · rw [if_neg q, if_neg (by omega)]
theorem hIni_w {w w' : zW} {cy : Nat → ClassId} {b m g : Nat} (hm : m ≤ 4) (hg : g ≤ 10) (hmg : g = 0 ∨ m = 4) (h : ∀ i, i < b + 7 + m + g → w'.2 i = w.2 i) (o : Nat) : hIni w' cy b m g o = hIni w cy b m g o := by
  match o with
  | 0 =>
    show eHut w' b _ = eHut w b _
    unfold eHut eHutL
    rw [h (b + 1) (by omega), h (b + 2) (by omega), h (b + 3) (by omega), h (b + 5) (by omega), h (b + 6) (by omega)]
  | 1 =>
    show eRefs cy 2 4 _ = eRefs cy 2 4 _
    refine congrArg (eRefs cy 2 4) (funext fun k => ?_)
    by_cases q : k < m
    · rw [if_pos q, if_pos q, h _ (by omega)]
    · rw [if_neg q, if_neg q]
  | 2 =>
    show eRefs cy 3 10 _ = eRefs cy 3 10 _
    refine congrArg (eRefs cy 3 10) (funext fun k => ?_)
    by_cases q : k < g
    · rw [if_pos q, if_pos q, h _ (by omega)]
    · rw [if_neg q, if_neg q]
  | 3 =>
    show (Sum.inr (7, [Value.ref (w'.2 (b + 4))]) : va_E) = .inr (7, [.ref (w.2 (b + 4))])
    rw [h (b + 4) (by omega)]
  | 4 => rfl
  | 5 => rfl
  | 6 => rfl
  | o + 7 => rfl
