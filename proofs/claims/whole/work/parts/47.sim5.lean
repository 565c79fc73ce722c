theorem dMz_eq {s : Nat → Int32} {mc i : Nat} : ∀ n, dMz s mc n i = if 19 + 9 * mc ≤ i ∧ i < 19 + 9 * mc + n then 0 else s i
  | 0 => by
    rw [if_neg (by omega)]
    rfl
  | n + 1 => by
    show upd (dMz s mc n) (19 + 9 * mc + n) 0 i = _
    by_cases e : i = 19 + 9 * mc + n
    · rw [e, upd_eq, if_pos (by omega)]
    · rw [upd_ne e, dMz_eq n]
      by_cases q : 19 + 9 * mc ≤ i ∧ i < 19 + 9 * mc + n
      · rw [if_pos q, if_pos (by omega)]
      · rw [if_neg q, if_neg (by omega)]
/-- what a new mule's numbers are in the hut -/
theorem mBegin_at {v : Nat → Int32} {a c : Int32} {i : Nat} (hi : i < 9) : mBegin v a c i = if i = 0 then a else if i = 1 then c else 0 := by
  match i, hi with
  | 0, _ => rfl
  | 1, _ => rfl
  | 2, _ => rfl
  | 3, _ => rfl
  | 4, _ => rfl
  | 5, _ => rfl
  | 6, _ => rfl
  | 7, _ => rfl
  | 8, _ => rfl
theorem dMn_at {s : Nat → Int32} {mc : Nat} {a c : Int32} {i : Nat} (hi : i < 9) : dMn s mc a c (19 + 9 * mc + i) = if i = 0 then a else if i = 1 then c else 0 := by
  unfold dMn
  by_cases h1 : i = 1
  · subst h1
    rw [upd_eq]
    rfl
  · rw [upd_ne (by omega)]
    by_cases h0 : i = 0
    · subst h0
      rw [upd_eq]
      rfl
    · rw [upd_ne (by omega), dMz_eq, if_pos (by omega), if_neg h0, if_neg h1]
theorem dMn_out {s : Nat → Int32} {mc : Nat} {a c : Int32} {i : Nat} (h : i < 19 + 9 * mc ∨ 19 + 9 * mc + 9 ≤ i) : dMn s mc a c i = s i := by
  unfold dMn
  rw [upd_ne (by omega), upd_ne (by omega), dMz_eq, if_neg (by omega)]
