theorem gBegin_at {v : Nat → Int32} {a p d n : Int32} {i : Nat} (hi : i < 6) : gBegin v a p d n i = if i = 0 then a else if i = 1 then p else if i = 2 then d else if i = 3 then n else 0 := by
  match i, hi with
  | 0, _ => rfl
  | 1, _ => rfl
  | 2, _ => rfl
  | 3, _ => rfl
  | 4, _ => rfl
  | 5, _ => rfl
theorem dGr_out {s : Nat → Int32} {bk : Nat} {p d n : Int32} {i : Nat} (h : i < 55 + 6 * bk ∨ 55 + 6 * bk + 6 ≤ i) (h1 : i ≠ 1) (h2 : i ≠ 2) : dGr s bk p d n i = s i := by
  unfold dGr
  rw [upd_ne h2, upd_ne h1, upd_ne (by omega), upd_ne (by omega), upd_ne (by omega), upd_ne (by omega), upd_ne (by omega), upd_ne (by omega)]
theorem dGr_1 {s : Nat → Int32} {bk : Nat} {p d n : Int32} : dGr s bk p d n 1 = s 1 + 1 ∧ dGr s bk p d n 2 = s 2 + 1 := by
  unfold dGr
  constructor
  · rw [upd_ne (by decide), upd_eq, upd_ne (by omega), upd_ne (by omega), upd_ne (by omega), upd_ne (by omega), upd_ne (by omega), upd_ne (by omega)]
  · rw [upd_eq, upd_ne (by decide), upd_ne (by omega), upd_ne (by omega), upd_ne (by omega), upd_ne (by omega), upd_ne (by omega), upd_ne (by omega)]
theorem dGr_in {s : Nat → Int32} {bk : Nat} {p d n : Int32} {i : Nat} (hi : i < 6) : dGr s bk p d n (55 + 6 * bk + i) = if i = 0 then s 2 else if i = 1 then p else if i = 2 then s 3 + d else if i = 3 then n else 0 := by
  have e3 : (upd (upd s (55 + 6 * bk + 0) (s 2)) (55 + 6 * bk + 1) p) 3 = s 3 := by rw [upd_ne (by omega), upd_ne (by omega)]
  unfold dGr
  rw [upd_ne (by omega), upd_ne (by omega)]
  match i, hi with
  | 0, _ => rw [upd_ne (by omega), upd_ne (by omega), upd_ne (by omega), upd_ne (by omega), upd_ne (by omega), upd_eq]; rfl
  | 1, _ => rw [upd_ne (by omega), upd_ne (by omega), upd_ne (by omega), upd_ne (by omega), upd_eq]; rfl
  | 2, _ => rw [upd_ne (by omega), upd_ne (by omega), upd_ne (by omega), upd_eq, e3]; rfl
  | 3, _ => rw [upd_ne (by omega), upd_ne (by omega), upd_eq]; rfl
  | 4, _ => rw [upd_ne (by omega), upd_eq]; rfl
  | 5, _ => rw [upd_eq]; rfl

