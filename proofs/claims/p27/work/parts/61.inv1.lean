/-! whole numbers of an Int32, where nothing overflows -/
theorem tadd {a b : Int32} (h1 : -2147483648 ≤ a.toInt + b.toInt) (h2 : a.toInt + b.toInt ≤ 2147483647) : (a + b).toInt = a.toInt + b.toInt := by
  rw [Int32.toInt_add]
  exact Int.bmod_eq_of_le (by omega) (by omega)
theorem tsub {a b : Int32} (h1 : -2147483648 ≤ a.toInt - b.toInt) (h2 : a.toInt - b.toInt ≤ 2147483647) : (a - b).toInt = a.toInt - b.toInt := by
  rw [Int32.toInt_sub]
  exact Int.bmod_eq_of_le (by omega) (by omega)
theorem tmul {a b : Int32} (h1 : -2147483648 ≤ a.toInt * b.toInt) (h2 : a.toInt * b.toInt ≤ 2147483647) : (a * b).toInt = a.toInt * b.toInt := by
  rw [Int32.toInt_mul]
  exact Int.bmod_eq_of_le (by omega) (by omega)
theorem tdiv {a b : Int32} (h1 : 0 ≤ a.toInt) (h2 : 0 < b.toInt) : (a / b).toInt = a.toInt / b.toInt := by
  rw [Int32.toInt_div]
  have h3 : a.toInt ≤ 2147483647 := Int32.toInt_le a
  have h4 : a.toInt / b.toInt ≤ a.toInt := Int.ediv_le_self _ h1
  have h5 : 0 ≤ a.toInt / b.toInt := Int.ediv_nonneg h1 (by omega)
  rw [Int.tdiv_eq_ediv_of_nonneg h1]
  exact Int.bmod_eq_of_le (by omega) (by omega)
theorem tinj {a b : Int32} (h : a.toInt = b.toInt) : a = b := Int32.toInt_inj.mp h
theorem tle {a b : Int32} : a ≤ b ↔ a.toInt ≤ b.toInt := Int32.le_iff_toInt_le
theorem tlt {a b : Int32} : a < b ↔ a.toInt < b.toInt := Int32.lt_iff_toInt_lt
theorem tbd (a : Int32) : -2147483648 ≤ a.toInt ∧ a.toInt ≤ 2147483647 := ⟨Int32.le_toInt a, Int32.toInt_le a⟩
theorem tnI {n : Nat} (h : n < 2147483648) : (nI n).toInt = (n : Int) := nI_toInt h
theorem tmin {a b : Int32} : (zmin a b).toInt = min a.toInt b.toInt := by
  unfold zmin
  by_cases q : b ≤ a
  · rw [if_pos q]
    have := tle.mp q
    omega
  · rw [if_neg q]
    have : ¬ b.toInt ≤ a.toInt := fun z => q (tle.mpr z)
    omega
theorem upd_co {s : Nat → Int32} {i j : Nat} {x y : Int32} (h : i ≠ j) : upd (upd s i x) j y = upd (upd s j y) i x := by
  funext k
  by_cases e1 : k = i
  · subst e1
    rw [upd_ne h, upd_eq, upd_eq]
  · by_cases e2 : k = j
    · subst e2
      rw [upd_eq, upd_ne e1, upd_eq]
    · rw [upd_ne e2, upd_ne e1, upd_ne e1, upd_ne e2]
theorem setA_self {σ : Nat → Int32} : setA σ (fun i => σ (115 + i)) = σ := by
  funext i
  by_cases q : 115 ≤ i
  · obtain ⟨j, rfl⟩ := Nat.exists_eq_add_of_le q
    exact setA_hi
  · exact setA_lo (by omega)
theorem setA_upd {σ a : Nat → Int32} {k : Nat} {x : Int32} : setA σ (upd a k x) = upd (setA σ a) (115 + k) x := by
  funext i
  by_cases q : 115 ≤ i
  · obtain ⟨j, rfl⟩ := Nat.exists_eq_add_of_le q
    rw [setA_hi]
    by_cases e : j = k
    · rw [e, upd_eq, upd_eq]
    · rw [upd_ne e, upd_ne (by omega), setA_hi]
  · rw [setA_lo (by omega), upd_ne (by omega), setA_lo (by omega)]
theorem shMany_all {σ : Nat → Int32} : shMany (fun k9 => σ (115 + k9)) 0 20 21 = dLF σ 0 21 :=
  shMany_from (x := 0) (b := 20) (by decide) (by decide) (fun k hk => rfl) 21 (by decide) (by decide)
theorem dLF_lo {s : Nat → Int32} {i a : Nat} {x : Int32} (h : i < 115) : ∀ n, dLF (upd s i x) a n = dLF s a n
  | 0 => rfl
  | n + 1 => by
    show dLF (upd s i x) a n + (upd s i x) (115 + (a + n)) = dLF s a n + s (115 + (a + n))
    rw [dLF_lo h n, upd_ne (by omega)]
/-- the unloading, once more, each number read once -/
def dStA (s : Nat → Int32) (k A : Nat) (a b n : Int32) : Nat → Int32 := if a ≤ 20 then upd (upd (upd (upd s (19 + 9 * k + 4) 0) (19 + 9 * k + 7) (s (19 + 9 * k + 7) + b)) (115 + A) (s (115 + A) + n)) 10 (s 10 + (b - n)) else upd (upd (upd s (19 + 9 * k + 4) 0) (19 + 9 * k + 7) (s (19 + 9 * k + 7) + b)) 9 (s 9 + b)
theorem dSt1_n {s : Nat → Int32} {k : Nat} : dSt1 s k = upd (upd s (19 + 9 * k + 4) 0) (19 + 9 * k + 7) (s (19 + 9 * k + 7) + s (19 + 9 * k + 4)) := by
  unfold dSt1
  rw [show (upd s (19 + 9 * k + 4) 0) (19 + 9 * k + 7) = s (19 + 9 * k + 7) from upd_ne (by omega)]
theorem dSt_n {s : Nat → Int32} {k : Nat} (hk : k < 4) : dSt s k = dStA s k (s 3 - s (19 + 9 * k + 5)).toNatClampNeg (s 3 - s (19 + 9 * k + 5)) (s (19 + 9 * k + 4)) (zmin (s (19 + 9 * k + 4)) (80 - dLF s 0 21)) := by
  have e : dLF (dSt1 s k) 0 21 = dLF s 0 21 := by
    rw [dSt1_n, dLF_lo (by omega), dLF_lo (by omega)]
  unfold dSt dStA
  rw [e, dSt1_n]
  generalize (s 3 - s (19 + 9 * k + 5)).toNatClampNeg = A
  generalize zmin (s (19 + 9 * k + 4)) (80 - dLF s 0 21) = n
  by_cases q : s 3 - s (19 + 9 * k + 5) ≤ 20
  · rw [if_pos q, if_pos q]
    rw [show ∀ x y, (upd (upd s (19 + 9 * k + 4) x) (19 + 9 * k + 7) y) (115 + A) = s (115 + A) from fun x y => (upd_ne (by omega)).trans (upd_ne (by omega))]
    rw [show ∀ x y z, (upd (upd (upd s (19 + 9 * k + 4) x) (19 + 9 * k + 7) y) (115 + A) z) 10 = s 10 from fun x y z => (upd_ne (by omega)).trans ((upd_ne (by omega)).trans (upd_ne (by omega)))]
  · rw [if_neg q, if_neg q]
    rw [show ∀ x y, (upd (upd s (19 + 9 * k + 4) x) (19 + 9 * k + 7) y) 9 = s 9 from fun x y => (upd_ne (by omega)).trans (upd_ne (by omega))]
theorem hUn_n {σ : Nat → Int32} {k : Nat} (hk : k < 4) (h : ¬ (σ 3 - σ (19 + 9 * k + 5)) < 0) : hUnload k σ = dSt σ k := by
  have e1 : hUn1 k σ = upd (upd σ (19 + 9 * k + 4) 0) (19 + 9 * k + 7) (σ (19 + 9 * k + 7) + σ (19 + 9 * k + 4)) := by
    unfold hUn1
    rw [setR_upd (by decide), setR_upd (by decide), setR_self]
  have e2 : shMany (fun k9 => hUn1 k σ (115 + k9)) 0 20 21 = dLF σ 0 21 := by
    rw [shMany_all, e1, dLF_lo (by omega), dLF_lo (by omega)]
  have e3 : hUnAge k σ = σ 3 - σ (19 + 9 * k + 5) := by
    unfold hUnAge
    rw [e1]
    rw [show ∀ x y, (upd (upd σ (19 + 9 * k + 4) x) (19 + 9 * k + 7) y) 3 = σ 3 from fun x y => (upd_ne (by omega)).trans (upd_ne (by omega))]
    rw [show ∀ x y, (upd (upd σ (19 + 9 * k + 4) x) (19 + 9 * k + 7) y) (19 + 9 * k + 5) = σ (19 + 9 * k + 5) from fun x y => (upd_ne (by omega)).trans (upd_ne (by omega))]
  have e4 : hUnSt k σ = zmin (σ (19 + 9 * k + 4)) (80 - dLF σ 0 21) := by
    unfold hUnSt zmin
    rw [e2]
    by_cases q : 80 - dLF σ 0 21 < σ (19 + 9 * k + 4)
    · rw [if_pos q, if_pos (tle.mpr (by have := tlt.mp q; omega))]
    · rw [if_neg q]
      by_cases q2 : 80 - dLF σ 0 21 ≤ σ (19 + 9 * k + 4)
      · rw [if_pos q2]
        have := tle.mp q2
        have q' : ¬ (80 - dLF σ 0 21).toInt < (σ (19 + 9 * k + 4)).toInt := fun z => q (tlt.mpr z)
        exact tinj (by omega)
      · rw [if_neg q2]
  rw [dSt_n hk]
  unfold hUnload dStA hUn2
  rw [e3, e4, e1]
  by_cases q : σ 3 - σ (19 + 9 * k + 5) ≤ 20
  · rw [if_pos q, if_pos q]
    have q21 : ¬ 21 ≤ σ 3 - σ (19 + 9 * k + 5) := by
      have a1 := tle.mp q
      intro z
      have a2 := tle.mp z
      have c1 : (20 : Int32).toInt = 20 := by decide
      have c2 : (21 : Int32).toInt = 21 := by decide
      omega
    unfold shStore
    rw [if_neg h, if_neg q21, setA_upd, setA_self]
    generalize (σ 3 - σ (19 + 9 * k + 5)).toNatClampNeg = A
    generalize zmin (σ (19 + 9 * k + 4)) (80 - dLF σ 0 21) = n
    dsimp only
    rw [show ∀ x y, (upd (upd σ (19 + 9 * k + 4) x) (19 + 9 * k + 7) y) (115 + A) = σ (115 + A) from fun x y => (upd_ne (by omega)).trans (upd_ne (by omega))]
    rw [show ∀ x y z, (upd (upd (upd σ (19 + 9 * k + 4) x) (19 + 9 * k + 7) y) (115 + A) z) 10 = σ 10 from fun x y z => (upd_ne (by omega)).trans ((upd_ne (by omega)).trans (upd_ne (by omega)))]
  · rw [if_neg q, if_neg q]
    rw [show ∀ x y, (upd (upd σ (19 + 9 * k + 4) x) (19 + 9 * k + 7) y) 9 = σ 9 from fun x y => (upd_ne (by omega)).trans (upd_ne (by omega))]

