/-! THE REFERENCE'S FUNCTIONS -/
theorem zi9 {c : Nat} {x y : Int32} {k i n : Nat} (hx : x = nI k) (hy : y = nI i) : nI c + nI n * x + y = nI (c + n * k + i) := by
  rw [hx, hy, show nI n * nI k = nI (n * k) from (Int32.ofNat_mul n k).symm, nI_add, nI_add]
theorem zwin_01 {x a b : Int32} : zwin x a b = 0 ∨ zwin x a b = 1 := by
  unfold zwin
  split
  · exact .inl rfl
  · split
    · exact .inl rfl
    · exact .inr rfl
theorem zi9' {c : Nat} {x : Int32} {k n : Nat} (hx : x = nI k) : nI c + nI n * x = nI (c + n * k) := by
  rw [hx, show nI n * nI k = nI (n * k) from (Int32.ofNat_mul n k).symm, nI_add]
def dIs (s : Nat → Int32) (x : Int32) : Int32 := if x < 0 then 0 else if s 0 ≤ x then 0 else 1
def dPl (s : Nat → Int32) (g : Int32) : Nat → Nat → Int32
  | 0, _ => -1000004
  | m + 1, k => if s (55 + 6 * k + 0) = g then nI k else dPl s g m (k + 1)
def dLF (s : Nat → Int32) (a n : Nat) : Int32 := zfold (fun k m => m + s (115 + (a + k))) 0 n
theorem zia {c : Nat} {x : Int32} (h : ¬ x < 0) : nI c + x = nI (c + x.toNatClampNeg) := (congrArg (fun z => nI c + z) (zix1 h)).trans (nI_add c _)
theorem zle_nat {x : Int32} {N : Nat} (h : ¬ x < 0) (hN : N < 2147483648) (h2 : x ≤ nI N) : x.toNatClampNeg ≤ N := by
  obtain ⟨j, hj, rfl⟩ := nI_of h
  rw [nI_clamp hj]
  exact (nI_leI hj hN).mp h2
def dSt1 (s : Nat → Int32) (k : Nat) : Nat → Int32 := upd (upd s (19 + 9 * k + 4) 0) (19 + 9 * k + 7) ((upd s (19 + 9 * k + 4) 0) (19 + 9 * k + 7) + s (19 + 9 * k + 4))
def dSt (s : Nat → Int32) (k : Nat) : Nat → Int32 := if s 3 - s (19 + 9 * k + 5) ≤ 20 then upd (upd (dSt1 s k) (115 + (s 3 - s (19 + 9 * k + 5)).toNatClampNeg) ((dSt1 s k) (115 + (s 3 - s (19 + 9 * k + 5)).toNatClampNeg) + zmin (s (19 + 9 * k + 4)) (80 - dLF (dSt1 s k) 0 21))) 10 ((upd (dSt1 s k) (115 + (s 3 - s (19 + 9 * k + 5)).toNatClampNeg) ((dSt1 s k) (115 + (s 3 - s (19 + 9 * k + 5)).toNatClampNeg) + zmin (s (19 + 9 * k + 4)) (80 - dLF (dSt1 s k) 0 21))) 10 + (s (19 + 9 * k + 4) - zmin (s (19 + 9 * k + 4)) (80 - dLF (dSt1 s k) 0 21))) else upd (dSt1 s k) 9 ((dSt1 s k) 9 + s (19 + 9 * k + 4))
def dHo (s : Nat → Int32) (k : Nat) : Nat → Int32 := if s (19 + 9 * k + 6) < s (19 + 9 * k + 1) then upd (upd (upd s (19 + 9 * k + 2) 0) (19 + 9 * k + 3) 0) (19 + 9 * k + 8) ((upd (upd s (19 + 9 * k + 2) 0) (19 + 9 * k + 3) 0) (19 + 9 * k + 8) + 0) else upd (upd (upd s (19 + 9 * k + 2) 3) (19 + 9 * k + 3) 5) (19 + 9 * k + 8) ((upd (upd s (19 + 9 * k + 2) 3) (19 + 9 * k + 3) 5) (19 + 9 * k + 8) + 1)
def dC1 (s : Nat → Int32) (k : Nat) : Nat → Int32 := upd s (19 + 9 * k + 3) (s (19 + 9 * k + 3) - 1)
def dCo (s : Nat → Int32) (k : Nat) : Nat → Int32 := if (dC1 s k) (19 + 9 * k + 3) ≤ 0 then (if s (19 + 9 * k + 2) = 1 then upd (upd (dSt (dC1 s k) k) (19 + 9 * k + 2) 2) (19 + 9 * k + 3) 2 else if s (19 + 9 * k + 2) = 2 then dHo (dC1 s k) k else upd (upd (dC1 s k) (19 + 9 * k + 2) 0) (19 + 9 * k + 6) 0) else dC1 s k
theorem dC1_ne {s : Nat → Int32} {k i : Nat} (h : i ≠ 19 + 9 * k + 3) : dC1 s k i = s i := upd_ne h
def dTkS (g : Nat) (k : Nat) (p : (Nat → Int32) × Int32) : (Nat → Int32) × Int32 := (upd p.1 (115 + (g - k)) (p.1 (115 + (g - k)) - zmin p.2 (p.1 (115 + (g - k)))), p.2 - zmin p.2 (p.1 (115 + (g - k))))
def dTk (s : Nat → Int32) (g : Nat) (x : Int32) (n : Nat) : (Nat → Int32) × Int32 := zfold (dTkS g) (s, x) n
theorem dTk_s {s : Nat → Int32} {g : Nat} {x : Int32} {n : Nat} : dTk s g x (n + 1) = dTkS g n (dTk s g x n) := rfl
def dTake (s : Nat → Int32) (g e : Nat) (x : Int32) : Nat → Int32 := upd (dTk s g x (g + 1 - e)).1 8 ((dTk s g x (g + 1 - e)).1 8 + x)
theorem zpr_at {g n : Nat} (h : n ≤ g) : zpr (g + 1 - n) = nI (g - n) := by
  rw [show g + 1 - n = (g - n) + 1 by omega]
  rfl
theorem zpr_lt {e : Nat} (h : e ≤ 21) : zpr e < nI e := by
  rcases e with _ | e
  · decide
  · exact nI_lt (by omega) (by omega)
def dGoS (k : Nat) (n : Nat) (s : Nat → Int32) : Nat → Int32 := upd s (55 + 6 * k + n) (s (55 + 6 * k + n + 6))
def dGoL (s : Nat → Int32) (k b n : Nat) : Nat → Int32 := zfold (dGoS k) (upd s 1 (nI b)) n
def dGo (s : Nat → Int32) (k b : Nat) : Nat → Int32 := dGoL s k b (6 * (b - k))
theorem dGoL_s {s : Nat → Int32} {k b n : Nat} : dGoL s k b (n + 1) = dGoS k n (dGoL s k b n) := rfl
theorem dGoL_lo {s : Nat → Int32} {k b : Nat} {i : Nat} (h : i < 55) : ∀ n, dGoL s k b n i = upd s 1 (nI b) i
  | 0 => rfl
  | n + 1 => (upd_ne (by omega)).trans (dGoL_lo h n)
theorem dGoL_1 {s : Nat → Int32} {k b n : Nat} : dGoL s k b n 1 = nI b := (dGoL_lo (by decide) n).trans upd_eq
theorem dGo_lo {s : Nat → Int32} {k b i : Nat} (h : i < 55) (h1 : i ≠ 1) : dGo s k b i = s i := (dGoL_lo h _).trans (upd_ne h1)
theorem dGo_1 {s : Nat → Int32} {k b : Nat} : dGo s k b 1 = nI b := dGoL_1
theorem zlt_s {b : Nat} {x : Int32} (hx : x = nI b) : (55 : Int32) + 6 * x = nI (55 + 6 * b) := zi9' (c := 55) (n := 6) hx
theorem dTk_lo {s : Nat → Int32} {g : Nat} {x : Int32} {i : Nat} (h : i < 115) : ∀ n, (dTk s g x n).1 i = s i
  | 0 => rfl
  | n + 1 => (upd_ne (by omega)).trans (dTk_lo h n)
theorem dTake_lo {s : Nat → Int32} {g e : Nat} {x : Int32} {i : Nat} (h : i < 115) (h2 : i ≠ 8) : dTake s g e x i = s i := (upd_ne h2).trans (dTk_lo h _)
def dWh (s : Nat → Int32) (k fr : Nat) : Int32 := zmin ((s (55 + 6 * k + 1) + 1) / 2) (dLF s 0 (fr + 1 - 0))
def dE1 (s : Nat → Int32) (k fr : Nat) : Nat → Int32 := dTake s fr 0 (dWh s k fr)
def dSo (s : Nat → Int32) (k fr : Nat) : Int32 := zmin ((s (55 + 6 * k + 1) + 1) / 2 - dWh s k fr) (dLF (dE1 s k fr) (fr + 1) (20 + 1 - (fr + 1)) / 2)
def dE2 (s : Nat → Int32) (k fr : Nat) : Nat → Int32 := dTake (dE1 s k fr) 20 (fr + 1) (2 * dSo s k fr)
def dE3 (t : Nat → Int32) (k : Nat) (pays hungry : Int32) : Nat → Int32 :=
  let t1 := upd t (55 + 6 * k + 4) (t (55 + 6 * k + 4) + pays)
  let t2 := upd t1 (55 + 6 * k + 5) (t1 (55 + 6 * k + 5) + hungry)
  let t3 := upd t2 12 (t2 12 + hungry)
  let t4 := upd t3 5 (t3 5 + pays)
  upd t4 13 (t4 13 + pays)
def dEat (s : Nat → Int32) (k fr : Nat) : Nat → Int32 := if (s (55 + 6 * k + 1) + 1) / 2 ≤ dWh s k fr + dSo s k fr then (if dSo s k fr ≤ 0 then dE3 (dE2 s k fr) k (s (55 + 6 * k + 1) * 3) 0 else dE3 (dE2 s k fr) k (s (55 + 6 * k + 1) * 2) 0) else dE3 (dE2 s k fr) k (s (55 + 6 * k + 1) * 1) 1
theorem dE1_lo {s : Nat → Int32} {k fr i : Nat} (h : i < 115) (h2 : i ≠ 8) : dE1 s k fr i = s i := dTake_lo h h2
theorem dE2_lo {s : Nat → Int32} {k fr i : Nat} (h : i < 115) (h2 : i ≠ 8) : dE2 s k fr i = s i := (dTake_lo h h2).trans (dE1_lo h h2)
theorem dSt1_ne {s : Nat → Int32} {k i : Nat} (h1 : i ≠ 19 + 9 * k + 4) (h2 : i ≠ 19 + 9 * k + 7) : dSt1 s k i = s i := (upd_ne h2).trans (upd_ne h1)
theorem dSt_ne {s : Nat → Int32} {k i : Nat} (h1 : i ≠ 19 + 9 * k + 4) (h2 : i ≠ 19 + 9 * k + 7) (h3 : i < 115) (h4 : i ≠ 9) (h5 : i ≠ 10) : dSt s k i = s i := by
  unfold dSt
  split
  · rw [upd_ne h5, upd_ne (by omega), dSt1_ne h1 h2]
  · rw [upd_ne h4, dSt1_ne h1 h2]
theorem dHo_ne {s : Nat → Int32} {k i : Nat} (h : i < 19 + 9 * k ∨ 19 + 9 * k + 9 ≤ i) : dHo s k i = s i := by
  unfold dHo
  split
  · rw [upd_ne (by omega), upd_ne (by omega), upd_ne (by omega)]
  · rw [upd_ne (by omega), upd_ne (by omega), upd_ne (by omega)]
theorem dCo_ne {s : Nat → Int32} {k i : Nat} (h : i < 19 + 9 * k ∨ 19 + 9 * k + 9 ≤ i) (h3 : i < 115) (h4 : i ≠ 9) (h5 : i ≠ 10) : dCo s k i = s i := by
  unfold dCo
  split
  · split
    · rw [upd_ne (by omega), upd_ne (by omega), dSt_ne (by omega) (by omega) h3 h4 h5, dC1_ne (by omega)]
    · split
      · rw [dHo_ne h, dC1_ne (by omega)]
      · rw [upd_ne (by omega), upd_ne (by omega), dC1_ne (by omega)]
  · exact dC1_ne (by omega)
def dN0 (s : Nat → Int32) : Nat → Int32 := upd s 4 (((s 4) * 421 + 1663) - ((s 4) * 421 + 1663) / 10000 * 10000)
def dSn (s : Nat → Int32) : Int32 := if (dN0 s) 18 ≤ ((dN0 s) 4 - (dN0 s) 4 / 100 * 100) then 0 else 1
def dN1 (s : Nat → Int32) : Nat → Int32 := upd (dN0 s) 11 ((dN0 s) 11 + dSn s)
def dMuS (sn : Int32) (k : Nat) (t : Nat → Int32) : Nat → Int32 := if t (19 + 9 * k + 2) = 3 then dCo t k else if t (19 + 9 * k + 2) = 0 then t else if sn = 0 then dCo t k else t
def dMu (s : Nat → Int32) (sn : Int32) (n : Nat) : Nat → Int32 := zfold (dMuS sn) s n
theorem dMu_s {s : Nat → Int32} {sn : Int32} {n : Nat} : dMu s sn (n + 1) = dMuS sn n (dMu s sn n) := rfl
theorem dMuS_ne {sn : Int32} {s : Nat → Int32} {k i : Nat} (h : i < 19 + 9 * k ∨ 19 + 9 * k + 9 ≤ i) (h3 : i < 115) (h4 : i ≠ 9) (h5 : i ≠ 10) : dMuS sn k s i = s i := by
  unfold dMuS
  split
  · exact dCo_ne h h3 h4 h5
  · split
    · rfl
    · split
      · exact dCo_ne h h3 h4 h5
      · rfl
theorem dMu_ne {sn : Int32} {s : Nat → Int32} {i : Nat} (h3 : i < 115) (h4 : i ≠ 9) (h5 : i ≠ 10) : ∀ n, (i < 19 ∨ 19 + 9 * n ≤ i) → dMu s sn n i = s i
  | 0, _ => rfl
  | n + 1, h => (dMuS_ne (by omega) h3 h4 h5).trans (dMu_ne h3 h4 h5 n (by omega))
theorem dN1_ne {s : Nat → Int32} {i : Nat} (h : i ≠ 4) (h2 : i ≠ 11) : dN1 s i = s i := (upd_ne h2).trans (upd_ne h)
def dEaS (fr : Nat) (k : Nat) (t : Nat → Int32) : Nat → Int32 := if zwin (t 3 - t (55 + 6 * k + 2)) 0 (t (55 + 6 * k + 3) - 1) = 0 then t else dEat t k fr
def dEa (s : Nat → Int32) (fr n : Nat) : Nat → Int32 := zfold (dEaS fr) s n
theorem dEa_s {s : Nat → Int32} {fr n : Nat} : dEa s fr (n + 1) = dEaS fr n (dEa s fr n) := rfl
theorem dE3_ne {t : Nat → Int32} {k i : Nat} {p h : Int32} (h3 : i ≠ 5) (h4 : i ≠ 12) (h5 : i ≠ 13) (h6 : i ≠ 55 + 6 * k + 4) (h7 : i ≠ 55 + 6 * k + 5) : dE3 t k p h i = t i := by
  unfold dE3
  rw [upd_ne h5, upd_ne h3, upd_ne h4, upd_ne h7, upd_ne h6]
theorem dEat_ne {s : Nat → Int32} {k fr i : Nat} (h1 : i < 115) (h2 : i ≠ 8) (h3 : i ≠ 5) (h4 : i ≠ 12) (h5 : i ≠ 13) (h6 : i ≠ 55 + 6 * k + 4) (h7 : i ≠ 55 + 6 * k + 5) : dEat s k fr i = s i := by
  unfold dEat
  split
  · split
    · rw [dE3_ne h3 h4 h5 h6 h7, dE2_lo h1 h2]
    · rw [dE3_ne h3 h4 h5 h6 h7, dE2_lo h1 h2]
  · rw [dE3_ne h3 h4 h5 h6 h7, dE2_lo h1 h2]
theorem dEaS_ne {s : Nat → Int32} {k fr i : Nat} (h1 : i < 115) (h2 : i ≠ 8) (h3 : i ≠ 5) (h4 : i ≠ 12) (h5 : i ≠ 13) (h6 : i ≠ 55 + 6 * k + 4) (h7 : i ≠ 55 + 6 * k + 5) : dEaS fr k s i = s i := by
  unfold dEaS
  split
  · rfl
  · exact dEat_ne h1 h2 h3 h4 h5 h6 h7
theorem dEa_lo {s : Nat → Int32} {fr i : Nat} (h1 : i < 55) (h2 : i ≠ 8) (h3 : i ≠ 5) (h4 : i ≠ 12) (h5 : i ≠ 13) : ∀ n, dEa s fr n i = s i
  | 0 => rfl
  | n + 1 => (dEaS_ne (by omega) h2 h3 h4 h5 (by omega) (by omega)).trans (dEa_lo h1 h2 h3 h4 h5 n)
def dThr (t : Nat → Int32) : Nat → Int32 := upd t 9 (t 9 + t 135)
def dShS (k : Nat) (u : Nat → Int32) : Nat → Int32 := upd u (115 + (20 - k)) (u (115 + (20 - k - 1)))
def dSh (t : Nat → Int32) (n : Nat) : Nat → Int32 := zfold dShS t n
theorem dSh_s {t : Nat → Int32} {n : Nat} : dSh t (n + 1) = dShS n (dSh t n) := rfl
theorem dSh_lo {t : Nat → Int32} {i : Nat} (h : i < 115) : ∀ n, dSh t n i = t i
  | 0 => rfl
  | n + 1 => (upd_ne (by omega)).trans (dSh_lo h n)
def dSft (t : Nat → Int32) : Nat → Int32 := upd (dSh (dThr t) 20) 115 0
theorem dSft_lo {t : Nat → Int32} {i : Nat} (h : i < 115) (h2 : i ≠ 9) : dSft t i = t i := (upd_ne (by omega)).trans ((dSh_lo h 20).trans (upd_ne h2))
def dGz : Nat → Nat → (Nat → Int32) → Nat → Int32
  | 0, _, s => s
  | m + 1, b, s => if s (55 + 6 * m + 2) + s (55 + 6 * m + 3) - 1 = s 3 then dGz m (b - 1) (dGo s m (b - 1)) else dGz m b s
theorem dGz_s {m b : Nat} {s : Nat → Int32} : dGz (m + 1) b s = if s (55 + 6 * m + 2) + s (55 + 6 * m + 3) - 1 = s 3 then dGz m (b - 1) (dGo s m (b - 1)) else dGz m b s := rfl
def dA1 (s : Nat → Int32) (mc : Nat) : Nat → Int32 := dMu (dN1 s) (dSn s) mc
def dA2 (s : Nat → Int32) (mc bk fr : Nat) : Nat → Int32 := dEa (dA1 s mc) fr bk
def dA3 (s : Nat → Int32) (mc bk fr : Nat) : Nat → Int32 := dSft (dA2 s mc bk fr)
def dA4 (s : Nat → Int32) (mc bk fr : Nat) : Nat → Int32 := dGz bk bk (dA3 s mc bk fr)
def dEnds (s : Nat → Int32) (mc bk fr : Nat) : Nat → Int32 := upd (dA4 s mc bk fr) 3 ((dA4 s mc bk fr) 3 + 1)
theorem zpr_dn {g n : Nat} (h : n < g) : zpr (g - n) = nI (g - (n + 1)) := by
  rw [show g - n = (g - (n + 1)) + 1 by omega]
  rfl
theorem zi_sh {c q : Nat} (h : 1 ≤ q) : nI c + nI q - 1 = nI (c + (q - 1)) := by
  rw [nI_add, show c + q = (c + (q - 1)) + 1 by omega]
  exact nI_pred _
theorem dA1_lo {s : Nat → Int32} {mc i : Nat} (h : i < 19) (h1 : i ≠ 4) (h2 : i ≠ 9) (h3 : i ≠ 10) (h4 : i ≠ 11) : dA1 s mc i = s i := (dMu_ne (by omega) h2 h3 _ (.inl h)).trans (dN1_ne h1 h4)
theorem dA2_lo {s : Nat → Int32} {mc bk fr i : Nat} (h : i < 19) (h1 : i ≠ 4) (h2 : i ≠ 9) (h3 : i ≠ 10) (h4 : i ≠ 11) (h5 : i ≠ 5) (h6 : i ≠ 8) (h7 : i ≠ 12) (h8 : i ≠ 13) : dA2 s mc bk fr i = s i := (dEa_lo (by omega) h6 h5 h7 h8 _).trans (dA1_lo h h1 h2 h3 h4)
theorem dA3_lo {s : Nat → Int32} {mc bk fr i : Nat} (h : i < 19) (h1 : i ≠ 4) (h2 : i ≠ 9) (h3 : i ≠ 10) (h4 : i ≠ 11) (h5 : i ≠ 5) (h6 : i ≠ 8) (h7 : i ≠ 12) (h8 : i ≠ 13) : dA3 s mc bk fr i = s i := (dSft_lo (by omega) h2).trans (dA2_lo h h1 h2 h3 h4 h5 h6 h7 h8)
def dGd (s : Nat → Int32) (mc bk fr : Nat) : Prop := s 0 = nI mc ∧ mc ≤ 4 ∧ s 1 = nI bk ∧ bk ≤ 10 ∧ s 17 = nI fr ∧ fr ≤ 15 ∧ ∀ m, m < mc → s (19 + 9 * m + 2) = 1 → ¬ (s 3 - s (19 + 9 * m + 5)) < 0
def dGood (s : Nat → Int32) : Prop := ∃ mc bk fr, dGd s mc bk fr
def dEndX (s : Nat → Int32) : Nat → Int32 := dEnds s (s 0).toNatClampNeg (s 1).toNatClampNeg (s 17).toNatClampNeg
theorem dEndX_eq {s : Nat → Int32} {mc bk fr : Nat} (h : dGd s mc bk fr) : dEndX s = dEnds s mc bk fr := by
  obtain ⟨h1, h2, h3, h4, h5, h6, -⟩ := h
  unfold dEndX
  rw [h1, h3, h5, nI_clamp (by omega), nI_clamp (by omega), nI_clamp (by omega)]
def dEN (s : Nat → Int32) (n : Nat) : Nat → Int32 := zfold (fun _ => dEndX) s n
theorem dEN_s {s : Nat → Int32} {n : Nat} : dEN s (n + 1) = dEndX (dEN s n) := rfl
def dCp (b a : Nat → Int32) (n : Nat) : Nat → Int32 := zfold (fun k p => upd p k (a k)) b n
theorem dCp_in {b a : Nat → Int32} {i : Nat} : ∀ n, i < n → dCp b a n i = a i
  | n + 1, h => by
    show upd (dCp b a n) n (a n) i = a i
    by_cases e : i = n
    · subst e; exact upd_eq
    · exact (upd_ne e).trans (dCp_in n (by omega))
def dPj (k : Nat) : Nat := if k < 4 then k else 3
def dPs (P : Nat → Int32) (n : Nat) : Nat → Int32 := zfold (fun i p => upd p i (p (i + 136))) P n
def dPw (P s : Nat → Int32) (j n : Nat) : Nat → Int32 := zfold (fun i p => upd p (136 * j + i) (s i)) P n
theorem dPs_hi {P : Nat → Int32} {i : Nat} : ∀ n, n ≤ i → dPs P n i = P i
  | 0, _ => rfl
  | n + 1, h => (upd_ne (by omega)).trans (dPs_hi n (by omega))
theorem dPs_lo {P : Nat → Int32} {i : Nat} : ∀ n, i < n → dPs P n i = P (i + 136)
  | n + 1, h => by
    show upd (dPs P n) n (dPs P n (n + 136)) i = _
    by_cases e : i = n
    · subst e; exact upd_eq.trans (dPs_hi _ (by omega))
    · exact (upd_ne e).trans (dPs_lo n (by omega))
theorem dPw_in {P s : Nat → Int32} {j i : Nat} : ∀ n, i < n → dPw P s j n (136 * j + i) = s i
  | n + 1, h => by
    show upd (dPw P s j n) (136 * j + n) (s n) _ = _
    by_cases e : i = n
    · subst e; exact upd_eq
    · exact (upd_ne (by omega)).trans (dPw_in n (by omega))
theorem dPw_out {P s : Nat → Int32} {j i : Nat} (h : i < 136 * j ∨ 136 * j + 136 ≤ i) : ∀ n, n ≤ 136 → dPw P s j n i = P i
  | 0, _ => rfl
  | n + 1, hn => (upd_ne (by omega)).trans (dPw_out h n (by omega))
def dPa (v P s : Nat → Int32) (k : Nat) : Nat → Int32 := if v 1 = 0 then dPw (if k < 4 then P else dPs P 408) s (dPj k) 136 else P
def dPv (v : Nat → Int32) (k : Nat) : Nat → Int32 := if v 1 = 0 then upd v 0 (nI (dPj k + 1)) else v
theorem nI_mul9 {c k i : Nat} : nI c * nI k + nI i = nI (c * k + i) := by
  rw [show nI c * nI k = nI (c * k) from (Int32.ofNat_mul c k).symm, nI_add]
theorem nI_ne4 {k : Nat} (h : k < 4) : ¬ nI k = 4 := fun q => by
  have := (nI_eq (show k < 2 ^ 31 by omega) (show 4 < 2 ^ 31 by decide)).mp q
  omega
def dMz (s : Nat → Int32) (mc n : Nat) : Nat → Int32 := zfold (fun i p => upd p (19 + 9 * mc + i) 0) s n
def dMn (s : Nat → Int32) (mc : Nat) (a c : Int32) : Nat → Int32 := upd (upd (dMz s mc 9) (19 + 9 * mc + 0) a) (19 + 9 * mc + 1) c
def dMule (s : Nat → Int32) (mc : Nat) (a c : Int32) : Int32 × Bool × (Nat → Int32) := if (zwin a 1 30) = 0 then (-1000001, false, s) else if (zwin c 1 9) = 0 then (-1000001, false, s) else if s 0 = 4 then (-1000003, false, s) else (s 0, true, upd (dMn s mc a c) 0 ((dMn s mc a c) 0 + 1))
def dWhy (s : Nat → Int32) (k : Nat) (n : Int32) : Int32 := if s (19 + 9 * k + 2) = 0 then (if n ≤ s (19 + 9 * k + 0) then (if (s 6 + n * s 15) ≤ s 16 then 0 else 3) else 2) else 1
theorem dIs_x {s : Nat → Int32} {x : Int32} {mc : Nat} (h : ¬ dIs s x = 0) (hm : s 0 = nI mc) (hmc : mc ≤ 4) : x = nI x.toNatClampNeg ∧ x.toNatClampNeg < mc := by
  unfold dIs at h
  have h1 : ¬ x < 0 := fun q => h (if_pos q)
  rw [if_neg h1] at h
  have h2 : ¬ s 0 ≤ x := fun q => h (if_pos q)
  exact ⟨zix1 h1, zix2 h1 (by omega) (by rw [← hm]; exact h2)⟩
def dSe (s : Nat → Int32) (k : Nat) (n : Int32) : Nat → Int32 :=
  let a1 := upd s (19 + 9 * k + 2) 1
  let a2 := upd a1 (19 + 9 * k + 3) 2
  let a3 := upd a2 (19 + 9 * k + 4) n
  let a4 := upd a3 (19 + 9 * k + 5) (a3 3)
  let a5 := upd a4 (19 + 9 * k + 6) (a4 (19 + 9 * k + 6) + 1)
  let a6 := upd a5 7 (a5 7 + n)
  upd a6 6 (a6 6 + n * a6 15)
def dSend (s : Nat → Int32) (x n : Int32) : Int32 × Bool × (Nat → Int32) := if (dIs s x) = 0 then (-1000001, false, s) else if (zwin n 1 30) = 0 then (-1000001, false, s) else if (dWhy s x.toNatClampNeg n) ≤ 0 then ((dSe s x.toNatClampNeg n) 6, true, dSe s x.toNatClampNeg n) else (-1000002, false, s)
def dRest (s : Nat → Int32) (x : Int32) : Int32 × Bool × (Nat → Int32) := if (dIs s x) = 0 then (-1000001, false, s) else if s (19 + 9 * x.toNatClampNeg + 2) = 0 then (s (19 + 9 * x.toNatClampNeg + 6), true, upd s (19 + 9 * x.toNatClampNeg + 6) 0) else (-1000002, false, s)
def dPy (s : Nat → Int32) (m : Int32) : Nat → Int32 :=
  let a1 := upd s 5 (s 5 - m)
  let a2 := upd a1 6 (a1 6 - m)
  upd a2 14 (a2 14 + m)
def dPay (s : Nat → Int32) (m : Int32) : Int32 × Bool × (Nat → Int32) := if (zwin m 1 500) = 0 then (-1000001, false, s) else if (s 5) < m then (-1000002, false, s) else if m ≤ (s 6) then ((dPy s m) 6, true, dPy s m) else (-1000002, false, s)
def dGr (s : Nat → Int32) (bk : Nat) (p d n : Int32) : Nat → Int32 :=
  let a1 := upd s (55 + 6 * bk + 0) (s 2)
  let a2 := upd a1 (55 + 6 * bk + 1) p
  let a3 := upd a2 (55 + 6 * bk + 2) (a2 3 + d)
  let a4 := upd a3 (55 + 6 * bk + 3) n
  let a5 := upd a4 (55 + 6 * bk + 4) 0
  let a6 := upd a5 (55 + 6 * bk + 5) 0
  let a7 := upd a6 1 (a6 1 + 1)
  upd a7 2 (a7 2 + 1)
def dGroup (s : Nat → Int32) (bk : Nat) (p d n : Int32) : Int32 × Bool × (Nat → Int32) := if (zwin p 1 12) = 0 then (-1000001, false, s) else if (zwin d 0 60) = 0 then (-1000001, false, s) else if (zwin n 1 9) = 0 then (-1000001, false, s) else if s 1 = 10 then (-1000003, false, s) else ((dGr s bk p d n) 2 - 1, true, dGr s bk p d n)
theorem dPl_lt {s : Nat → Int32} {g : Int32} : ∀ m k, k + m ≤ 10 → 0 ≤ dPl s g m k → ∃ j, dPl s g m k = nI j ∧ k ≤ j ∧ j < k + m
  | 0, _, _, h => absurd h (by unfold dPl; decide)
  | m + 1, k, hk, h => by
    unfold dPl at h ⊢
    by_cases e : s (55 + 6 * k + 0) = g
    · rw [if_pos e]
      exact ⟨k, rfl, Nat.le_refl _, by omega⟩
    · rw [if_neg e] at h ⊢
      obtain ⟨j, h1, h2, h3⟩ := dPl_lt m (k + 1) (by omega) h
      exact ⟨j, h1, by omega, by omega⟩
theorem dPl_k {s : Nat → Int32} {g : Int32} {bk : Nat} (hb : bk ≤ 10) (h : 0 ≤ dPl s g bk 0) : dPl s g bk 0 = nI (dPl s g bk 0).toNatClampNeg ∧ (dPl s g bk 0).toNatClampNeg < bk := by
  obtain ⟨j, h1, h2, h3⟩ := dPl_lt bk 0 (by omega) h
  rw [h1, nI_clamp (by omega)]
  exact ⟨rfl, by omega⟩
def dOff (s : Nat → Int32) (bk : Nat) (x : Int32) : Int32 × Bool × (Nat → Int32) := if 0 ≤ dPl s x bk 0 then ((dGo s (dPl s x bk 0).toNatClampNeg (bk - 1)) 1, true, dGo s (dPl s x bk 0).toNatClampNeg (bk - 1)) else (-1000001, false, s)
theorem zlt31 (x : Int32) : x.toNatClampNeg < 2147483648 := by
  by_cases h : x < 0
  · have e : x.toNatClampNeg = 0 := by
      show x.toInt.toNat = 0
      have : x.toInt < 0 := Int32.lt_iff_toInt_lt.mp h
      omega
    omega
  · obtain ⟨j, hj, e⟩ := nI_of h
    rw [e, nI_clamp hj]
    exact hj
def dEnd (s : Nat → Int32) (x : Int32) : Int32 × Bool × (Nat → Int32) := if (zwin x 1 60) = 0 then (-1000001, false, s) else if (s 3 + x) ≤ 9999 then ((dEN s x.toNatClampNeg) 8 - s 8, true, dEN s x.toNatClampNeg) else (-1000003, false, s)
def dMay (x y : Int32) : Int32 := if x = 0 then zwin y 1 9 else if x = 1 then zwin y 10 500 else if x = 2 then zwin y 0 15 else zwin y 0 90
def dSet (s : Nat → Int32) (x y : Int32) : Int32 × Bool × (Nat → Int32) := if (zwin x 0 3) = 0 then (-1000001, false, s) else if (dMay x y) = 0 then (-1000001, false, s) else (s (15 + x.toNatClampNeg), true, upd s (15 + x.toNatClampNeg) y)
theorem nI_ltn {x : Int32} {n j : Nat} (hx : x = nI j) (hn : n < 2147483648) (hj : j < 2147483648) (h : ¬ nI n ≤ x) : j < n := by
  rw [hx] at h
  rcases Nat.lt_or_ge j n with q | q
  · exact q
  · exact absurd ((nI_leI hn hj).mpr q) h
def dMuleOf (s : Nat → Int32) (x y : Int32) : Int32 := if (dIs s x) = 0 then (-1000001) else if (zwin y 0 7) = 0 then (-1000001) else if 5 ≤ y then s (19 + 9 * x.toNatClampNeg + (y.toNatClampNeg + 1)) else s (19 + 9 * x.toNatClampNeg + y.toNatClampNeg)
def dGrp (s : Nat → Int32) (k : Nat) (y : Int32) : Int32 := if y = 3 then (s (55 + 6 * k + 1) + 1) / 2 else if y = 4 then (if zwin (s 3 - s (55 + 6 * k + 2)) 0 (s (55 + 6 * k + 3) - 1) = 0 then 0 else 1) else if y = 5 then s (55 + 6 * k + 4) else if y = 6 then s (55 + 6 * k + 5) else s (55 + 6 * k + (y.toNatClampNeg + 1))
def dGroupOf (s : Nat → Int32) (bk : Nat) (x y : Int32) : Int32 := if dPl s x bk 0 < 0 then (-1000001) else if zwin y 0 6 = 0 then (-1000001) else dGrp s (dPl s x bk 0).toNatClampNeg y
def dNumber (s : Nat → Int32) (x : Int32) : Int32 := if 0 ≤ x then (if s 1 ≤ x then (-1000004) else s (55 + 6 * x.toNatClampNeg + 0)) else (-1000001)
def dLoaves (s : Nat → Int32) (x : Int32) : Int32 := if zwin x 0 20 = 0 then (-1000001) else s (115 + x.toNatClampNeg)
def dWhyQ (s : Nat → Int32) (x n : Int32) : Int32 := if dIs s x = 0 then (-1000001) else if zwin n 1 30 = 0 then (-1000001) else dWhy s x.toNatClampNeg n
def dWaS (s : Nat → Int32) (x : Int32) (k : Nat) (m : Int32) : Int32 := m + (if zwin ((s 3 + x) - s (55 + 6 * k + 2)) 0 (s (55 + 6 * k + 3) - 1) = 0 then 0 else (s (55 + 6 * k + 1) + 1) / 2)
def dWa (s : Nat → Int32) (x : Int32) (n : Nat) : Int32 := zfold (dWaS s x) 0 n
theorem dWa_s {s : Nat → Int32} {x : Int32} {n : Nat} : dWa s x (n + 1) = dWaS s x n (dWa s x n) := rfl
def dWanted (s : Nat → Int32) (bk : Nat) (x : Int32) : Int32 := if zwin x 0 60 = 0 then (-1000001) else dWa s x bk
def dHu (s : Nat → Int32) (h : Int32) : Nat → Nat → Nat
  | 0, n => n
  | m + 1, n => if (dEN s n) 12 = h then dHu s h m (n + 1) else n
def dHuN (s T : Nat → Int32) : Nat := dHu s ((dCp T s 136) 12) 60 0
def dHungry (s T : Nat → Int32) : Int32 := if (dEN s (dHuN s T)) 12 ≤ (dCp T s 136) 12 then (-1000004) else nI (dHuN s T)
def dNeS (s : Nat → Int32) (k : Nat) (b : Int32) : Int32 := if s (19 + 9 * k + 2) = 0 then (if b < 0 then nI k else if s (19 + 9 * b.toNatClampNeg + 0) < s (19 + 9 * k + 0) then nI k else if s (19 + 9 * k + 0) = s (19 + 9 * b.toNatClampNeg + 0) then (if s (19 + 9 * b.toNatClampNeg + 6) ≤ s (19 + 9 * k + 6) then b else nI k) else b) else b
def dNe (s : Nat → Int32) (n : Nat) : Int32 := zfold (dNeS s) (-1000004) n
theorem dNe_s {s : Nat → Int32} {n : Nat} : dNe s (n + 1) = dNeS s n (dNe s n) := rfl
theorem dNeS_or {s : Nat → Int32} {k : Nat} {b : Int32} : dNeS s k b = b ∨ dNeS s k b = nI k := by
  unfold dNeS
  split
  · split
    · exact .inr rfl
    · split
      · exact .inr rfl
      · split
        · split
          · exact .inl rfl
          · exact .inr rfl
        · exact .inl rfl
  · exact .inl rfl
theorem dNe_lt {s : Nat → Int32} : ∀ n, n ≤ 4 → dNe s n = (-1000004) ∨ ∃ j, j < n ∧ dNe s n = nI j
  | 0, _ => .inl rfl
  | n + 1, h => by
    rw [dNe_s]
    rcases dNeS_or (s := s) (k := n) (b := dNe s n) with q | q
    · rw [q]
      rcases dNe_lt n (by omega) with h1 | ⟨j, h1, h2⟩
      · exact .inl h1
      · exact .inr ⟨j, by omega, h2⟩
    · exact .inr ⟨n, by omega, q⟩
theorem dNe_k {s : Nat → Int32} {n : Nat} (h : n ≤ 4) (h0 : ¬ dNe s n < 0) : dNe s n = nI (dNe s n).toNatClampNeg ∧ (dNe s n).toNatClampNeg < n := by
  rcases dNe_lt (s := s) n h with q | ⟨j, h1, h2⟩
  · rw [q] at h0
    exact absurd (by decide) h0
  · rw [h2, nI_clamp (by omega)]
    exact ⟨rfl, h1⟩
def dNext (s : Nat → Int32) (mc : Nat) (x : Int32) : Int32 := if zwin x 0 1 = 0 then (-1000001) else if dNe s mc < 0 then dNe s mc else if x = 0 then dNe s mc else zmin (if s 6 ≤ s 16 then (s 16 - s 6) / s 15 else 0) (s (19 + 9 * (dNe s mc).toNatClampNeg + 0))
def dWoV (s T t : Nat → Int32) (y : Int32) : Int32 := if y = 0 then t 8 - s 8 else if y = 1 then t 5 else if y = 2 then dLF t 0 21 else ((t 9 + t 10) - (dCp T s 136) 9) - (dCp T s 136) 10
def dWould (s T : Nat → Int32) (x y : Int32) : Int32 := if zwin x 1 60 = 0 then (-1000001) else if zwin y 0 3 = 0 then (-1000001) else dWoV s T (dEN s x.toNatClampNeg) y
def dWoB (x y : Int32) : Prop := zwin x 1 60 = 0 ∨ zwin y 0 3 = 0
def dOt (s : Nat → Int32) (n : Nat) : Int32 := zfold (fun k m => m + s (19 + 9 * k + 4)) 0 n
theorem zwin_ge {x lo hi : Int32} {n : Nat} (h : ¬ (zwin x lo hi) = 0) (h0 : 0 ≤ lo) (hn : lo = nI n) (h31 : n < 2147483648) : n ≤ x.toNatClampNeg := by
  obtain ⟨j, hj, e⟩ := nI_of (zwin_nn h h0)
  have h1 := (zwin_lo h).1
  rw [hn, e] at h1
  rw [e, nI_clamp hj]
  rcases Nat.lt_or_ge j n with q | q
  · exact absurd (nI_lt q h31) h1
  · exact q
theorem nI_sub {a b : Nat} (h : b ≤ a) (h2 : a < 2147483648) : nI a - nI b = nI (a - b) := by
  have e : nI a = nI (a - b) + nI b := by rw [nI_add, Nat.sub_add_cancel h]
  rw [e, Int32.add_sub_cancel]
def dCount (v s : Nat → Int32) (mc fr : Nat) (x : Int32) : Int32 := if x = 0 then s 0 else if x = 1 then s 1 else if x = 2 then s 2 else if x = 3 then s 3 else if x = 4 then s 4 else if x = 5 then s 5 else if x = 6 then s 6 else if x = 7 then dLF s 0 21 else if x = 8 then dLF s (fr + 1) (20 + 1 - (fr + 1)) else if x = 9 then dOt s mc else if x = 10 then s 7 else if x = 11 then s 8 else if x = 12 then s 9 else if x = 13 then s 10 else if x = 14 then s 11 else if x = 15 then s 12 else if x = 16 then s 13 else if x = 17 then s 14 else if x = 18 then v 0 else if x = 19 then v 2 else if zwin x 20 23 = 0 then (-1000001) else s (15 + x.toNatClampNeg - 20)
