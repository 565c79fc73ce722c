/-! what holds besides, behind each change -/
theorem Jn_fr {mc bk : Nat} {s t : Nat → Int32} (h : Jn mc bk s) (hM : ∀ m, m < mc → ∀ i, i < 5 → t (19 + 9 * m + i) = s (19 + 9 * m + i)) (hG : ∀ j, j < bk → t (55 + 6 * j + 0) = s (55 + 6 * j + 0)) (hA : ∀ k, k < 21 → t (115 + k) = s (115 + k)) (hL : ∀ i, i < 15 → i ≠ 0 → i ≠ 1 → i ≠ 4 → i ≠ 6 → i ≠ 11 → i ≠ 12 → t i = s i) : Jn mc bk t := by
  obtain ⟨jx, jl, ⟨jc, jm⟩, m0, m1⟩ := h
  have f : ∀ i, i < 15 → i ≠ 0 → i ≠ 1 → i ≠ 4 → i ≠ 6 → i ≠ 11 → i ≠ 12 → t i = s i := hL
  have p : jP t = jP s := by
    unfold jP
    rw [dLF_congr (t := s) hA 0 21 (by decide), f 8 (by decide) (by decide) (by decide) (by decide) (by decide) (by decide) (by decide), f 9 (by decide) (by decide) (by decide) (by decide) (by decide) (by decide) (by decide), f 10 (by decide) (by decide) (by decide) (by decide) (by decide) (by decide) (by decide)]
  refine ⟨fun m hm => jX_cg (hM m hm) (jx m hm), ?_, ⟨?_, ?_⟩, ?_⟩
  · rw [f 2 (by decide) (by decide) (by decide) (by decide) (by decide) (by decide) (by decide)]
    exact jL_cg hG jl
  · rw [f 7 (by decide) (by decide) (by decide) (by decide) (by decide) (by decide) (by decide), p, dOt_cg (s := s) mc (fun k hk => hM k hk 4 (by decide))]
    exact jc
  · rw [f 5 (by decide) (by decide) (by decide) (by decide) (by decide) (by decide) (by decide), f 13 (by decide) (by decide) (by decide) (by decide) (by decide) (by decide) (by decide), f 14 (by decide) (by decide) (by decide) (by decide) (by decide) (by decide) (by decide)]
    exact jm
  · unfold jM
    rw [f 5 (by decide) (by decide) (by decide) (by decide) (by decide) (by decide) (by decide), f 3 (by decide) (by decide) (by decide) (by decide) (by decide) (by decide) (by decide)]
    exact ⟨m0, m1⟩
theorem jn_mule {mc bk : Nat} {s : Nat → Int32} {a c : Int32} (hmc : mc < 4) (hb : bk ≤ 10) (h : Jn mc bk s) : Jn (mc + 1) bk (upd (dMn s mc a c) 0 ((dMn s mc a c) 0 + 1)) := by
  have f : ∀ i, i ≠ 0 → (i < 19 + 9 * mc ∨ 19 + 9 * mc + 9 ≤ i) → upd (dMn s mc a c) 0 ((dMn s mc a c) 0 + 1) i = s i := fun i x y => (upd_ne x).trans (dMn_out y)
  have gm : ∀ i, i < 9 → upd (dMn s mc a c) 0 ((dMn s mc a c) 0 + 1) (19 + 9 * mc + i) = if i = 0 then a else if i = 1 then c else 0 := fun i hi => (upd_ne (by omega)).trans (dMn_at hi)
  obtain ⟨jx, jl, ⟨jc, jm⟩, jj⟩ := Jn_fr (t := upd (dMn s mc a c) 0 ((dMn s mc a c) 0 + 1)) h (fun m hm i hi => f _ (by omega) (by omega)) (fun j hj => f _ (by omega) (by omega)) (fun k hk => f _ (by omega) (by omega)) (fun i hi h0 _ _ _ _ _ => f i h0 (by omega))
  have g2 := gm 2 (by decide)
  have g3 := gm 3 (by decide)
  have g4 := gm 4 (by decide)
  rw [if_neg (by decide), if_neg (by decide)] at g2 g3 g4
  refine ⟨fun m hm => ?_, jl, ⟨?_, jm⟩, jj⟩
  · by_cases e : m = mc
    · rw [e]
      exact ⟨fun _ => g3, fun _ => g4⟩
    · exact jx m (by omega)
  · rw [dOt_s, g4, Int32.add_zero]
    exact jc
theorem jn_send {mc bk k : Nat} {s : Nat → Int32} {n : Int32} (hmc : mc ≤ 4) (hb : bk ≤ 10) (hk : k < mc) (h0 : s (19 + 9 * k + 2) = 0) (h : Jn mc bk s) : Jn mc bk (dSe s k n) := by
  have f : ∀ i, i ≠ 6 → i ≠ 7 → (i < 19 + 9 * k + 2 ∨ 19 + 9 * k + 6 < i) → dSe s k n i = s i := fun i a b c => by
    rw [dSe_n (by omega), upd_ne a, upd_ne b, upd_ne (by omega), upd_ne (by omega), upd_ne (by omega), upd_ne (by omega), upd_ne (by omega)]
  have g2 : dSe s k n (19 + 9 * k + 2) = 1 := by
    rw [dSe_n (by omega), upd_ne (by omega), upd_ne (by omega), upd_ne (by omega), upd_ne (by omega), upd_ne (by omega), upd_ne (by omega), upd_eq]
  have g4 : dSe s k n (19 + 9 * k + 4) = n := by
    rw [dSe_n (by omega), upd_ne (by omega), upd_ne (by omega), upd_ne (by omega), upd_ne (by omega), upd_eq]
  have g7 : dSe s k n 7 = s 7 + n := by
    rw [dSe_n (by omega), upd_ne (by decide), upd_eq]
  obtain ⟨jx, jl, ⟨jc, jm⟩, m0, m1⟩ := h
  have e4 : s (19 + 9 * k + 4) = 0 := (jx k hk).2 (by rw [h0]; decide)
  have ot := dOt_up (s := s) (t := dSe s k n) (k := k) mc (fun j hj hne => f _ (by omega) (by omega) (by omega)) hk
  have p : jP (dSe s k n) = jP s := by
    unfold jP
    rw [dLF_congr (t := s) (fun j hj => f _ (by omega) (by omega) (.inr (by omega))) 0 21 (by decide), f 8 (by decide) (by decide) (by omega), f 9 (by decide) (by decide) (by omega), f 10 (by decide) (by decide) (by omega)]
  refine ⟨fun m hm => ?_, ?_, ⟨?_, ?_⟩, ?_⟩
  · by_cases e : m = k
    · rw [e]
      exact ⟨fun z => absurd (g2.symm.trans z) (by decide), fun z => absurd g2 z⟩
    · exact jX_cg (fun i hi => f _ (by omega) (by omega) (by omega)) (jx m hm)
  · rw [f 2 (by decide) (by decide) (by omega)]
    exact jL_cg (fun j hj => f _ (by omega) (by omega) (.inr (by omega))) jl
  · rw [g7, p, ot, g4, e4, jc]
    generalize jP s = a
    generalize dOt s mc = b
    grind
  · rw [f 5 (by decide) (by decide) (by omega), f 13 (by decide) (by decide) (by omega), f 14 (by decide) (by decide) (by omega)]
    exact jm
  · unfold jM
    rw [f 5 (by decide) (by decide) (by omega), f 3 (by decide) (by decide) (by omega)]
    exact ⟨m0, m1⟩
theorem jn_rest {mc bk k : Nat} {s : Nat → Int32} (hk : k < 4) (h : Jn mc bk s) (hmc : mc ≤ 4) (hb : bk ≤ 10) : Jn mc bk (upd s (19 + 9 * k + 6) 0) := Jn_fr h (fun m hm i hi => upd_ne (by omega)) (fun j hj => upd_ne (by omega)) (fun j hj => upd_ne (by omega)) (fun i hi _ _ _ _ _ _ => upd_ne (by omega))
theorem jn_pay {mc bk : Nat} {s : Nat → Int32} {m : Int32} (h : Jn mc bk s) (hmc : mc ≤ 4) (hb : bk ≤ 10) (h1 : 0 ≤ m.toInt) (h2 : m.toInt ≤ (s 5).toInt) : Jn mc bk (dPy s m) := by
  obtain ⟨jx, jl, ⟨jc, jm⟩, m0, m1⟩ := h
  have f : ∀ i, i ≠ 5 → i ≠ 6 → i ≠ 14 → dPy s m i = s i := fun i a b c => (upd_ne c).trans ((upd_ne b).trans (upd_ne a))
  have e5 : dPy s m 5 = s 5 - m := by
    unfold dPy
    exact (upd_ne (by decide)).trans ((upd_ne (by decide)).trans upd_eq)
  have e14 : dPy s m 14 = s 14 + m := by
    unfold dPy
    rw [upd_eq, upd_ne (by decide), upd_ne (by decide)]
  have p : jP (dPy s m) = jP s := by
    unfold jP
    rw [dLF_congr (t := s) (fun j hj => f _ (by omega) (by omega) (by omega)) 0 21 (by decide), f 8 (by decide) (by decide) (by decide), f 9 (by decide) (by decide) (by decide), f 10 (by decide) (by decide) (by decide)]
  have t5 : (s 5 - m).toInt = (s 5).toInt - m.toInt := tsub (by have := tbd (s 5); omega) (by have := tbd (s 5); omega)
  refine ⟨fun k hk => jX_cg (fun i hi => f _ (by omega) (by omega) (by omega)) (jx k hk), ?_, ⟨?_, ?_⟩, ?_⟩
  · rw [f 2 (by decide) (by decide) (by decide)]
    exact jL_cg (fun j hj => f _ (by omega) (by omega) (by omega)) jl
  · rw [f 7 (by decide) (by decide) (by decide), p, dOt_cg (s := s) mc (fun k hk => f _ (by omega) (by omega) (by omega))]
    exact jc
  · rw [e5, e14, f 13 (by decide) (by decide) (by decide), jm]
    generalize s 13 = a
    generalize s 14 = b
    grind
  · unfold jM
    rw [e5, f 3 (by decide) (by decide) (by decide)]
    omega
theorem jn_set {mc bk i9 : Nat} {s : Nat → Int32} {y : Int32} (h : Jn mc bk s) (hi9 : i9 < 4) : Jn mc bk (upd s (15 + i9) y) := Jn_fr h (fun m hm i hi => upd_ne (by omega)) (fun j hj => upd_ne (by omega)) (fun j hj => upd_ne (by omega)) (fun i hi _ _ _ _ _ _ => upd_ne (by omega))
theorem jn_off {mc bk k : Nat} {s : Nat → Int32} (h : Jn mc bk s) (hmc : mc ≤ 4) (hb : bk ≤ 10) (hk : k < bk) : Jn mc (bk - 1) (dGo s k (bk - 1)) := by
  obtain ⟨jx, jl, ⟨jc, jm⟩, m0, m1⟩ := h
  have f : ∀ i, i < 55 → i ≠ 1 → dGo s k (bk - 1) i = s i := fun i a b => dGo_lo a b
  have p : jP (dGo s k (bk - 1)) = jP s := by
    unfold jP
    rw [dLF_congr (t := s) (fun j hj => dGo_hi (by omega) (by omega) (by omega)) 0 21 (by decide), f 8 (by decide) (by decide), f 9 (by decide) (by decide), f 10 (by decide) (by decide)]
  refine ⟨fun m hm => jX_cg (fun i hi => f _ (by omega) (by omega)) (jx m hm), ?_, ⟨?_, ?_⟩, ?_⟩
  · rw [f 2 (by decide) (by decide), gl_go hk hb]
    exact jL_sub jl (List.eraseIdx_sublist _ _)
  · rw [f 7 (by decide) (by decide), p, dOt_cg (s := s) mc (fun k hk => f _ (by omega) (by omega))]
    exact jc
  · rw [f 5 (by decide) (by decide), f 13 (by decide) (by decide), f 14 (by decide) (by decide)]
    exact jm
  · unfold jM
    rw [f 5 (by decide) (by decide), f 3 (by decide) (by decide)]
    exact ⟨m0, m1⟩
theorem gl_snoc {s : Nat → Int32} {b : Nat} : gl s (b + 1) = gl s b ++ [gk s b] := by
  unfold gl
  rw [List.range_succ, List.map_append]
  rfl
theorem jn_group {mc bk : Nat} {s : Nat → Int32} {p d n : Int32} (h : Jn mc bk s) (hmc : mc ≤ 4) (hb : bk < 10) (h2 : 0 ≤ (s 2).toInt) (h2' : (s 2).toInt ≤ 2000000000) : Jn mc (bk + 1) (dGr s bk p d n) := by
  obtain ⟨jx, jl, ⟨jc, jm⟩, m0, m1⟩ := h
  have f : ∀ i, i ≠ 1 → i ≠ 2 → (i < 55 + 6 * bk ∨ 55 + 6 * bk + 6 ≤ i) → dGr s bk p d n i = s i := fun i x y z => dGr_out z x y
  have g0 : dGr s bk p d n (55 + 6 * bk + 0) = s 2 := dGr_in (by decide)
  have e2 : dGr s bk p d n 2 = s 2 + 1 := dGr_1.2
  have c1 := tk1
  have t2 : (s 2 + 1).toInt = (s 2).toInt + (1 : Int32).toInt := tadd (by omega) (by omega)
  have pe : jP (dGr s bk p d n) = jP s := by
    unfold jP
    rw [dLF_congr (t := s) (fun j hj => f _ (by omega) (by omega) (.inr (by omega))) 0 21 (by decide), f 8 (by decide) (by decide) (by omega), f 9 (by decide) (by decide) (by omega), f 10 (by decide) (by decide) (by omega)]
  refine ⟨fun m hm => jX_cg (fun i hi => f _ (by omega) (by omega) (by omega)) (jx m hm), ?_, ⟨?_, ?_⟩, ?_⟩
  · rw [e2, gl_snoc]
    obtain ⟨q1, q2⟩ := jL_cg (s := s) (t := dGr s bk p d n) (fun j hj => f _ (by omega) (by omega) (by omega)) jl
    have n0 : ((gk (dGr s bk p d n) bk) 0).toInt = (s 2).toInt := by rw [gk_in (by decide), g0]
    refine ⟨List.pairwise_append.mpr ⟨q1, List.pairwise_singleton _ _, fun a ha b hb => ?_⟩, fun a ha => ?_⟩
    · rw [List.mem_singleton.mp hb, n0]
      exact (q2 a ha).2
    · rcases List.mem_append.mp ha with z | z
      · have := q2 a z
        omega
      · rw [List.mem_singleton.mp z, n0]
        omega
  · rw [f 7 (by decide) (by decide) (by omega), pe, dOt_cg (s := s) mc (fun k hk => f _ (by omega) (by omega) (by omega))]
    exact jc
  · rw [f 5 (by decide) (by decide) (by omega), f 13 (by decide) (by decide) (by omega), f 14 (by decide) (by decide) (by omega)]
    exact jm
  · unfold jM
    rw [f 5 (by decide) (by decide) (by omega), f 3 (by decide) (by decide) (by omega)]
    exact ⟨m0, m1⟩
/-- the groups' numbers: where a number stands -/
theorem jl_num {s : Nat → Int32} {b : Nat} {d : Int} (h : jL (gl s b) d) : (∀ j, j < b → 0 ≤ (s (55 + 6 * j + 0)).toInt ∧ (s (55 + 6 * j + 0)).toInt < d) ∧ ∀ i j, i < j → j < b → (s (55 + 6 * i + 0)).toInt < (s (55 + 6 * j + 0)).toInt := by
  obtain ⟨h1, h2⟩ := h
  refine ⟨fun j hj => ?_, fun i j hij hj => ?_⟩
  · have := h2 (gk s j) (List.mem_of_getElem? (gl_at hj))
    rw [gk_in (by decide)] at this
    exact this
  · have hi' : i < (gl s b).length := by rw [gl_len]; omega
    have hj' : j < (gl s b).length := by rw [gl_len]; omega
    have z := List.pairwise_iff_getElem.mp h1 i j hi' hj' hij
    have e1 := gl_at (s := s) (show i < b by omega)
    have e2 := gl_at (s := s) hj
    rw [List.getElem?_eq_getElem hi'] at e1
    rw [List.getElem?_eq_getElem hj'] at e2
    rw [Option.some.inj e1, Option.some.inj e2, gk_in (by decide), gk_in (by decide)] at z
    exact z
