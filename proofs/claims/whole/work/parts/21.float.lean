/-! floats: the mean's bits -/
section ZFL
def zfl (E T : Nat) : UInt32 := UInt32.ofNat (E * 8388608 + T)
theorem zfl_nat {E T : Nat} (hE : E ≤ 254) (hT : T < 8388608) : (zfl E T).toNat = E * 8388608 + T :=
  UInt32.toNat_ofNat_of_lt' (by show _ < 4294967296; omega)
theorem zfl_val {E T : Nat} (h1 : 1 ≤ E) (hE : E ≤ 254) (hT : T < 8388608) : FP.Core.val32 (zfl E T) = .fin false (8388608 + T) ((E : Int) - 150) := by
  unfold FP.Core.val32
  rw [zfl_nat hE hT]
  have e : E * 8388608 + T = FP.Core.assemble FP.Core.b32 false E T := by
    show _ = (0 * 256 + E) * 8388608 + T
    omega
  rw [e, FP.Core.decode_assemble FP.Core.b32 false E T (show E < 256 by omega) hT]
  rw [if_neg (show ¬ E = FP.Core.b32.exps - 1 from (show ¬ E = 255 by omega)), if_neg (show ¬ E = 0 by omega)]
  rw [show FP.Core.b32.tails = 8388608 from rfl, show FP.Core.b32.qmin = -149 from rfl, show (-149 : Int) + ((E : Int) - 1) = (E : Int) - 150 by omega]
theorem zfl_of {x : UInt32} {E T : Nat} (h1 : 1 ≤ E) (hE : E ≤ 254) (hT : T < 8388608) (h : FP.Core.val32 x = .fin false (8388608 + T) ((E : Int) - 150)) : x = zfl E T :=
  FP.Core.val32_inj (by rw [h]; exact fun q => by cases q) (h.trans (zfl_val h1 hE hT).symm)
theorem zfl_n32 {E T : Nat} (hE : E ≤ 254) (hT : T < 8388608) : vf_n32 (zfl E T) := by
  unfold vf_n32
  rw [UInt32.le_iff_toNat_le, UInt32.toNat_and, zfl_nat hE hT]
  refine Nat.le_trans Nat.and_le_left ?_
  show _ ≤ 2139095040
  omega
theorem zfl_half {E T : Nat} (h1 : 1 ≤ E) (hE : E + 1 ≤ 254) (hT : T < 8388608) : FP.fdiv (zfl (E + 1) T) FP.fconst2 = zfl E T := by
  refine zfl_of h1 (by omega) hT ?_
  rw [show FP.fdiv (zfl (E + 1) T) FP.fconst2 = FP.Core.fdiv (zfl (E + 1) T) FP.Core.fconst2 from rfl, FP.Core.val32_fdiv, zfl_val (by omega) hE hT, show FP.Core.val32 FP.Core.fconst2 = .fin false 8388608 (-22) by decide +kernel]
  unfold FP.Core.quotient
  dsimp only
  rw [if_neg (show ¬ (8388608 : Nat) = 0 by decide)]
  refine FP.Core.roundRatio_exact FP.Core.good_b32 (by decide) ⟨show 8388608 + T < 16777216 by omega, show (-149 : Int) ≤ _ by omega, show (_ : Int) ≤ 104 by omega, .inr (show 8388608 ≤ _ by omega)⟩ ?_
  rw [show (((E + 1 : Nat) : Int) - 150 - (-22) - ((E : Int) - 150)).toNat = 23 by omega, show (((E : Int) - 150) - (((E + 1 : Nat) : Int) - 150 - (-22))).toNat = 0 by omega]
  rw [show (2 : Nat) ^ 23 = 8388608 from rfl, Nat.pow_zero, Nat.mul_one]
theorem zfl_lo {T : Nat} (hT : T < 8388608) : FP.fcmp (zfl 127 T) FP.fconst2 = some .lt := by
  show FP.Core.order (FP.Core.val32 (zfl 127 T)) (FP.Core.val32 FP.Core.fconst2) = _
  rw [zfl_val (by decide) (by decide) hT, show FP.Core.val32 FP.Core.fconst2 = .fin false 8388608 (-22) by decide +kernel]
  show some (compare (((8388608 + T) * 1 : Nat) : Int) ((8388608 * 2 : Nat) : Int)) = _
  rw [Int.compare_eq_lt.mpr (by omega)]
theorem zfl_hi {E T : Nat} (h1 : 128 ≤ E) (hE : E ≤ 254) (hT : T < 8388608) : FP.fcmp (zfl E T) FP.fconst2 ≠ some .lt ∧ FP.fcmp (zfl E T) FP.fconst2 ≠ none := by
  show FP.Core.order (FP.Core.val32 (zfl E T)) (FP.Core.val32 FP.Core.fconst2) ≠ _ ∧ FP.Core.order (FP.Core.val32 (zfl E T)) (FP.Core.val32 FP.Core.fconst2) ≠ _
  rw [zfl_val (by omega) hE hT, show FP.Core.val32 FP.Core.fconst2 = .fin false 8388608 (-22) by decide +kernel]
  show some (compare (((8388608 + T) * 2 ^ (((E : Int) - 150) - min ((E : Int) - 150) (-22)).toNat : Nat) : Int) ((8388608 * 2 ^ ((-22 : Int) - min ((E : Int) - 150) (-22)).toNat : Nat) : Int)) ≠ _ ∧ some _ ≠ none
  rw [show min ((E : Int) - 150) (-22) = -22 by omega, show ((-22 : Int) - (-22)).toNat = 0 from rfl]
  have p := Nat.two_pow_pos (((E : Int) - 150) - (-22)).toNat
  have q := Nat.le_mul_of_pos_right (8388608 + T) p
  refine ⟨fun h => ?_, fun h => by cases h⟩
  injection h with h
  rw [Int.compare_eq_lt] at h
  omega
theorem zfl_i2f {a : Nat} (h1 : 1 ≤ a) (h2 : a < 16777216) : FP.Core.val32 (FP.i2f (nI a)) = FP.Core.roundRatio FP.Core.b32 false a 1 0 := by
  rw [show FP.i2f (nI a) = FP.Core.i2f (nI a) from rfl, FP.Core.val32_i2f, show (nI a).toInt = (a : Int) from nI_toInt (by omega)]
  show FP.Core.roundRatio FP.Core.b32 (decide ((a : Int) < 0)) ((a : Int).natAbs) 1 0 = _
  rw [decide_eq_false (by omega), Int.natAbs_natCast]
theorem log_lt {a : Nat} (h1 : 1 ≤ a) (h2 : a < 16777216) : a.log2 ≤ 23 := by
  have := (Nat.log2_lt (by omega)).mpr (show a < 2 ^ 24 from h2)
  omega
theorem zfl_nrm {a : Nat} (h1 : 1 ≤ a) (h2 : a < 16777216) : a * 2 ^ (23 - a.log2) < 16777216 ∧ 8388608 ≤ a * 2 ^ (23 - a.log2) := by
  have k := log_lt h1 h2
  have a1 : 2 ^ a.log2 ≤ a := Nat.log2_self_le (by omega)
  have a2 : a < 2 ^ (a.log2 + 1) := Nat.lt_log2_self
  have e1 : 2 ^ (a.log2 + 1) * 2 ^ (23 - a.log2) = 16777216 := by rw [← Nat.pow_add, show a.log2 + 1 + (23 - a.log2) = 24 by omega]
  have e2 : 2 ^ a.log2 * 2 ^ (23 - a.log2) = 8388608 := by rw [← Nat.pow_add, show a.log2 + (23 - a.log2) = 23 by omega]
  have p := Nat.two_pow_pos (23 - a.log2)
  constructor
  · rw [← e1]
    exact Nat.mul_lt_mul_of_pos_right a2 p
  · rw [← e2]
    exact Nat.mul_le_mul_right _ a1
theorem zfl_ex {a : Nat} {e : Int} (h1 : 1 ≤ a) (h2 : a < 16777216) (e1 : -100 ≤ e) (e2 : e ≤ 50) : FP.Core.roundRatio FP.Core.b32 false a 1 e = .fin false (a * 2 ^ (23 - a.log2)) (e + (a.log2 : Int) - 23) := by
  have k := log_lt h1 h2
  obtain ⟨n1, n2⟩ := zfl_nrm h1 h2
  refine FP.Core.roundRatio_exact FP.Core.good_b32 (by decide) ⟨n1, show (-149 : Int) ≤ _ by omega, show (_ : Int) ≤ 104 by omega, .inr n2⟩ ?_
  rw [show (e - (e + (a.log2 : Int) - 23)).toNat = 23 - a.log2 by omega, show ((e + (a.log2 : Int) - 23) - e).toNat = 0 by omega]
  show _ = _ * 1 * 1
  omega
theorem zfl_div {a b : Nat} (hb : 1 ≤ b) (hb2 : b ≤ 80) (h1 : b ≤ a) (h2 : a ≤ 20 * b) : ∃ E T, 127 ≤ E ∧ E ≤ 135 ∧ T < 8388608 ∧ FP.fdiv (FP.i2f (nI a)) (FP.i2f (nI b)) = zfl E T := by
  have hv : FP.Core.val32 (FP.fdiv (FP.i2f (nI a)) (FP.i2f (nI b))) = FP.Core.roundRatio FP.Core.b32 false a b 0 := by
    rw [show FP.fdiv (FP.i2f (nI a)) (FP.i2f (nI b)) = FP.Core.fdiv (FP.i2f (nI a)) (FP.i2f (nI b)) from rfl, FP.Core.val32_fdiv, zfl_i2f (by omega) (by omega), zfl_i2f hb (by omega), zfl_ex (by omega) (by omega) (by decide) (by decide), zfl_ex hb (by omega) (by decide) (by decide)]
    have p := zfl_nrm hb (by omega)
    unfold FP.Core.quotient
    dsimp only
    rw [if_neg (show ¬ b * 2 ^ (23 - b.log2) = 0 by omega)]
    refine FP.Core.roundRatio_congr (by omega) (by omega) ?_
    have ka := log_lt (a := a) (by omega) (by omega)
    have kb := log_lt hb (by omega)
    generalize a.log2 = x at *
    generalize b.log2 = y at *
    rw [show ((0 : Int) + (x : Int) - 23 - (0 + (y : Int) - 23) - 0).toNat = x - y by omega, show ((0 : Int) - (0 + (x : Int) - 23 - (0 + (y : Int) - 23))).toNat = y - x by omega]
    rw [Nat.mul_right_comm a, Nat.mul_assoc (a * b), ← Nat.pow_add, ← Nat.mul_assoc a b, Nat.mul_assoc (a * b) _ (2 ^ (y - x)), ← Nat.pow_add]
    congr 2
    omega
  have l := FP.Core.leading_spec (A := a) (B := b) (by omega) (by omega)
  have b0 : ¬ FP.Core.Below a b 0 := by
    intro q
    have q : FP.Core.Below a b (((0 : Nat) : Int) - ((0 : Nat) : Int)) := q
    rw [FP.Core.below_iff] at q
    omega
  have b5 : FP.Core.Below a b 5 := by
    show FP.Core.Below a b (((5 : Nat) : Int) - ((0 : Nat) : Int))
    rw [FP.Core.below_iff]
    omega
  have l1 := FP.Core.lt_of_below b0 l.2
  have l2 := FP.Core.lt_of_below l.1 b5
  have hL : ∃ n : Nat, FP.Core.leading a b = n ∧ n ≤ 4 := ⟨(FP.Core.leading a b).toNat, by omega, by omega⟩
  obtain ⟨n, hn, hn4⟩ := hL
  have lo : b * 2 ^ n ≤ a := by
    have q := l.1
    rw [hn, show (n : Int) = ((n : Nat) : Int) - ((0 : Nat) : Int) by omega, FP.Core.below_iff] at q
    omega
  have up : a < b * 2 ^ (n + 1) := by
    have q := l.2
    rw [hn, show (n : Int) + 1 = ((n + 1 : Nat) : Int) - ((0 : Nat) : Int) by omega, FP.Core.below_iff] at q
    omega
  have hq : FP.Core.quantum FP.Core.b32 a b 0 = (n : Int) - 23 := by
    unfold FP.Core.quantum
    rw [hn]
    show max (-149 : Int) ((n : Int) + 0 - (24 - 1)) = _
    omega
  have hr : FP.Core.roundRatio FP.Core.b32 false a b 0 = FP.Core.settle FP.Core.b32 false (FP.Core.nearest (a * 2 ^ (23 - n)) b) ((n : Int) - 23) := by
    unfold FP.Core.roundRatio FP.Core.roundAt FP.Core.unitsNum FP.Core.unitsDen
    rw [if_neg (by omega), hq, show ((0 : Int) - ((n : Int) - 23)).toNat = 23 - n by omega, show ((n : Int) - 23 - 0).toNat = 0 by omega, Nat.pow_zero, Nat.mul_one]
  have e1 : 2 ^ n * 2 ^ (23 - n) = 8388608 := by rw [← Nat.pow_add, show n + (23 - n) = 23 by omega]
  have e2 : 2 ^ (n + 1) * 2 ^ (23 - n) = 16777216 := by rw [← Nat.pow_add, show n + 1 + (23 - n) = 24 by omega]
  have g1 := FP.Core.nearest_ge (A := a * 2 ^ (23 - n)) (B := b) (M := 8388608) (by omega) (by
    rw [← e1, Nat.mul_comm (2 ^ n * _), ← Nat.mul_assoc]
    exact Nat.mul_le_mul_right _ lo)
  have g2 := FP.Core.nearest_le (A := a * 2 ^ (23 - n)) (B := b) (M := 16777216) (by omega) (by
    rw [← e2, Nat.mul_comm (2 ^ (n + 1) * _), ← Nat.mul_assoc]
    exact Nat.mul_le_mul_right _ (Nat.le_of_lt up))
  rw [hr] at hv
  unfold FP.Core.settle at hv
  generalize FP.Core.nearest (a * 2 ^ (23 - n)) b = c at *
  by_cases h : c < 16777216
  · rw [if_pos (show c < 2 ^ FP.Core.b32.p from h)] at hv
    unfold FP.Core.bound at hv
    rw [if_pos (show ((n : Int) - 23) ≤ FP.Core.b32.qmax from (show ((n : Int) - 23) ≤ 104 by omega))] at hv
    refine ⟨n + 127, c - 8388608, by omega, by omega, by omega, zfl_of (by omega) (by omega) (by omega) (hv.trans ?_)⟩
    rw [show 8388608 + (c - 8388608) = c by omega, show ((n + 127 : Nat) : Int) - 150 = (n : Int) - 23 by omega]
  · rw [if_neg (show ¬ c < 2 ^ FP.Core.b32.p from h)] at hv
    unfold FP.Core.bound at hv
    rw [if_pos (show ((n : Int) - 23 + 1) ≤ FP.Core.b32.qmax from (show ((n : Int) - 23 + 1) ≤ 104 by omega)), show FP.Core.b32.tails = 8388608 + 0 from rfl] at hv
    refine ⟨n + 128, 0, by omega, by omega, by omega, zfl_of (by omega) (by omega) (by omega) (hv.trans ?_)⟩
    rw [show ((n + 128 : Nat) : Int) - 150 = (n : Int) - 23 + 1 by omega]
theorem zfl_sub0 : FP.fsub (zfl 127 0) FP.fconst1 = 0 := by decide +kernel
theorem zfl_subv {T : Nat} (hT : T < 8388608) : FP.Core.val32 (FP.fsub (zfl 127 T) FP.fconst1) = FP.Core.roundRatio FP.Core.b32 false T 1 (-23) := by
  rw [show FP.fsub (zfl 127 T) FP.fconst1 = FP.Core.fsub (zfl 127 T) FP.Core.fconst1 from rfl, FP.Core.val32_fsub, zfl_val (by decide) (by decide) hT, show FP.Core.val32 FP.Core.fconst1 = .fin false 8388608 (-23) by decide +kernel]
  have e : FP.Core.sumUnits false (8388608 + T) (-23) true 8388608 (-23) (-23) = (T : Int) := by
    show (((8388608 + T) * 1 : Nat) : Int) + (-((8388608 * 1 : Nat) : Int)) = _
    omega
  show FP.Core.roundRatio FP.Core.b32 (FP.Core.sumSign false true (FP.Core.sumUnits false (8388608 + T) (-23) true 8388608 (-23) (-23))) ((FP.Core.sumUnits false (8388608 + T) (-23) true 8388608 (-23) (-23)).natAbs) 1 (-23) = _
  rw [e, Int.natAbs_natCast]
  congr 1
  unfold FP.Core.sumSign
  split
  · rfl
  · exact decide_eq_false (by omega)
theorem zfl_sub {T : Nat} (h0 : 1 ≤ T) (hT : T < 8388608) : T.log2 ≤ 22 ∧ FP.fsub (zfl 127 T) FP.fconst1 = zfl (T.log2 + 104) (T * 2 ^ (23 - T.log2) - 8388608) := by
  have k : T.log2 ≤ 22 := by
    have := (Nat.log2_lt (by omega)).mpr (show T < 2 ^ 23 from hT)
    omega
  obtain ⟨n1, n2⟩ := zfl_nrm h0 (by omega)
  refine ⟨k, zfl_of (by omega) (by omega) (by omega) ?_⟩
  rw [zfl_subv hT, zfl_ex h0 (by omega) (by decide) (by decide), show 8388608 + (T * 2 ^ (23 - T.log2) - 8388608) = T * 2 ^ (23 - T.log2) by omega, show ((T.log2 + 104 : Nat) : Int) - 150 = -23 + (T.log2 : Int) - 23 by omega]
theorem zfl_mul {T : Nat} (h0 : 1 ≤ T) (hT : T < 8388608) : FP.fmul (zfl (T.log2 + 104) (T * 2 ^ (23 - T.log2) - 8388608)) 1258291200 = zfl (T.log2 + 127) (T * 2 ^ (23 - T.log2) - 8388608) := by
  obtain ⟨k, -⟩ := zfl_sub h0 hT
  obtain ⟨n1, n2⟩ := zfl_nrm h0 (by omega)
  refine zfl_of (by omega) (by omega) (by omega) ?_
  rw [show FP.fmul (zfl (T.log2 + 104) (T * 2 ^ (23 - T.log2) - 8388608)) 1258291200 = FP.Core.fmul (zfl (T.log2 + 104) (T * 2 ^ (23 - T.log2) - 8388608)) 1258291200 from rfl, FP.Core.val32_fmul, zfl_val (by omega) (by omega) (by omega), show FP.Core.val32 1258291200 = .fin false 8388608 0 by decide +kernel]
  unfold FP.Core.exactProduct FP.Core.round
  dsimp only
  rw [show (false != false) = false from rfl]
  refine FP.Core.roundRatio_exact FP.Core.good_b32 (by decide) ⟨show 8388608 + _ < 16777216 by omega, show (-149 : Int) ≤ _ by omega, show (_ : Int) ≤ 104 by omega, .inr (show 8388608 ≤ _ by omega)⟩ ?_
  generalize T * 2 ^ (23 - T.log2) - 8388608 = c
  rw [show (((T.log2 + 104 : Nat) : Int) - 150 + 0 - (((T.log2 + 127 : Nat) : Int) - 150)).toNat = 0 by omega, show ((((T.log2 + 127 : Nat) : Int) - 150) - (((T.log2 + 104 : Nat) : Int) - 150 + 0)).toNat = 23 by omega]
  rw [show (2 : Nat) ^ 23 = 8388608 from rfl, Nat.pow_zero, Nat.mul_one, Nat.mul_one]
theorem zfl_toI {T : Nat} (h0 : 1 ≤ T) (hT : T < 8388608) : FP.f2i (zfl (T.log2 + 127) (T * 2 ^ (23 - T.log2) - 8388608)) = nI T := by
  obtain ⟨k, -⟩ := zfl_sub h0 hT
  obtain ⟨n1, n2⟩ := zfl_nrm h0 (by omega)
  show FP.Core.toI (FP.Core.val32 _) = _
  rw [zfl_val (by omega) (by omega) (by omega)]
  have e : FP.Core.truncate false (8388608 + (T * 2 ^ (23 - T.log2) - 8388608)) (((T.log2 + 127 : Nat) : Int) - 150) = (T : Int) := by
    unfold FP.Core.truncate
    rw [show (((T.log2 + 127 : Nat) : Int) - 150).toNat = 0 by omega, show (-(((T.log2 + 127 : Nat) : Int) - 150)).toNat = 23 - T.log2 by omega, show 8388608 + (T * 2 ^ (23 - T.log2) - 8388608) = T * 2 ^ (23 - T.log2) by omega, Nat.pow_zero, Nat.mul_one, Nat.mul_div_cancel _ (Nat.two_pow_pos _)]
    rfl
  show Int32.ofInt (max (-2 ^ 31) (min (2 ^ 31 - 1) (FP.Core.truncate false _ _))) = _
  rw [e, show max (-2 ^ 31 : Int) (min (2 ^ 31 - 1) (T : Int)) = (T : Int) by rw [show (2 : Int) ^ 31 = 2147483648 from rfl]; omega]
  exact Int32.toInt_inj.mp (by rw [Int32.toInt_ofInt_of_le (by omega) (by omega), nI_toInt (by omega)])
theorem zfl_frac {T : Nat} (hT : T < 8388608) : vf_n32 (FP.fsub (zfl 127 T) FP.fconst1) ∧ vf_n32 (FP.fmul (FP.fsub (zfl 127 T) FP.fconst1) 1258291200) ∧ FP.f2i (FP.fmul (FP.fsub (zfl 127 T) FP.fconst1) 1258291200) = nI T := by
  by_cases h0 : T = 0
  · subst h0
    rw [zfl_sub0]
    exact ⟨(show (0 : UInt32) &&& 0x7fffffff ≤ 0x7f800000 by decide +kernel), (show FP.fmul 0 1258291200 &&& 0x7fffffff ≤ 0x7f800000 by decide +kernel), by decide +kernel⟩
  · obtain ⟨k, e⟩ := zfl_sub (T := T) (by omega) hT
    obtain ⟨n1, n2⟩ := zfl_nrm (a := T) (by omega) (by omega)
    rw [e, zfl_mul (by omega) hT]
    exact ⟨zfl_n32 (by omega) (by omega), zfl_n32 (by omega) (by omega), zfl_toI (by omega) hT⟩
theorem nI_bits {n : Nat} (h : n < 4294967296) : (nI n).toBitVec.toNat = n := by
  show (Int32.ofNat n).toBitVec.toNat = n
  rw [Int32.toBitVec_ofNat', BitVec.toNat_ofNat]
  exact Nat.mod_eq_of_lt h
theorem zfl_bits {E T : Nat} (hE : E ≤ 254) (hT : T < 8388608) : (nI E <<< (23 &&& 31)) ||| nI T = (zfl E T).toInt32 := by
  have e : ∀ x : Int32, x.toUInt32.toInt32 = x := fun x => Int32.toInt32_toUInt32 x
  apply Int32.toBitVec_inj.mp
  apply BitVec.eq_of_toNat_eq
  rw [Int32.toBitVec_or, BitVec.toNat_or, Int32.toBitVec_shiftLeft]
  have t1 : (nI T).toBitVec.toNat = T := nI_bits (by omega)
  have t2 : ((nI E).toBitVec <<< ((23 &&& 31 : Int32).toBitVec.smod 32)).toNat = E <<< 23 := by
    rw [show ((23 &&& 31 : Int32).toBitVec.smod 32) = 23#32 by decide, BitVec.shiftLeft_eq', BitVec.toNat_shiftLeft, nI_bits (by omega)]
    show E <<< 23 % 4294967296 = _
    rw [Nat.shiftLeft_eq]
    exact Nat.mod_eq_of_lt (by omega)
  rw [t1, t2]
  show _ = (zfl E T).toNat
  rw [zfl_nat hE hT, ← Nat.shiftLeft_add_eq_or_of_lt (show T < 2 ^ 23 from hT), Nat.shiftLeft_eq]
end ZFL
