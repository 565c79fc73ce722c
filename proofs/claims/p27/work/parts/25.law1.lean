/-! THE LAW'S OWN METHODS, which ask nothing of the class -/
def lLow (v n : Int32) : Int32 := (v &&& 2147483647) - (v &&& 2147483647) / n * n
set_option maxHeartbeats 4000000 in
set_option maxRecDepth 100000 in
theorem kl_low {l : Launch} {D : va_G} {cy : Nat → ClassId} {w : zW} {f : zF} {v n : Int32} (hn : ¬ n = 0) : zSd l D cy yL_low cL_low 2 (some .int) 0 0 [.int (v), .int (n)] w f (some (.int (lLow v n))) f := by
  refine zSd.intro (by decide) (Nat.le_of_ble_eq_true rfl) (fun G X E => ?_)
  show G (w, 0, 0) f [(0, .int (v)), (1, .int (n))] 0 []
  refine zr_iload_n X 0 dL_low_0 rfl rfl ?_
  refine zr_ldc X zm_2_62 dL_low_1 ?_
  refine zr_iand X dL_low_3 ?_
  refine zr_iload_n X 1 dL_low_4 rfl rfl ?_
  refine zr_irem X dL_low_5 (hn) ?_
  exact zret_i E rfl dL_low_6 rfl rfl
set_option maxHeartbeats 4000000 in
set_option maxRecDepth 100000 in
theorem kl_sum {l : Launch} {D : va_G} {cy : Nat → ClassId} {w : zW} {f : zF} {s : Nat → Int32} {x y : Int32} {a b : Nat} (hw : w.1 = 136) (hx : x = nI a) (hy : y = nI b) (ha : a ≤ 21) (hb : b ≤ 20) : zSd l D cy yL_sum cL_sum 5 (some .int) 0 0 [.ref (w.2 (135)), .int (x), .int (y)] w (lW cy f s) (some (.int (dLF s a (b + 1 - a)))) (lW cy f s) := by
  refine zSd.intro (by decide) (Nat.le_of_ble_eq_true rfl) (fun G X E => ?_)
  show G (w, 0, 0) (lW cy f s) [(0, .ref (w.2 (135))), (1, .int (x)), (2, .int (y))] 0 []
  refine zr_iconst X (v := 0) dL_sum_0 (by decide) ?_
  refine zr_istore_n X (ls' := [(3, .int (0)), (0, .ref (w.2 (135))), (1, .int (x)), (2, .int (y))]) dL_sum_1 rfl (by decide) rfl ?_
  refine zr_iload_n X 2 dL_sum_2 rfl rfl ?_
  refine zr_istore X (ls' := [(4, .int (x)), (3, .int (0)), (0, .ref (w.2 (135))), (1, .int (x)), (2, .int (y))]) dL_sum_3 (by decide) rfl ?_
  refine zr_loc X (ls' := [(0, .ref (w.2 (135))), (1, .int (x)), (2, .int (y)), (3, .int (0)), (4, .int (x))]) [2, 3, 4, 1, 0] rfl ?_
  refine zcast (f2 := lW cy f s) (ls2 := [(0, .ref (w.2 (135))), (1, .int (x)), (2, .int (y)), (3, .int (dLF s a (0))), (4, .int (nI (a + (0))))]) rfl (by rw [hx]; rfl) ?_
  refine zdown (P := fun n => G (w, 0, 0) (lW cy f s) [(0, .ref (w.2 (135))), (1, .int (x)), (2, .int (y)), (3, .int (dLF s a (n))), (4, .int (nI (a + (n))))] 5 []) (B := b + 1 - a) ?_ (fun n hn5 ih5 => ?_) 0 (Nat.zero_le _) 
  · show G (w, 0, 0) (lW cy f s) [(0, .ref (w.2 (135))), (1, .int (x)), (2, .int (y)), (3, .int (dLF s a (b + 1 - a))), (4, .int (nI (a + (b + 1 - a))))] 5 []
    refine zr_iload X 4 dL_sum_5 rfl ?_
    refine zr_iload_n X 2 dL_sum_7 rfl rfl ?_
    refine zr_icmp_gt X (tgt := 24) dL_sum_8 (by decide) (fun _ => ?_) (fun h => False.elim (h (by rw [hy]; exact nI_lt (by omega) (by omega))))
    refine zr_iload_n X 3 dL_sum_24 rfl rfl ?_
    exact zret_i E rfl dL_sum_25 rfl rfl
  · show G (w, 0, 0) (lW cy f s) [(0, .ref (w.2 (135))), (1, .int (x)), (2, .int (y)), (3, .int (dLF s a (n))), (4, .int (nI (a + (n))))] 5 []
    refine zr_iload X 4 dL_sum_5 rfl ?_
    refine zr_iload_n X 2 dL_sum_7 rfl rfl ?_
    refine zr_icmp_gt X (tgt := 24) dL_sum_8 (by decide) (fun h => False.elim (nI_nlt (show a + n ≤ b by omega) (by omega) (by rw [← hy]; exact h))) (fun _ => ?_)
    refine zr_iload_n X 3 dL_sum_11 rfl rfl ?_
    refine zr_aload_n X 0 dL_sum_12 rfl rfl ?_
    refine zr_iload X 4 dL_sum_13 rfl ?_
    refine zr_lld X hw lr_a (a + n) (115 + (a + n)) (rfl) (by omega) (by omega) dL_sum_15 ?_
    refine zr_iadd X dL_sum_16 ?_
    refine zr_istore_n X (ls' := [(3, .int ((dLF s a (n)) + (s (115 + (a + n))))), (0, .ref (w.2 (135))), (1, .int (x)), (2, .int (y)), (4, .int (nI (a + (n))))]) dL_sum_17 rfl (by decide) rfl ?_
    refine zr_iinc X (v := nI (a + (n) + 1)) (ls' := [(4, .int (nI (a + (n) + 1))), (3, .int ((dLF s a (n)) + (s (115 + (a + n))))), (0, .ref (w.2 (135))), (1, .int (x)), (2, .int (y))]) 4 dL_sum_18 rfl (zinc1 _) (by decide) rfl ?_
    refine zr_goto X (tgt := 5) dL_sum_21 (by decide) ?_
    refine zr_loc X (ls' := [(0, .ref (w.2 (135))), (1, .int (x)), (2, .int (y)), (3, .int ((dLF s a (n)) + (s (115 + (a + n))))), (4, .int (nI (a + (n) + 1)))]) [2, 3, 4, 1, 0] rfl ?_
    exact zcast (f2 := lW cy f s) (ls2 := [(0, .ref (w.2 (135))), (1, .int (x)), (2, .int (y)), (3, .int (dLF s a (n + 1))), (4, .int (nI (a + (n + 1))))]) rfl rfl ih5
/-- one loaf of age i is eaten -/
def lT1 (s : Nat → Int32) (i : Nat) : Nat → Int32 := upd (upd s (115 + i) (s (115 + i) - 1)) 8 ((upd s (115 + i) (s (115 + i) - 1)) 8 + 1)
/-- the oldest loaf of m ages from e on is eaten, if there is one -/
def lTk (s : Nat → Int32) (e : Nat) : Nat → (Nat → Int32) × Int32
  | 0 => (s, 0)
  | m + 1 => if s (115 + (e + m)) ≤ 0 then lTk s e m else (lT1 s (e + m), 1)
set_option maxHeartbeats 4000000 in
set_option maxRecDepth 100000 in
theorem kl_takes {l : Launch} {D : va_G} {cy : Nat → ClassId} {w : zW} {f : zF} {s : Nat → Int32} {x y : Int32} {e g : Nat} (hw : w.1 = 136) (hx : x = nI e) (hy : y = nI g) (hg : g ≤ 20) (he : e ≤ g + 1) : zSd l D cy yL_takes cL_takes 5 (some .boolean) 0 0 [.ref (w.2 (132)), .ref (w.2 (135)), .int (x), .int (y)] w (lW cy f s) (some (.int ((lTk s e (g + 1 - e)).2))) (lW cy f ((lTk s e (g + 1 - e)).1)) := by
  refine zSd.intro (by decide) (Nat.le_of_ble_eq_true rfl) (fun G X E => ?_)
  show G (w, 0, 0) (lW cy f s) [(0, .ref (w.2 (132))), (1, .ref (w.2 (135))), (2, .int (x)), (3, .int (y))] 0 []
  refine zr_iload_n X 3 dL_takes_0 rfl rfl ?_
  refine zr_istore X (ls' := [(4, .int (y)), (0, .ref (w.2 (132))), (1, .ref (w.2 (135))), (2, .int (x)), (3, .int (y))]) dL_takes_1 (by decide) rfl ?_
  refine zr_loc X (ls' := [(0, .ref (w.2 (132))), (1, .ref (w.2 (135))), (2, .int (x)), (3, .int (y)), (4, .int (y))]) [1, 2, 3, 4, 0] rfl ?_
  refine zcast (f2 := lW cy f s) (ls2 := [(0, .ref (w.2 (132))), (1, .ref (w.2 (135))), (2, .int (x)), (3, .int (y)), (4, .int (zpr (g + 1 - (0))))]) rfl (by rw [hy]; rfl) ?_
  refine zdown (P := fun n => lTk s e (g + 1 - e - (n)) = lTk s e (g + 1 - e) → G (w, 0, 0) (lW cy f s) [(0, .ref (w.2 (132))), (1, .ref (w.2 (135))), (2, .int (x)), (3, .int (y)), (4, .int (zpr (g + 1 - (n))))] 3 []) (B := g + 1 - e) ?_ (fun n hn3 ih3 => ?_) 0 (Nat.zero_le _) rfl
  · show lTk s e (g + 1 - e - (g + 1 - e)) = lTk s e (g + 1 - e) → G (w, 0, 0) (lW cy f s) [(0, .ref (w.2 (132))), (1, .ref (w.2 (135))), (2, .int (x)), (3, .int (y)), (4, .int (zpr (g + 1 - (g + 1 - e))))] 3 []
    intro q
    rw [Nat.sub_self] at q
    refine zr_iload X 4 dL_takes_3 rfl ?_
    refine zr_iload_n X 2 dL_takes_5 rfl rfl ?_
    refine zr_icmp_lt X (tgt := 40) dL_takes_6 (by decide) (fun _ => ?_) (fun h => False.elim (h (by rw [hx, show g + 1 - (g + 1 - e) = e by omega]; exact zpr_lt (by omega))))
    refine zr_iconst X (v := 0) dL_takes_40 (by decide) ?_
    exact zret_z E rfl (Or.inl rfl) dL_takes_41 (by rw [← q]; rfl) (by rw [← q]; rfl)
  · show lTk s e (g + 1 - e - (n)) = lTk s e (g + 1 - e) → G (w, 0, 0) (lW cy f s) [(0, .ref (w.2 (132))), (1, .ref (w.2 (135))), (2, .int (x)), (3, .int (y)), (4, .int (zpr (g + 1 - (n))))] 3 []
    intro q
    have hj : e + (g + 1 - e - (n + 1)) = g - n := by omega
    rw [show g + 1 - e - n = (g + 1 - e - (n + 1)) + 1 by omega] at q
    rw [zpr_at (show n ≤ g by omega)]
    show G (w, 0, 0) (lW cy f s) [(0, .ref (w.2 (132))), (1, .ref (w.2 (135))), (2, .int (x)), (3, .int (y)), (4, .int (nI (g - (n))))] 3 []
    refine zr_iload X 4 dL_takes_3 rfl ?_
    refine zr_iload_n X 2 dL_takes_5 rfl rfl ?_
    refine zr_icmp_lt X (tgt := 40) dL_takes_6 (by decide) (fun h => False.elim (nI_nlt (show e ≤ g - n by omega) (by omega) (by rw [← hx]; exact h))) (fun _ => ?_)
    refine zr_aload_n X 1 dL_takes_9 rfl rfl ?_
    refine zr_iload X 4 dL_takes_10 rfl ?_
    refine zr_lld X hw lr_a (g - n) (115 + (g - n)) (rfl) (by omega) (by omega) dL_takes_12 ?_
    refine zr_if_le X (tgt := 34) dL_takes_13 (by decide) (fun h1 => ?_) (fun h2 => ?_)
    · refine zr_iinc X (v := zpr (g - (n))) (ls' := [(4, .int (zpr (g - (n)))), (0, .ref (w.2 (132))), (1, .ref (w.2 (135))), (2, .int (x)), (3, .int (y))]) 4 dL_takes_34 rfl (zdec1 _) (by decide) rfl ?_
      refine zr_goto X (tgt := 3) dL_takes_37 (by decide) ?_
      refine zr_loc X (ls' := [(0, .ref (w.2 (132))), (1, .ref (w.2 (135))), (2, .int (x)), (3, .int (y)), (4, .int (zpr (g - (n))))]) [1, 2, 3, 4, 0] rfl ?_
      exact zcast (f2 := lW cy f s) (ls2 := [(0, .ref (w.2 (132))), (1, .ref (w.2 (135))), (2, .int (x)), (3, .int (y)), (4, .int (zpr (g + 1 - (n + 1))))]) rfl (by rw [show g + 1 - (n + 1) = g - n by omega]) (ih3 (by rw [← q]; simp only [lTk, hj, if_pos h1]))
    · refine zr_aload_n X 1 dL_takes_16 rfl rfl ?_
      refine zr_iload X 4 dL_takes_17 rfl ?_
      refine zr_dup2 X dL_takes_19 rfl rfl ?_
      refine zr_lld X hw lr_a (g - n) (115 + (g - n)) (rfl) (by omega) (by omega) dL_takes_20 ?_
      refine zr_iconst X (v := 1) dL_takes_21 (by decide) ?_
      refine zr_isub X dL_takes_22 ?_
      refine zr_lst X hw lr_a (g - n) (115 + (g - n)) (rfl) (by omega) (by omega) dL_takes_23 ?_
      refine zr_aload_n X 0 dL_takes_24 rfl rfl ?_
      refine zr_bipush X (v := 8) dL_takes_25 (by decide) ?_
      refine zr_dup2 X dL_takes_27 rfl rfl ?_
      refine zr_lld X hw lr_g (8) (8) (rfl) (by decide) rfl dL_takes_28 ?_
      refine zr_iconst X (v := 1) dL_takes_29 (by decide) ?_
      refine zr_iadd X dL_takes_30 ?_
      refine zr_lst X hw lr_g (8) (8) (rfl) (by decide) rfl dL_takes_31 ?_
      refine zr_iconst X (v := 1) dL_takes_32 (by decide) ?_
      exact zret_z E rfl (Or.inr rfl) dL_takes_33 (by rw [← q]; simp only [lTk, hj, if_neg h2]) (by rw [← q]; simp only [lTk, lT1, hj, if_neg h2])
/-- a loaf of age A comes to the hut -/
def lS1 (A : Int32) (t : Nat → Int32) : Nat → Int32 := if A ≤ 20 then (if 80 ≤ dLF t 0 21 then upd t 10 (t 10 + 1) else upd t (115 + A.toNatClampNeg) (t (115 + A.toNatClampNeg) + 1)) else upd t 9 (t 9 + 1)
def lSt (t : Nat → Int32) (A : Int32) (n : Nat) : Nat → Int32 := zfold (fun _ => lS1 A) t n
theorem lSt_s {t : Nat → Int32} {A : Int32} {n : Nat} : lSt t A (n + 1) = lS1 A (lSt t A n) := rfl
def lAge (s : Nat → Int32) (k : Nat) : Int32 := (dC1 s k) 3 - (dC1 s k) (19 + 9 * k + 5)
def lC2 (s : Nat → Int32) (k : Nat) : Nat → Int32 := upd (dC1 s k) (19 + 9 * k + 7) ((dC1 s k) (19 + 9 * k + 7) + (dC1 s k) (19 + 9 * k + 4))
theorem lC2_4 {s : Nat → Int32} {k : Nat} : lC2 s k (19 + 9 * k + 4) = s (19 + 9 * k + 4) := (upd_ne (by omega)).trans (dC1_ne (by omega))
def lHm (s : Nat → Int32) (k : Nat) : Nat → Int32 := if (dC1 s k) (19 + 9 * k + 2) = 3 then upd (upd (dC1 s k) (19 + 9 * k + 6) 0) (19 + 9 * k + 2) 0 else upd (upd (dC1 s k) (19 + 9 * k + 6) ((dC1 s k) (19 + 9 * k + 6))) (19 + 9 * k + 2) 0
def lLm (s : Nat → Int32) (k : Nat) : Nat → Int32 := upd (upd (upd (dC1 s k) (19 + 9 * k + 2) 3) (19 + 9 * k + 3) 5) (19 + 9 * k + 8) ((upd (upd (dC1 s k) (19 + 9 * k + 2) 3) (19 + 9 * k + 3) 5) (19 + 9 * k + 8) + 1)
def lUp (s : Nat → Int32) (k N : Nat) : Nat → Int32 := upd (upd (upd (lSt (lC2 s k) (lAge s k) N) (19 + 9 * k + 4) 0) (19 + 9 * k + 2) 2) (19 + 9 * k + 3) 2
/-- a mule's day -/
def lCo (s : Nat → Int32) (k N : Nat) : Nat → Int32 := if (dC1 s k) (19 + 9 * k + 3) ≤ 0 then (if (dC1 s k) (19 + 9 * k + 2) = 1 then lUp s k N else if (dC1 s k) (19 + 9 * k + 2) = 2 then (if (dC1 s k) (19 + 9 * k + 6) < (dC1 s k) (19 + 9 * k + 1) then lHm s k else lLm s k) else lHm s k) else dC1 s k
set_option maxHeartbeats 4000000 in
set_option maxRecDepth 100000 in
theorem kl_comes {l : Launch} {D : va_G} {cy : Nat → ClassId} {w : zW} {f : zF} {s : Nat → Int32} {k N : Nat} (hw : w.1 = 136) (hk : k < 4) (hN : s (19 + 9 * k + 4) = nI N) (hN30 : N ≤ 30) (hA : (dC1 s k) (19 + 9 * k + 2) = 1 → ¬ lAge s k < 0) : zSd l D cy yL_comes cL_comes 8 none 1 24 [.ref (w.2 (132)), .ref (w.2 (133)), .ref (w.2 (135)), .int (nI (9 * k))] w (lW cy f s) none (lW cy f (lCo s k N)) := by
  refine zSd.intro (by decide) (Nat.le_of_ble_eq_true rfl) (fun G X E => ?_)
  show G (w, 0, 0) (lW cy f s) [(0, .ref (w.2 (132))), (1, .ref (w.2 (133))), (2, .ref (w.2 (135))), (3, .int (nI (9 * k)))] 0 []
  refine zr_aload_n X 1 dL_comes_0 rfl rfl ?_
  refine zr_iload_n X 3 dL_comes_1 rfl rfl ?_
  refine zr_iconst X (v := 3) dL_comes_2 (by decide) ?_
  refine zr_iadd X dL_comes_3 ?_
  refine zr_dup2 X dL_comes_4 rfl rfl ?_
  refine zr_lld X hw lr_m (9 * k + 3) (19 + 9 * k + 3) (nI_add _ 3) (by omega) (by omega) dL_comes_5 ?_
  refine zr_iconst X (v := 1) dL_comes_6 (by decide) ?_
  refine zr_isub X dL_comes_7 ?_
  refine zr_lst X hw lr_m (9 * k + 3) (19 + 9 * k + 3) (nI_add _ 3) (by omega) (by omega) dL_comes_8 ?_
  refine zcw (f2 := lW cy f (dC1 s k)) rfl ?_
  refine zr_aload_n X 1 dL_comes_9 rfl rfl ?_
  refine zr_iload_n X 3 dL_comes_10 rfl rfl ?_
  refine zr_iconst X (v := 3) dL_comes_11 (by decide) ?_
  refine zr_iadd X dL_comes_12 ?_
  refine zr_lld X hw lr_m (9 * k + 3) (19 + 9 * k + 3) (nI_add _ 3) (by omega) (by omega) dL_comes_13 ?_
  refine zr_if_le X (tgt := 18) dL_comes_14 (by decide) (fun h1 => ?_) (fun h2 => ?_)
  · refine zr_aload_n X 1 dL_comes_18 rfl rfl ?_
    refine zr_iload_n X 3 dL_comes_19 rfl rfl ?_
    refine zr_iconst X (v := 2) dL_comes_20 (by decide) ?_
    refine zr_iadd X dL_comes_21 ?_
    refine zr_lld X hw lr_m (9 * k + 2) (19 + 9 * k + 2) (nI_add _ 2) (by omega) (by omega) dL_comes_22 ?_
    refine zr_iconst X (v := 1) dL_comes_23 (by decide) ?_
    refine zr_icmp_ne X (tgt := 194) dL_comes_24 (by decide) (fun h3 => ?_) (fun h4 => ?_)
    · refine zr_aload_n X 1 dL_comes_194 rfl rfl ?_
      refine zr_iload_n X 3 dL_comes_195 rfl rfl ?_
      refine zr_iconst X (v := 2) dL_comes_196 (by decide) ?_
      refine zr_iadd X dL_comes_197 ?_
      refine zr_lld X hw lr_m (9 * k + 2) (19 + 9 * k + 2) (nI_add _ 2) (by omega) (by omega) dL_comes_198 ?_
      refine zr_iconst X (v := 2) dL_comes_199 (by decide) ?_
      refine zr_icmp_ne X (tgt := 242) dL_comes_200 (by decide) (fun h5 => ?_) (fun h6 => ?_)
      · refine zr_aload_n X 1 dL_comes_242 rfl rfl ?_
        refine zr_iload_n X 3 dL_comes_243 rfl rfl ?_
        refine zr_bipush X (v := 6) dL_comes_244 (by decide) ?_
        refine zr_iadd X dL_comes_246 ?_
        refine zr_aload_n X 1 dL_comes_247 rfl rfl ?_
        refine zr_iload_n X 3 dL_comes_248 rfl rfl ?_
        refine zr_iconst X (v := 2) dL_comes_249 (by decide) ?_
        refine zr_iadd X dL_comes_250 ?_
        refine zr_lld X hw lr_m (9 * k + 2) (19 + 9 * k + 2) (nI_add _ 2) (by omega) (by omega) dL_comes_251 ?_
        refine zr_iconst X (v := 3) dL_comes_252 (by decide) ?_
        refine zr_icmp_ne X (tgt := 260) dL_comes_253 (by decide) (fun h7 => ?_) (fun h8 => ?_)
        · refine zr_aload_n X 1 dL_comes_260 rfl rfl ?_
          refine zr_iload_n X 3 dL_comes_261 rfl rfl ?_
          refine zr_bipush X (v := 6) dL_comes_262 (by decide) ?_
          refine zr_iadd X dL_comes_264 ?_
          refine zr_lld X hw lr_m (9 * k + 6) (19 + 9 * k + 6) (nI_add _ 6) (by omega) (by omega) dL_comes_265 ?_
          refine zr_lst X hw lr_m (9 * k + 6) (19 + 9 * k + 6) (nI_add _ 6) (by omega) (by omega) dL_comes_266 ?_
          refine zr_aload_n X 1 dL_comes_267 rfl rfl ?_
          refine zr_iload_n X 3 dL_comes_268 rfl rfl ?_
          refine zr_iconst X (v := 2) dL_comes_269 (by decide) ?_
          refine zr_iadd X dL_comes_270 ?_
          refine zr_iconst X (v := 0) dL_comes_271 (by decide) ?_
          refine zr_lst X hw lr_m (9 * k + 2) (19 + 9 * k + 2) (nI_add _ 2) (by omega) (by omega) dL_comes_272 ?_
          exact zret_v E rfl dL_comes_273 (by unfold lCo; first | rw [if_pos h1, if_neg h3, if_neg h5, if_neg h7]; rfl | (unfold lHm; rw [if_pos h1, if_neg h3, if_neg h5, if_neg h7]) | (simp only [lHm, if_pos h1, if_neg h3, if_neg h5, if_neg h7]))
        · refine zr_iconst X (v := 0) dL_comes_256 (by decide) ?_
          refine zr_goto X (tgt := 266) dL_comes_257 (by decide) ?_
          refine zr_lst X hw lr_m (9 * k + 6) (19 + 9 * k + 6) (nI_add _ 6) (by omega) (by omega) dL_comes_266 ?_
          refine zr_aload_n X 1 dL_comes_267 rfl rfl ?_
          refine zr_iload_n X 3 dL_comes_268 rfl rfl ?_
          refine zr_iconst X (v := 2) dL_comes_269 (by decide) ?_
          refine zr_iadd X dL_comes_270 ?_
          refine zr_iconst X (v := 0) dL_comes_271 (by decide) ?_
          refine zr_lst X hw lr_m (9 * k + 2) (19 + 9 * k + 2) (nI_add _ 2) (by omega) (by omega) dL_comes_272 ?_
          exact zret_v E rfl dL_comes_273 (by unfold lCo; first | rw [if_pos h1, if_neg h3, if_neg h5, if_pos h8]; rfl | (unfold lHm; rw [if_pos h1, if_neg h3, if_neg h5, if_pos h8]) | (simp only [lHm, if_pos h1, if_neg h3, if_neg h5, if_pos h8]))
      · refine zr_aload_n X 1 dL_comes_203 rfl rfl ?_
        refine zr_iload_n X 3 dL_comes_204 rfl rfl ?_
        refine zr_bipush X (v := 6) dL_comes_205 (by decide) ?_
        refine zr_iadd X dL_comes_207 ?_
        refine zr_lld X hw lr_m (9 * k + 6) (19 + 9 * k + 6) (nI_add _ 6) (by omega) (by omega) dL_comes_208 ?_
        refine zr_aload_n X 1 dL_comes_209 rfl rfl ?_
        refine zr_iload_n X 3 dL_comes_210 rfl rfl ?_
        refine zr_iconst X (v := 1) dL_comes_211 (by decide) ?_
        refine zr_iadd X dL_comes_212 ?_
        refine zr_lld X hw lr_m (9 * k + 1) (19 + 9 * k + 1) (nI_add _ 1) (by omega) (by omega) dL_comes_213 ?_
        refine zr_icmp_lt X (tgt := 242) dL_comes_214 (by decide) (fun h9 => ?_) (fun h10 => ?_)
        · refine zr_aload_n X 1 dL_comes_242 rfl rfl ?_
          refine zr_iload_n X 3 dL_comes_243 rfl rfl ?_
          refine zr_bipush X (v := 6) dL_comes_244 (by decide) ?_
          refine zr_iadd X dL_comes_246 ?_
          refine zr_aload_n X 1 dL_comes_247 rfl rfl ?_
          refine zr_iload_n X 3 dL_comes_248 rfl rfl ?_
          refine zr_iconst X (v := 2) dL_comes_249 (by decide) ?_
          refine zr_iadd X dL_comes_250 ?_
          refine zr_lld X hw lr_m (9 * k + 2) (19 + 9 * k + 2) (nI_add _ 2) (by omega) (by omega) dL_comes_251 ?_
          refine zr_iconst X (v := 3) dL_comes_252 (by decide) ?_
          refine zr_icmp_ne X (tgt := 260) dL_comes_253 (by decide) (fun h11 => ?_) (fun h12 => ?_)
          · refine zr_aload_n X 1 dL_comes_260 rfl rfl ?_
            refine zr_iload_n X 3 dL_comes_261 rfl rfl ?_
            refine zr_bipush X (v := 6) dL_comes_262 (by decide) ?_
            refine zr_iadd X dL_comes_264 ?_
            refine zr_lld X hw lr_m (9 * k + 6) (19 + 9 * k + 6) (nI_add _ 6) (by omega) (by omega) dL_comes_265 ?_
            refine zr_lst X hw lr_m (9 * k + 6) (19 + 9 * k + 6) (nI_add _ 6) (by omega) (by omega) dL_comes_266 ?_
            refine zr_aload_n X 1 dL_comes_267 rfl rfl ?_
            refine zr_iload_n X 3 dL_comes_268 rfl rfl ?_
            refine zr_iconst X (v := 2) dL_comes_269 (by decide) ?_
            refine zr_iadd X dL_comes_270 ?_
            refine zr_iconst X (v := 0) dL_comes_271 (by decide) ?_
            refine zr_lst X hw lr_m (9 * k + 2) (19 + 9 * k + 2) (nI_add _ 2) (by omega) (by omega) dL_comes_272 ?_
            exact zret_v E rfl dL_comes_273 (by unfold lCo; first | rw [if_pos h1, if_neg h3, if_pos h6, if_pos h9, if_neg h11]; rfl | (unfold lHm; rw [if_pos h1, if_neg h3, if_pos h6, if_pos h9, if_neg h11]) | (simp only [lHm, if_pos h1, if_neg h3, if_pos h6, if_pos h9, if_neg h11]))
          · refine zr_iconst X (v := 0) dL_comes_256 (by decide) ?_
            refine zr_goto X (tgt := 266) dL_comes_257 (by decide) ?_
            refine zr_lst X hw lr_m (9 * k + 6) (19 + 9 * k + 6) (nI_add _ 6) (by omega) (by omega) dL_comes_266 ?_
            refine zr_aload_n X 1 dL_comes_267 rfl rfl ?_
            refine zr_iload_n X 3 dL_comes_268 rfl rfl ?_
            refine zr_iconst X (v := 2) dL_comes_269 (by decide) ?_
            refine zr_iadd X dL_comes_270 ?_
            refine zr_iconst X (v := 0) dL_comes_271 (by decide) ?_
            refine zr_lst X hw lr_m (9 * k + 2) (19 + 9 * k + 2) (nI_add _ 2) (by omega) (by omega) dL_comes_272 ?_
            exact zret_v E rfl dL_comes_273 (by unfold lCo; first | rw [if_pos h1, if_neg h3, if_pos h6, if_pos h9, if_pos h12]; rfl | (unfold lHm; rw [if_pos h1, if_neg h3, if_pos h6, if_pos h9, if_pos h12]) | (simp only [lHm, if_pos h1, if_neg h3, if_pos h6, if_pos h9, if_pos h12]))
        · refine zr_aload_n X 1 dL_comes_217 rfl rfl ?_
          refine zr_iload_n X 3 dL_comes_218 rfl rfl ?_
          refine zr_iconst X (v := 2) dL_comes_219 (by decide) ?_
          refine zr_iadd X dL_comes_220 ?_
          refine zr_iconst X (v := 3) dL_comes_221 (by decide) ?_
          refine zr_lst X hw lr_m (9 * k + 2) (19 + 9 * k + 2) (nI_add _ 2) (by omega) (by omega) dL_comes_222 ?_
          refine zr_aload_n X 1 dL_comes_223 rfl rfl ?_
          refine zr_iload_n X 3 dL_comes_224 rfl rfl ?_
          refine zr_iconst X (v := 3) dL_comes_225 (by decide) ?_
          refine zr_iadd X dL_comes_226 ?_
          refine zr_iconst X (v := 5) dL_comes_227 (by decide) ?_
          refine zr_lst X hw lr_m (9 * k + 3) (19 + 9 * k + 3) (nI_add _ 3) (by omega) (by omega) dL_comes_228 ?_
          refine zr_aload_n X 1 dL_comes_229 rfl rfl ?_
          refine zr_iload_n X 3 dL_comes_230 rfl rfl ?_
          refine zr_bipush X (v := 8) dL_comes_231 (by decide) ?_
          refine zr_iadd X dL_comes_233 ?_
          refine zr_dup2 X dL_comes_234 rfl rfl ?_
          refine zr_lld X hw lr_m (9 * k + 8) (19 + 9 * k + 8) (nI_add _ 8) (by omega) (by omega) dL_comes_235 ?_
          refine zr_iconst X (v := 1) dL_comes_236 (by decide) ?_
          refine zr_iadd X dL_comes_237 ?_
          refine zr_lst X hw lr_m (9 * k + 8) (19 + 9 * k + 8) (nI_add _ 8) (by omega) (by omega) dL_comes_238 ?_
          refine zr_goto X (tgt := 273) dL_comes_239 (by decide) ?_
          exact zret_v E rfl dL_comes_273 (by unfold lCo; first | rw [if_pos h1, if_neg h3, if_pos h6, if_neg h10]; rfl | (unfold lHm; rw [if_pos h1, if_neg h3, if_pos h6, if_neg h10]) | (simp only [lHm, if_pos h1, if_neg h3, if_pos h6, if_neg h10]))
    · refine zr_aload_n X 0 dL_comes_27 rfl rfl ?_
      refine zr_iconst X (v := 3) dL_comes_28 (by decide) ?_
      refine zr_lld X hw lr_g (3) (3) (rfl) (by decide) rfl dL_comes_29 ?_
      refine zr_aload_n X 1 dL_comes_30 rfl rfl ?_
      refine zr_iload_n X 3 dL_comes_31 rfl rfl ?_
      refine zr_iconst X (v := 5) dL_comes_32 (by decide) ?_
      refine zr_iadd X dL_comes_33 ?_
      refine zr_lld X hw lr_m (9 * k + 5) (19 + 9 * k + 5) (nI_add _ 5) (by omega) (by omega) dL_comes_34 ?_
      refine zr_isub X dL_comes_35 ?_
      refine zr_istore X (ls' := [(4, .int (lAge s k)), (0, .ref (w.2 (132))), (1, .ref (w.2 (133))), (2, .ref (w.2 (135))), (3, .int (nI (9 * k)))]) dL_comes_36 (by decide) rfl ?_
      have hA0 := hA h4
      refine zr_aload_n X 2 dL_comes_38 rfl rfl ?_
      refine zr_iload_n X 4 dL_comes_39 rfl rfl ?_
      refine zr_bipush X (v := 7) dL_comes_40 (by decide) ?_
      refine zr_iadd X dL_comes_42 ?_
      refine zr_dup2 X dL_comes_43 rfl rfl ?_
      refine zr_lld X hw lr_m (9 * k + 7) (19 + 9 * k + 7) (nI_add _ 7) (by omega) (by omega) dL_comes_44 ?_
      refine zr_aload_n X 2 dL_comes_45 rfl rfl ?_
      refine zr_iload_n X 4 dL_comes_46 rfl rfl ?_
      refine zr_iconst X (v := 4) dL_comes_47 (by decide) ?_
      refine zr_iadd X dL_comes_48 ?_
      refine zr_lld X hw lr_m (9 * k + 4) (19 + 9 * k + 4) (nI_add _ 4) (by omega) (by omega) dL_comes_49 ?_
      refine zr_iadd X dL_comes_50 ?_
      refine zr_lst X hw lr_m (9 * k + 7) (19 + 9 * k + 7) (nI_add _ 7) (by omega) (by omega) dL_comes_51 ?_
      refine zcw (f2 := lW cy f (lC2 s k)) rfl ?_
      refine zr_aload_n X 2 dL_comes_52 rfl rfl ?_
      refine zr_iload_n X 4 dL_comes_53 rfl rfl ?_
      refine zr_iconst X (v := 4) dL_comes_54 (by decide) ?_
      refine zr_iadd X dL_comes_55 ?_
      refine zr_lld X hw lr_m (9 * k + 4) (19 + 9 * k + 4) (nI_add _ 4) (by omega) (by omega) dL_comes_56 ?_
      refine zr_istore X (ls' := [(5, .int ((lC2 s k) (19 + 9 * k + 4))), (4, .int (lAge s k)), (0, .ref (w.2 (132))), (1, .ref (w.2 (133))), (2, .ref (w.2 (135))), (3, .int (nI (9 * k)))]) dL_comes_57 (by decide) rfl ?_
      refine zr_loc X (ls' := [(0, .ref (w.2 (132))), (1, .ref (w.2 (133))), (2, .ref (w.2 (135))), (3, .int (nI (9 * k))), (4, .int (lAge s k)), (5, .int ((lC2 s k) (19 + 9 * k + 4)))]) [2, 3, 4, 5, 1, 0] rfl ?_
      refine zcast (f2 := lW cy f (lSt (lC2 s k) (lAge s k) (0))) (ls2 := [(0, .ref (w.2 (132))), (1, .ref (w.2 (133))), (2, .ref (w.2 (135))), (3, .int (nI (9 * k))), (4, .int (lAge s k)), (5, .int (nI (N - (0))))]) rfl (by rw [lC2_4, hN]; rfl) ?_
      refine zdown (P := fun n => G (w, 0, 0) (lW cy f (lSt (lC2 s k) (lAge s k) (n))) [(0, .ref (w.2 (132))), (1, .ref (w.2 (133))), (2, .ref (w.2 (135))), (3, .int (nI (9 * k))), (4, .int (lAge s k)), (5, .int (nI (N - (n))))] 59 []) (B := N) ?_ (fun n hn59 ih59 => ?_) 0 (Nat.zero_le _) 
      · show G (w, 0, 0) (lW cy f (lSt (lC2 s k) (lAge s k) (N))) [(0, .ref (w.2 (132))), (1, .ref (w.2 (133))), (2, .ref (w.2 (135))), (3, .int (nI (9 * k))), (4, .int (lAge s k)), (5, .int (nI (N - (N))))] 59 []
        refine zr_iload X 5 dL_comes_59 rfl ?_
        refine zr_if_le X (tgt := 173) dL_comes_61 (by decide) (fun _ => ?_) (fun h => False.elim (h (by rw [Nat.sub_self]; decide)))
        refine zr_aload_n X 1 dL_comes_173 rfl rfl ?_
        refine zr_iload_n X 3 dL_comes_174 rfl rfl ?_
        refine zr_iconst X (v := 4) dL_comes_175 (by decide) ?_
        refine zr_iadd X dL_comes_176 ?_
        refine zr_iconst X (v := 0) dL_comes_177 (by decide) ?_
        refine zr_lst X hw lr_m (9 * k + 4) (19 + 9 * k + 4) (nI_add _ 4) (by omega) (by omega) dL_comes_178 ?_
        refine zr_aload_n X 1 dL_comes_179 rfl rfl ?_
        refine zr_iload_n X 3 dL_comes_180 rfl rfl ?_
        refine zr_iconst X (v := 2) dL_comes_181 (by decide) ?_
        refine zr_iadd X dL_comes_182 ?_
        refine zr_iconst X (v := 2) dL_comes_183 (by decide) ?_
        refine zr_lst X hw lr_m (9 * k + 2) (19 + 9 * k + 2) (nI_add _ 2) (by omega) (by omega) dL_comes_184 ?_
        refine zr_aload_n X 1 dL_comes_185 rfl rfl ?_
        refine zr_iload_n X 3 dL_comes_186 rfl rfl ?_
        refine zr_iconst X (v := 3) dL_comes_187 (by decide) ?_
        refine zr_iadd X dL_comes_188 ?_
        refine zr_iconst X (v := 2) dL_comes_189 (by decide) ?_
        refine zr_lst X hw lr_m (9 * k + 3) (19 + 9 * k + 3) (nI_add _ 3) (by omega) (by omega) dL_comes_190 ?_
        refine zr_goto X (tgt := 273) dL_comes_191 (by decide) ?_
        exact zret_v E rfl dL_comes_273 (by unfold lCo; first | rw [if_pos h1, if_pos h4]; rfl | (unfold lHm; rw [if_pos h1, if_pos h4]) | (simp only [lHm, if_pos h1, if_pos h4]))
      · show G (w, 0, 0) (lW cy f (lSt (lC2 s k) (lAge s k) (n))) [(0, .ref (w.2 (132))), (1, .ref (w.2 (133))), (2, .ref (w.2 (135))), (3, .int (nI (9 * k))), (4, .int (lAge s k)), (5, .int (nI (N - (n))))] 59 []
        refine zr_iload X 5 dL_comes_59 rfl ?_
        refine zr_if_le X (tgt := 173) dL_comes_61 (by decide) (fun h => False.elim (nI_nle (show 0 < N - n by omega) (by omega) h)) (fun _ => ?_)
        refine zr_iload X 4 dL_comes_64 rfl ?_
        refine zr_bipush X (v := 20) dL_comes_66 (by decide) ?_
        refine zr_icmp_le X (tgt := 75) dL_comes_68 (by decide) (fun h13 => ?_) (fun h14 => ?_)
        · refine zr_iconst X (v := 0) dL_comes_75 (by decide) ?_
          refine zr_istore X (ls' := [(6, .int (0)), (0, .ref (w.2 (132))), (1, .ref (w.2 (133))), (2, .ref (w.2 (135))), (3, .int (nI (9 * k))), (4, .int (lAge s k)), (5, .int (nI (N - (n))))]) dL_comes_76 (by decide) rfl ?_
          refine zr_aload_n X 3 dL_comes_78 rfl rfl ?_
          refine zr_iconst X (v := 0) dL_comes_79 (by decide) ?_
          refine zr_bipush X (v := 20) dL_comes_80 (by decide) ?_
          refine zr_cS X (As := [.ref (w.2 (135)), .int (0), .int (20)]) (rest := []) (f' := lW cy f (lSt (lC2 s k) (lAge s k) (n))) (st' := [.int (dLF (lSt (lC2 s k) (lAge s k) (n)) 0 21)]) zc_L_sum (kl_sum (s := lSt (lC2 s k) (lAge s k) (n)) (a := 0) (b := 20) hw rfl rfl (by omega) (by omega)) ⟨Nat.le_of_ble_eq_true rfl, Nat.le_of_ble_eq_true rfl⟩ ⟨Nat.le_refl _, Nat.le_refl _⟩ rfl (Nat.le_of_ble_eq_true rfl) zm_3_15 rfl dL_comes_82 rfl ?_
          refine zr_bipush X (v := 80) dL_comes_85 (by decide) ?_
          refine zr_icmp_ge X (tgt := 94) dL_comes_87 (by decide) (fun h15 => ?_) (fun h16 => ?_)
          · refine zr_iconst X (v := 0) dL_comes_94 (by decide) ?_
            refine zr_istore X (ls' := [(7, .int (0)), (6, .int (0)), (0, .ref (w.2 (132))), (1, .ref (w.2 (133))), (2, .ref (w.2 (135))), (3, .int (nI (9 * k))), (4, .int (lAge s k)), (5, .int (nI (N - (n))))]) dL_comes_95 (by decide) rfl ?_
            refine zr_aload_n X 2 dL_comes_97 rfl rfl ?_
            refine zr_bipush X (v := 9) dL_comes_98 (by decide) ?_
            refine zr_dup2 X dL_comes_100 rfl rfl ?_
            refine zr_lld X hw lr_g (9) (9) (rfl) (by decide) rfl dL_comes_101 ?_
            refine zr_iload X 1 dL_comes_102 rfl ?_
            refine zr_if_eq X (tgt := 111) dL_comes_104 (by decide) (fun _ => ?_) (fun h => absurd rfl h)
            refine zr_iconst X (v := 0) dL_comes_111 (by decide) ?_
            refine zr_iadd X dL_comes_112 ?_
            refine zr_lst X hw lr_g (9) (9) (rfl) (by decide) rfl dL_comes_113 ?_
            refine zr_aload_n X 2 dL_comes_114 rfl rfl ?_
            refine zr_bipush X (v := 10) dL_comes_115 (by decide) ?_
            refine zr_dup2 X dL_comes_117 rfl rfl ?_
            refine zr_lld X hw lr_g (10) (10) (rfl) (by decide) rfl dL_comes_118 ?_
            refine zr_iload X 1 dL_comes_119 rfl ?_
            refine zr_if_ne X (tgt := 133) dL_comes_121 (by decide) (fun h => absurd rfl h) (fun _ => ?_)
            refine zr_iload X 0 dL_comes_124 rfl ?_
            refine zr_if_ne X (tgt := 133) dL_comes_126 (by decide) (fun h => absurd rfl h) (fun _ => ?_)
            refine zr_iconst X (v := 1) dL_comes_129 (by decide) ?_
            refine zr_goto X (tgt := 134) dL_comes_130 (by decide) ?_
            refine zr_iadd X dL_comes_134 ?_
            refine zr_lst X hw lr_g (10) (10) (rfl) (by decide) rfl dL_comes_135 ?_
            refine zr_aload_n X 4 dL_comes_136 rfl rfl ?_
            refine zr_iload X 1 dL_comes_137 rfl ?_
            refine zr_if_eq X (tgt := 146) dL_comes_139 (by decide) (fun _ => ?_) (fun h => absurd rfl h)
            refine zr_iload X 6 dL_comes_146 rfl ?_
            refine zr_dup2 X dL_comes_148 rfl rfl ?_
            refine zr_lld X hw lr_a ((lAge s k).toNatClampNeg) (115 + ((lAge s k).toNatClampNeg)) (zix1 hA0) (by have := zle_nat (N := 20) hA0 (by decide) h13; omega) (by omega) dL_comes_149 ?_
            refine zr_iload X 1 dL_comes_150 rfl ?_
            refine zr_if_ne X (tgt := 164) dL_comes_152 (by decide) (fun h => absurd rfl h) (fun _ => ?_)
            refine zr_iload X 0 dL_comes_155 rfl ?_
            refine zr_if_eq X (tgt := 164) dL_comes_157 (by decide) (fun _ => ?_) (fun h => absurd rfl h)
            refine zr_iconst X (v := 0) dL_comes_164 (by decide) ?_
            refine zr_iadd X dL_comes_165 ?_
            refine zr_lst X hw lr_a ((lAge s k).toNatClampNeg) (115 + ((lAge s k).toNatClampNeg)) (zix1 hA0) (by have := zle_nat (N := 20) hA0 (by decide) h13; omega) (by omega) dL_comes_166 ?_
            refine zr_iinc X (v := zpr (N - (n))) (ls' := [(5, .int (zpr (N - (n)))), (7, .int (0)), (6, .int (0)), (0, .ref (w.2 (132))), (1, .ref (w.2 (133))), (2, .ref (w.2 (135))), (3, .int (nI (9 * k))), (4, .int (lAge s k))]) 7 dL_comes_167 rfl (zdec1 _) (by decide) rfl ?_
            refine zr_goto X (tgt := 59) dL_comes_170 (by decide) ?_
            refine zr_loc X (ls' := [(0, .ref (w.2 (132))), (1, .ref (w.2 (133))), (2, .ref (w.2 (135))), (3, .int (nI (9 * k))), (4, .int (lAge s k)), (5, .int (zpr (N - (n))))]) [3, 4, 5, 6, 7, 0] rfl ?_
            exact zcast (f2 := lW cy f (lSt (lC2 s k) (lAge s k) (n + 1))) (ls2 := [(0, .ref (w.2 (132))), (1, .ref (w.2 (133))), (2, .ref (w.2 (135))), (3, .int (nI (9 * k))), (4, .int (lAge s k)), (5, .int (nI (N - (n + 1))))]) (by simp only [Int32.add_zero, upd_id, lSt_s, lS1, if_pos h1, if_pos h4, if_pos h13, if_pos h15]) (by rw [show N - n = (N - (n + 1)) + 1 by omega]; rfl) ih59
          · refine zr_iconst X (v := 1) dL_comes_90 (by decide) ?_
            refine zr_goto X (tgt := 95) dL_comes_91 (by decide) ?_
            refine zr_istore X (ls' := [(7, .int (1)), (6, .int (0)), (0, .ref (w.2 (132))), (1, .ref (w.2 (133))), (2, .ref (w.2 (135))), (3, .int (nI (9 * k))), (4, .int (lAge s k)), (5, .int (nI (N - (n))))]) dL_comes_95 (by decide) rfl ?_
            refine zr_aload_n X 2 dL_comes_97 rfl rfl ?_
            refine zr_bipush X (v := 9) dL_comes_98 (by decide) ?_
            refine zr_dup2 X dL_comes_100 rfl rfl ?_
            refine zr_lld X hw lr_g (9) (9) (rfl) (by decide) rfl dL_comes_101 ?_
            refine zr_iload X 1 dL_comes_102 rfl ?_
            refine zr_if_eq X (tgt := 111) dL_comes_104 (by decide) (fun _ => ?_) (fun h => absurd rfl h)
            refine zr_iconst X (v := 0) dL_comes_111 (by decide) ?_
            refine zr_iadd X dL_comes_112 ?_
            refine zr_lst X hw lr_g (9) (9) (rfl) (by decide) rfl dL_comes_113 ?_
            refine zr_aload_n X 2 dL_comes_114 rfl rfl ?_
            refine zr_bipush X (v := 10) dL_comes_115 (by decide) ?_
            refine zr_dup2 X dL_comes_117 rfl rfl ?_
            refine zr_lld X hw lr_g (10) (10) (rfl) (by decide) rfl dL_comes_118 ?_
            refine zr_iload X 1 dL_comes_119 rfl ?_
            refine zr_if_ne X (tgt := 133) dL_comes_121 (by decide) (fun h => absurd rfl h) (fun _ => ?_)
            refine zr_iload X 0 dL_comes_124 rfl ?_
            refine zr_if_ne X (tgt := 133) dL_comes_126 (by decide) (fun _ => ?_) (fun h => absurd h (by decide))
            refine zr_iconst X (v := 0) dL_comes_133 (by decide) ?_
            refine zr_iadd X dL_comes_134 ?_
            refine zr_lst X hw lr_g (10) (10) (rfl) (by decide) rfl dL_comes_135 ?_
            refine zr_aload_n X 4 dL_comes_136 rfl rfl ?_
            refine zr_iload X 1 dL_comes_137 rfl ?_
            refine zr_if_eq X (tgt := 146) dL_comes_139 (by decide) (fun _ => ?_) (fun h => absurd rfl h)
            refine zr_iload X 6 dL_comes_146 rfl ?_
            refine zr_dup2 X dL_comes_148 rfl rfl ?_
            refine zr_lld X hw lr_a ((lAge s k).toNatClampNeg) (115 + ((lAge s k).toNatClampNeg)) (zix1 hA0) (by have := zle_nat (N := 20) hA0 (by decide) h13; omega) (by omega) dL_comes_149 ?_
            refine zr_iload X 1 dL_comes_150 rfl ?_
            refine zr_if_ne X (tgt := 164) dL_comes_152 (by decide) (fun h => absurd rfl h) (fun _ => ?_)
            refine zr_iload X 0 dL_comes_155 rfl ?_
            refine zr_if_eq X (tgt := 164) dL_comes_157 (by decide) (fun h => absurd h (by decide)) (fun _ => ?_)
            refine zr_iconst X (v := 1) dL_comes_160 (by decide) ?_
            refine zr_goto X (tgt := 165) dL_comes_161 (by decide) ?_
            refine zr_iadd X dL_comes_165 ?_
            refine zr_lst X hw lr_a ((lAge s k).toNatClampNeg) (115 + ((lAge s k).toNatClampNeg)) (zix1 hA0) (by have := zle_nat (N := 20) hA0 (by decide) h13; omega) (by omega) dL_comes_166 ?_
            refine zr_iinc X (v := zpr (N - (n))) (ls' := [(5, .int (zpr (N - (n)))), (7, .int (1)), (6, .int (0)), (0, .ref (w.2 (132))), (1, .ref (w.2 (133))), (2, .ref (w.2 (135))), (3, .int (nI (9 * k))), (4, .int (lAge s k))]) 7 dL_comes_167 rfl (zdec1 _) (by decide) rfl ?_
            refine zr_goto X (tgt := 59) dL_comes_170 (by decide) ?_
            refine zr_loc X (ls' := [(0, .ref (w.2 (132))), (1, .ref (w.2 (133))), (2, .ref (w.2 (135))), (3, .int (nI (9 * k))), (4, .int (lAge s k)), (5, .int (zpr (N - (n))))]) [3, 4, 5, 6, 7, 0] rfl ?_
            exact zcast (f2 := lW cy f (lSt (lC2 s k) (lAge s k) (n + 1))) (ls2 := [(0, .ref (w.2 (132))), (1, .ref (w.2 (133))), (2, .ref (w.2 (135))), (3, .int (nI (9 * k))), (4, .int (lAge s k)), (5, .int (nI (N - (n + 1))))]) (by simp only [Int32.add_zero, upd_id, lSt_s, lS1, if_pos h1, if_pos h4, if_pos h13, if_neg h16]) (by rw [show N - n = (N - (n + 1)) + 1 by omega]; rfl) ih59
        · refine zr_iconst X (v := 1) dL_comes_71 (by decide) ?_
          refine zr_goto X (tgt := 76) dL_comes_72 (by decide) ?_
          refine zr_istore X (ls' := [(6, .int (1)), (0, .ref (w.2 (132))), (1, .ref (w.2 (133))), (2, .ref (w.2 (135))), (3, .int (nI (9 * k))), (4, .int (lAge s k)), (5, .int (nI (N - (n))))]) dL_comes_76 (by decide) rfl ?_
          refine zr_aload_n X 3 dL_comes_78 rfl rfl ?_
          refine zr_iconst X (v := 0) dL_comes_79 (by decide) ?_
          refine zr_bipush X (v := 20) dL_comes_80 (by decide) ?_
          refine zr_cS X (As := [.ref (w.2 (135)), .int (0), .int (20)]) (rest := []) (f' := lW cy f (lSt (lC2 s k) (lAge s k) (n))) (st' := [.int (dLF (lSt (lC2 s k) (lAge s k) (n)) 0 21)]) zc_L_sum (kl_sum (s := lSt (lC2 s k) (lAge s k) (n)) (a := 0) (b := 20) hw rfl rfl (by omega) (by omega)) ⟨Nat.le_of_ble_eq_true rfl, Nat.le_of_ble_eq_true rfl⟩ ⟨Nat.le_refl _, Nat.le_refl _⟩ rfl (Nat.le_of_ble_eq_true rfl) zm_3_15 rfl dL_comes_82 rfl ?_
          refine zr_bipush X (v := 80) dL_comes_85 (by decide) ?_
          refine zr_icmp_ge X (tgt := 94) dL_comes_87 (by decide) (fun h17 => ?_) (fun h18 => ?_)
          · refine zr_iconst X (v := 0) dL_comes_94 (by decide) ?_
            refine zr_istore X (ls' := [(7, .int (0)), (6, .int (1)), (0, .ref (w.2 (132))), (1, .ref (w.2 (133))), (2, .ref (w.2 (135))), (3, .int (nI (9 * k))), (4, .int (lAge s k)), (5, .int (nI (N - (n))))]) dL_comes_95 (by decide) rfl ?_
            refine zr_aload_n X 2 dL_comes_97 rfl rfl ?_
            refine zr_bipush X (v := 9) dL_comes_98 (by decide) ?_
            refine zr_dup2 X dL_comes_100 rfl rfl ?_
            refine zr_lld X hw lr_g (9) (9) (rfl) (by decide) rfl dL_comes_101 ?_
            refine zr_iload X 1 dL_comes_102 rfl ?_
            refine zr_if_eq X (tgt := 111) dL_comes_104 (by decide) (fun h => absurd h (by decide)) (fun _ => ?_)
            refine zr_iconst X (v := 1) dL_comes_107 (by decide) ?_
            refine zr_goto X (tgt := 112) dL_comes_108 (by decide) ?_
            refine zr_iadd X dL_comes_112 ?_
            refine zr_lst X hw lr_g (9) (9) (rfl) (by decide) rfl dL_comes_113 ?_
            refine zr_aload_n X 2 dL_comes_114 rfl rfl ?_
            refine zr_bipush X (v := 10) dL_comes_115 (by decide) ?_
            refine zr_dup2 X dL_comes_117 rfl rfl ?_
            refine zr_lld X hw lr_g (10) (10) (rfl) (by decide) rfl dL_comes_118 ?_
            refine zr_iload X 1 dL_comes_119 rfl ?_
            refine zr_if_ne X (tgt := 133) dL_comes_121 (by decide) (fun _ => ?_) (fun h => absurd h (by decide))
            refine zr_iconst X (v := 0) dL_comes_133 (by decide) ?_
            refine zr_iadd X dL_comes_134 ?_
            refine zr_lst X hw lr_g (10) (10) (rfl) (by decide) rfl dL_comes_135 ?_
            refine zr_aload_n X 4 dL_comes_136 rfl rfl ?_
            refine zr_iload X 1 dL_comes_137 rfl ?_
            refine zr_if_eq X (tgt := 146) dL_comes_139 (by decide) (fun h => absurd h (by decide)) (fun _ => ?_)
            refine zr_iconst X (v := 0) dL_comes_142 (by decide) ?_
            refine zr_goto X (tgt := 148) dL_comes_143 (by decide) ?_
            refine zr_dup2 X dL_comes_148 rfl rfl ?_
            refine zr_lld X hw lr_a (0) (115) (rfl) (by decide) rfl dL_comes_149 ?_
            refine zr_iload X 1 dL_comes_150 rfl ?_
            refine zr_if_ne X (tgt := 164) dL_comes_152 (by decide) (fun _ => ?_) (fun h => absurd h (by decide))
            refine zr_iconst X (v := 0) dL_comes_164 (by decide) ?_
            refine zr_iadd X dL_comes_165 ?_
            refine zr_lst X hw lr_a (0) (115) (rfl) (by decide) rfl dL_comes_166 ?_
            refine zr_iinc X (v := zpr (N - (n))) (ls' := [(5, .int (zpr (N - (n)))), (7, .int (0)), (6, .int (1)), (0, .ref (w.2 (132))), (1, .ref (w.2 (133))), (2, .ref (w.2 (135))), (3, .int (nI (9 * k))), (4, .int (lAge s k))]) 7 dL_comes_167 rfl (zdec1 _) (by decide) rfl ?_
            refine zr_goto X (tgt := 59) dL_comes_170 (by decide) ?_
            refine zr_loc X (ls' := [(0, .ref (w.2 (132))), (1, .ref (w.2 (133))), (2, .ref (w.2 (135))), (3, .int (nI (9 * k))), (4, .int (lAge s k)), (5, .int (zpr (N - (n))))]) [3, 4, 5, 6, 7, 0] rfl ?_
            exact zcast (f2 := lW cy f (lSt (lC2 s k) (lAge s k) (n + 1))) (ls2 := [(0, .ref (w.2 (132))), (1, .ref (w.2 (133))), (2, .ref (w.2 (135))), (3, .int (nI (9 * k))), (4, .int (lAge s k)), (5, .int (nI (N - (n + 1))))]) (by simp only [Int32.add_zero, upd_id, lSt_s, lS1, if_pos h1, if_pos h4, if_neg h14, if_pos h17]) (by rw [show N - n = (N - (n + 1)) + 1 by omega]; rfl) ih59
          · refine zr_iconst X (v := 1) dL_comes_90 (by decide) ?_
            refine zr_goto X (tgt := 95) dL_comes_91 (by decide) ?_
            refine zr_istore X (ls' := [(7, .int (1)), (6, .int (1)), (0, .ref (w.2 (132))), (1, .ref (w.2 (133))), (2, .ref (w.2 (135))), (3, .int (nI (9 * k))), (4, .int (lAge s k)), (5, .int (nI (N - (n))))]) dL_comes_95 (by decide) rfl ?_
            refine zr_aload_n X 2 dL_comes_97 rfl rfl ?_
            refine zr_bipush X (v := 9) dL_comes_98 (by decide) ?_
            refine zr_dup2 X dL_comes_100 rfl rfl ?_
            refine zr_lld X hw lr_g (9) (9) (rfl) (by decide) rfl dL_comes_101 ?_
            refine zr_iload X 1 dL_comes_102 rfl ?_
            refine zr_if_eq X (tgt := 111) dL_comes_104 (by decide) (fun h => absurd h (by decide)) (fun _ => ?_)
            refine zr_iconst X (v := 1) dL_comes_107 (by decide) ?_
            refine zr_goto X (tgt := 112) dL_comes_108 (by decide) ?_
            refine zr_iadd X dL_comes_112 ?_
            refine zr_lst X hw lr_g (9) (9) (rfl) (by decide) rfl dL_comes_113 ?_
            refine zr_aload_n X 2 dL_comes_114 rfl rfl ?_
            refine zr_bipush X (v := 10) dL_comes_115 (by decide) ?_
            refine zr_dup2 X dL_comes_117 rfl rfl ?_
            refine zr_lld X hw lr_g (10) (10) (rfl) (by decide) rfl dL_comes_118 ?_
            refine zr_iload X 1 dL_comes_119 rfl ?_
            refine zr_if_ne X (tgt := 133) dL_comes_121 (by decide) (fun _ => ?_) (fun h => absurd h (by decide))
            refine zr_iconst X (v := 0) dL_comes_133 (by decide) ?_
            refine zr_iadd X dL_comes_134 ?_
            refine zr_lst X hw lr_g (10) (10) (rfl) (by decide) rfl dL_comes_135 ?_
            refine zr_aload_n X 4 dL_comes_136 rfl rfl ?_
            refine zr_iload X 1 dL_comes_137 rfl ?_
            refine zr_if_eq X (tgt := 146) dL_comes_139 (by decide) (fun h => absurd h (by decide)) (fun _ => ?_)
            refine zr_iconst X (v := 0) dL_comes_142 (by decide) ?_
            refine zr_goto X (tgt := 148) dL_comes_143 (by decide) ?_
            refine zr_dup2 X dL_comes_148 rfl rfl ?_
            refine zr_lld X hw lr_a (0) (115) (rfl) (by decide) rfl dL_comes_149 ?_
            refine zr_iload X 1 dL_comes_150 rfl ?_
            refine zr_if_ne X (tgt := 164) dL_comes_152 (by decide) (fun _ => ?_) (fun h => absurd h (by decide))
            refine zr_iconst X (v := 0) dL_comes_164 (by decide) ?_
            refine zr_iadd X dL_comes_165 ?_
            refine zr_lst X hw lr_a (0) (115) (rfl) (by decide) rfl dL_comes_166 ?_
            refine zr_iinc X (v := zpr (N - (n))) (ls' := [(5, .int (zpr (N - (n)))), (7, .int (1)), (6, .int (1)), (0, .ref (w.2 (132))), (1, .ref (w.2 (133))), (2, .ref (w.2 (135))), (3, .int (nI (9 * k))), (4, .int (lAge s k))]) 7 dL_comes_167 rfl (zdec1 _) (by decide) rfl ?_
            refine zr_goto X (tgt := 59) dL_comes_170 (by decide) ?_
            refine zr_loc X (ls' := [(0, .ref (w.2 (132))), (1, .ref (w.2 (133))), (2, .ref (w.2 (135))), (3, .int (nI (9 * k))), (4, .int (lAge s k)), (5, .int (zpr (N - (n))))]) [3, 4, 5, 6, 7, 0] rfl ?_
            exact zcast (f2 := lW cy f (lSt (lC2 s k) (lAge s k) (n + 1))) (ls2 := [(0, .ref (w.2 (132))), (1, .ref (w.2 (133))), (2, .ref (w.2 (135))), (3, .int (nI (9 * k))), (4, .int (lAge s k)), (5, .int (nI (N - (n + 1))))]) (by simp only [Int32.add_zero, upd_id, lSt_s, lS1, if_pos h1, if_pos h4, if_neg h14, if_neg h18]) (by rw [show N - n = (N - (n + 1)) + 1 by omega]; rfl) ih59
  · exact zret_v E rfl dL_comes_17 (by unfold lCo; first | rw [if_neg h2]; rfl | (unfold lHm; rw [if_neg h2]) | (simp only [lHm, if_neg h2]))
