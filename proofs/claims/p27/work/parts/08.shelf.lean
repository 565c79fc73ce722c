def shMany (a : Nat → Int32) (y o : Int32) (n : Nat) : Int32 := zfold (fun k m => if nI k < y then m else if o < nI k then m else m + a k) 0 n
set_option maxHeartbeats 4000000 in
set_option maxRecDepth 100000 in
theorem k_Shelf_howMany {l : Launch} {D : va_G} {cy : Nat → ClassId} {w : zW} {f : zF} {t u : Nat} {a : Nat → Int32} {y : Int32} {o : Int32} (ht : t < w.1) (hu : u < w.1) (hf : f t = .inr (7, [.ref (w.2 u)])) (hfu : f u = eInts cy 21 a) (hne : t ≠ u) : zSd l D cy yX7_howMany cX7_howMany 5 (some .int) 0 0 [.ref (w.2 (t)), .int (y), .int (o)] w f (some (.int (shMany a y o 21))) f := by
  refine zSd.intro (by decide) (Nat.le_of_ble_eq_true rfl) (fun G X E => ?_)
  show G (w, 0, 0) f [(0, .ref (w.2 (t))), (1, .int (y)), (2, .int (o))] 0 []
  refine zr_iconst X (v := 0) dX7_howMany_0 (by decide) ?_
  refine zr_istore_n X (ls' := [(3, .int (0)), (0, .ref (w.2 (t))), (1, .int (y)), (2, .int (o))]) dX7_howMany_1 rfl (by decide) rfl ?_
  refine zr_iconst X (v := 0) dX7_howMany_2 (by decide) ?_
  refine zr_istore X (ls' := [(4, .int (0)), (3, .int (0)), (0, .ref (w.2 (t))), (1, .int (y)), (2, .int (o))]) dX7_howMany_3 (by decide) rfl ?_
  refine zr_loc X (ls' := [(0, .ref (w.2 (t))), (1, .int (y)), (2, .int (o)), (3, .int (0)), (4, .int (0))]) [2, 3, 4, 1, 0] rfl ?_
  refine zcast (f2 := f) (ls2 := [(0, .ref (w.2 (t))), (1, .int (y)), (2, .int (o)), (3, .int (shMany a y o (0))), (4, .int (nI (0)))]) rfl rfl ?_
  refine zdown (P := fun n => G (w, 0, 0) (f) [(0, .ref (w.2 (t))), (1, .int (y)), (2, .int (o)), (3, .int (shMany a y o (n))), (4, .int (nI (n)))] 5 []) (B := 21) ?_ (fun n hn5 ih5 => ?_) 0 (Nat.zero_le _) 
  · show G (w, 0, 0) (f) [(0, .ref (w.2 (t))), (1, .int (y)), (2, .int (o)), (3, .int (shMany a y o (21))), (4, .int (nI (21)))] 5 []
    refine zr_iload X 4 dX7_howMany_5 rfl ?_
    refine zr_aload_n X 0 dX7_howMany_7 rfl rfl ?_
    refine zr_get X zfd_RX7_9 (t) ht hf (v := .ref (w.2 (u))) rfl dX7_howMany_8 ?_
    refine zr_alen X (u) hu (b := 0) rfl hfu (v := 21) rfl dX7_howMany_11 ?_
    refine zr_icmp_ge X (tgt := 43) dX7_howMany_12 (by decide) (fun _ => ?_) (fun h => False.elim (h (by decide)))
    refine zr_iload_n X 3 dX7_howMany_43 rfl rfl ?_
    exact zret_i E rfl dX7_howMany_44 (by simp only []) rfl
  · show G (w, 0, 0) (f) [(0, .ref (w.2 (t))), (1, .int (y)), (2, .int (o)), (3, .int (shMany a y o (n))), (4, .int (nI (n)))] 5 []
    refine zr_iload X 4 dX7_howMany_5 rfl ?_
    refine zr_aload_n X 0 dX7_howMany_7 rfl rfl ?_
    refine zr_get X zfd_RX7_9 (t) ht hf (v := .ref (w.2 (u))) rfl dX7_howMany_8 ?_
    refine zr_alen X (u) hu (b := 0) rfl hfu (v := 21) rfl dX7_howMany_11 ?_
    refine zr_icmp_ge X (tgt := 43) dX7_howMany_12 (by decide) (fun h => False.elim (nI_ge hn5 (by decide) h)) (fun _ => ?_)
    refine zr_iload X 4 dX7_howMany_15 rfl ?_
    refine zr_iload_n X 1 dX7_howMany_17 rfl rfl ?_
    refine zr_icmp_lt X (tgt := 37) dX7_howMany_18 (by decide) (fun h1 => ?_) (fun h2 => ?_)
    · refine zr_iinc X (v := nI (n + 1)) (ls' := [(4, .int (nI (n + 1))), (0, .ref (w.2 (t))), (1, .int (y)), (2, .int (o)), (3, .int (shMany a y o (n)))]) 4 dX7_howMany_37 rfl (zinc1 _) (by decide) rfl ?_
      refine zr_goto X (tgt := 5) dX7_howMany_40 (by decide) ?_
      refine zr_loc X (ls' := [(0, .ref (w.2 (t))), (1, .int (y)), (2, .int (o)), (3, .int (shMany a y o (n))), (4, .int (nI (n + 1)))]) [1, 2, 3, 4, 0] rfl ?_
      exact zcast (f2 := f) (ls2 := [(0, .ref (w.2 (t))), (1, .int (y)), (2, .int (o)), (3, .int (shMany a y o (n + 1))), (4, .int (nI (n + 1)))]) rfl (by simp only [if_pos h1, shMany, zfold]) ih5
    · refine zr_iload X 4 dX7_howMany_21 rfl ?_
      refine zr_iload_n X 2 dX7_howMany_23 rfl rfl ?_
      refine zr_icmp_gt X (tgt := 37) dX7_howMany_24 (by decide) (fun h3 => ?_) (fun h4 => ?_)
      · refine zr_iinc X (v := nI (n + 1)) (ls' := [(4, .int (nI (n + 1))), (0, .ref (w.2 (t))), (1, .int (y)), (2, .int (o)), (3, .int (shMany a y o (n)))]) 4 dX7_howMany_37 rfl (zinc1 _) (by decide) rfl ?_
        refine zr_goto X (tgt := 5) dX7_howMany_40 (by decide) ?_
        refine zr_loc X (ls' := [(0, .ref (w.2 (t))), (1, .int (y)), (2, .int (o)), (3, .int (shMany a y o (n))), (4, .int (nI (n + 1)))]) [1, 2, 3, 4, 0] rfl ?_
        exact zcast (f2 := f) (ls2 := [(0, .ref (w.2 (t))), (1, .int (y)), (2, .int (o)), (3, .int (shMany a y o (n + 1))), (4, .int (nI (n + 1)))]) rfl (by simp only [if_neg h2, if_pos h3, shMany, zfold]) ih5
      · refine zr_iload_n X 3 dX7_howMany_27 rfl rfl ?_
        refine zr_aload_n X 0 dX7_howMany_28 rfl rfl ?_
        refine zr_get X zfd_RX7_9 (t) ht hf (v := .ref (w.2 (u))) rfl dX7_howMany_29 ?_
        refine zr_iload X 4 dX7_howMany_32 rfl ?_
        refine zr_iald X (u) hu hfu (n) (rfl) (by omega) (by decide) dX7_howMany_34 ?_
        refine zr_iadd X dX7_howMany_35 ?_
        refine zr_istore_n X (ls' := [(3, .int ((shMany a y o (n)) + (a n))), (0, .ref (w.2 (t))), (1, .int (y)), (2, .int (o)), (4, .int (nI (n)))]) dX7_howMany_36 rfl (by decide) rfl ?_
        refine zr_iinc X (v := nI (n + 1)) (ls' := [(4, .int (nI (n + 1))), (3, .int ((shMany a y o (n)) + (a n))), (0, .ref (w.2 (t))), (1, .int (y)), (2, .int (o))]) 4 dX7_howMany_37 rfl (zinc1 _) (by decide) rfl ?_
        refine zr_goto X (tgt := 5) dX7_howMany_40 (by decide) ?_
        refine zr_loc X (ls' := [(0, .ref (w.2 (t))), (1, .int (y)), (2, .int (o)), (3, .int ((shMany a y o (n)) + (a n))), (4, .int (nI (n + 1)))]) [2, 3, 4, 1, 0] rfl ?_
        exact zcast (f2 := f) (ls2 := [(0, .ref (w.2 (t))), (1, .int (y)), (2, .int (o)), (3, .int (shMany a y o (n + 1))), (4, .int (nI (n + 1)))]) rfl (by simp only [if_neg h2, if_neg h4, shMany, zfold]) ih5
def shAges (a : Nat → Int32) (n : Nat) : Int32 := zfold (fun k m => m + nI k * a k) 0 n
theorem zix1 {x : Int32} (h : ¬ x < 0) : x = nI x.toNatClampNeg := by
  obtain ⟨j, hj, rfl⟩ := nI_of h
  rw [nI_clamp hj]
theorem zix2 {x : Int32} {N : Nat} (h : ¬ x < 0) (hN : N < 2147483648) (h2 : ¬ nI N ≤ x) : x.toNatClampNeg < N := by
  obtain ⟨j, hj, rfl⟩ := nI_of h
  rw [nI_clamp hj]
  rw [nI_leI hN hj] at h2
  omega
def shStore (a : Nat → Int32) (g n : Int32) : Nat → Int32 := if g < 0 then a else if 21 ≤ g then a else upd a g.toNatClampNeg (a g.toNatClampNeg + n)
set_option maxHeartbeats 4000000 in
set_option maxRecDepth 100000 in
theorem k_Shelf_store {l : Launch} {D : va_G} {cy : Nat → ClassId} {w : zW} {f : zF} {t u : Nat} {a : Nat → Int32} {g : Int32} {n : Int32} (ht : t < w.1) (hu : u < w.1) (hf : f t = .inr (7, [.ref (w.2 u)])) (hfu : f u = eInts cy 21 a) (hne : t ≠ u) : zSd l D cy yX7_store cX7_store 3 none 0 0 [.ref (w.2 (t)), .int (g), .int (n)] w f none (va_up f u (eInts cy 21 (shStore a g n))) := by
  refine zSd.intro (by decide) (Nat.le_of_ble_eq_true rfl) (fun G X E => ?_)
  show G (w, 0, 0) f [(0, .ref (w.2 (t))), (1, .int (g)), (2, .int (n))] 0 []
  refine zr_iload_n X 1 dX7_store_0 rfl rfl ?_
  refine zr_if_lt X (tgt := 23) dX7_store_1 (by decide) (fun h1 => ?_) (fun h2 => ?_)
  · exact zret_v E rfl dX7_store_23 (zsame_up hfu (by simp only [shStore, if_pos h1]))
  · refine zr_iload_n X 1 dX7_store_4 rfl rfl ?_
    refine zr_aload_n X 0 dX7_store_5 rfl rfl ?_
    refine zr_get X zfd_RX7_9 (t) ht hf (v := .ref (w.2 (u))) rfl dX7_store_6 ?_
    refine zr_alen X (u) hu (b := 0) rfl hfu (v := 21) rfl dX7_store_9 ?_
    refine zr_icmp_ge X (tgt := 23) dX7_store_10 (by decide) (fun h3 => ?_) (fun h4 => ?_)
    · exact zret_v E rfl dX7_store_23 (zsame_up hfu (by simp only [shStore, if_neg h2, if_pos h3]))
    · refine zr_aload_n X 0 dX7_store_13 rfl rfl ?_
      refine zr_get X zfd_RX7_9 (t) ht hf (v := .ref (w.2 (u))) rfl dX7_store_14 ?_
      refine zr_iload_n X 1 dX7_store_17 rfl rfl ?_
      refine zr_dup2 X dX7_store_18 rfl rfl ?_
      refine zr_iald X (u) hu hfu (g.toNatClampNeg) (zix1 h2) (zix2 h2 (by decide) h4) (by decide) dX7_store_19 ?_
      refine zr_iload_n X 2 dX7_store_20 rfl rfl ?_
      refine zr_iadd X dX7_store_21 ?_
      refine zr_iast X (u) hu hfu (g.toNatClampNeg) (zix1 h2) (zix2 h2 (by decide) h4) (by decide) dX7_store_22 ?_
      exact zret_v E rfl dX7_store_23 (by simp only [shStore, if_neg h2, if_neg h4])
def shTakeS (y o : Int32) (k : Nat) (s : (Nat → Int32) × Int32) : (Nat → Int32) × Int32 := if nI k < y then s else if o < nI k then s else if s.1 k ≤ s.2 then (upd s.1 k (s.1 k - s.1 k), s.2 - s.1 k) else (upd s.1 k (s.1 k - s.2), s.2 - s.2)
def shTake (a : Nat → Int32) (y o n : Int32) (k : Nat) : (Nat → Int32) × Int32 := zfold (fun i s => shTakeS y o (20 - i) s) (a, n) k
theorem shTake_s {a : Nat → Int32} {y o n : Int32} {k : Nat} : shTake a y o n (k + 1) = shTakeS y o (20 - k) (shTake a y o n k) := rfl
set_option maxHeartbeats 4000000 in
set_option maxRecDepth 100000 in
theorem k_Shelf_take {l : Launch} {D : va_G} {cy : Nat → ClassId} {w : zW} {f : zF} {t u : Nat} {a : Nat → Int32} {y : Int32} {o : Int32} {n : Int32} (ht : t < w.1) (hu : u < w.1) (hf : f t = .inr (7, [.ref (w.2 u)])) (hfu : f u = eInts cy 21 a) (hne : t ≠ u) : zSd l D cy yX7_take cX7_take 7 (some .int) 0 0 [.ref (w.2 (t)), .int (y), .int (o), .int (n)] w f (some (.int (n - (shTake a y o n 21).2))) (va_up f u (eInts cy 21 (shTake a y o n 21).1)) := by
  refine zSd.intro (by decide) (Nat.le_of_ble_eq_true rfl) (fun G X E => ?_)
  show G (w, 0, 0) f [(0, .ref (w.2 (t))), (1, .int (y)), (2, .int (o)), (3, .int (n))] 0 []
  refine zr_iload_n X 3 dX7_take_0 rfl rfl ?_
  refine zr_istore X (ls' := [(4, .int (n)), (0, .ref (w.2 (t))), (1, .int (y)), (2, .int (o)), (3, .int (n))]) dX7_take_1 (by decide) rfl ?_
  refine zr_aload_n X 1 dX7_take_3 rfl rfl ?_
  refine zr_get X zfd_RX7_9 (t) ht hf (v := .ref (w.2 (u))) rfl dX7_take_4 ?_
  refine zr_alen X (u) hu (b := 0) rfl hfu (v := 21) rfl dX7_take_7 ?_
  refine zr_iconst X (v := 1) dX7_take_8 (by decide) ?_
  refine zr_isub X dX7_take_9 ?_
  refine zr_istore X (ls' := [(5, .int (21 - 1)), (4, .int (n)), (0, .ref (w.2 (t))), (1, .int (y)), (2, .int (o)), (3, .int (n))]) dX7_take_10 (by decide) rfl ?_
  refine zr_loc X (ls' := [(0, .ref (w.2 (t))), (1, .int (y)), (2, .int (o)), (3, .int (n)), (4, .int (n)), (5, .int (21 - 1))]) [2, 3, 4, 5, 1, 0] rfl ?_
  refine zcast (f2 := va_up f (u) (eInts cy 21 ((shTake a y o n (0)).1))) (ls2 := [(0, .ref (w.2 (t))), (1, .int (y)), (2, .int (o)), (3, .int (n)), (4, .int ((shTake a y o n (0)).2)), (5, .int (zpr (21 - (0))))]) (zsame_up hfu rfl) rfl ?_
  refine zdown (P := fun k => G (w, 0, 0) (va_up f (u) (eInts cy 21 ((shTake a y o n (k)).1))) [(0, .ref (w.2 (t))), (1, .int (y)), (2, .int (o)), (3, .int (n)), (4, .int ((shTake a y o n (k)).2)), (5, .int (zpr (21 - (k))))] 12 []) (B := 21) ?_ (fun k hn12 ih12 => ?_) 0 (Nat.zero_le _) 
  · show G (w, 0, 0) (va_up f (u) (eInts cy 21 ((shTake a y o n (21)).1))) [(0, .ref (w.2 (t))), (1, .int (y)), (2, .int (o)), (3, .int (n)), (4, .int ((shTake a y o n (21)).2)), (5, .int (zpr (21 - (21))))] 12 []
    refine zr_iload X 5 dX7_take_12 rfl ?_
    refine zr_if_lt X (tgt := 80) dX7_take_14 (by decide) (fun _ => ?_) (fun h => False.elim (h (by decide)))
    refine zr_iload_n X 3 dX7_take_80 rfl rfl ?_
    refine zr_iload X 4 dX7_take_81 rfl ?_
    refine zr_isub X dX7_take_83 ?_
    exact zret_i E rfl dX7_take_84 (by simp only []) (by simp only [])
  · show G (w, 0, 0) (va_up f (u) (eInts cy 21 ((shTake a y o n (k)).1))) [(0, .ref (w.2 (t))), (1, .int (y)), (2, .int (o)), (3, .int (n)), (4, .int ((shTake a y o n (k)).2)), (5, .int (zpr (21 - (k))))] 12 []
    rw [show 21 - k = (20 - k) + 1 by omega]
    show G (w, 0, 0) (va_up f (u) (eInts cy 21 ((shTake a y o n (k)).1))) [(0, .ref (w.2 (t))), (1, .int (y)), (2, .int (o)), (3, .int (n)), (4, .int ((shTake a y o n (k)).2)), (5, .int (nI (20 - k)))] 12 []
    refine zr_iload X 5 dX7_take_12 rfl ?_
    refine zr_if_lt X (tgt := 80) dX7_take_14 (by decide) (fun h => False.elim (nI_pos (by omega) h)) (fun _ => ?_)
    refine zr_iload X 5 dX7_take_17 rfl ?_
    refine zr_iload_n X 1 dX7_take_19 rfl rfl ?_
    refine zr_icmp_lt X (tgt := 74) dX7_take_20 (by decide) (fun h1 => ?_) (fun h2 => ?_)
    · refine zr_iinc X (v := zpr (20 - k)) (ls' := [(5, .int (zpr (20 - k))), (0, .ref (w.2 (t))), (1, .int (y)), (2, .int (o)), (3, .int (n)), (4, .int ((shTake a y o n (k)).2))]) 5 dX7_take_74 rfl (zdec1 _) (by decide) rfl ?_
      refine zr_goto X (tgt := 12) dX7_take_77 (by decide) ?_
      refine zr_loc X (ls' := [(0, .ref (w.2 (t))), (1, .int (y)), (2, .int (o)), (3, .int (n)), (4, .int ((shTake a y o n (k)).2)), (5, .int (zpr (20 - k)))]) [1, 2, 3, 4, 5, 0] rfl ?_
      exact zcast (f2 := va_up f (u) (eInts cy 21 ((shTake a y o n (k + 1)).1))) (ls2 := [(0, .ref (w.2 (t))), (1, .int (y)), (2, .int (o)), (3, .int (n)), (4, .int ((shTake a y o n (k + 1)).2)), (5, .int (zpr (21 - (k + 1))))]) (by simp only [if_pos h1, shTake_s, shTakeS]) (by rw [show 21 - (k + 1) = 20 - k by omega]; simp only [if_pos h1, shTake_s, shTakeS]) ih12
    · refine zr_iload X 5 dX7_take_23 rfl ?_
      refine zr_iload_n X 2 dX7_take_25 rfl rfl ?_
      refine zr_icmp_gt X (tgt := 74) dX7_take_26 (by decide) (fun h3 => ?_) (fun h4 => ?_)
      · refine zr_iinc X (v := zpr (20 - k)) (ls' := [(5, .int (zpr (20 - k))), (0, .ref (w.2 (t))), (1, .int (y)), (2, .int (o)), (3, .int (n)), (4, .int ((shTake a y o n (k)).2))]) 5 dX7_take_74 rfl (zdec1 _) (by decide) rfl ?_
        refine zr_goto X (tgt := 12) dX7_take_77 (by decide) ?_
        refine zr_loc X (ls' := [(0, .ref (w.2 (t))), (1, .int (y)), (2, .int (o)), (3, .int (n)), (4, .int ((shTake a y o n (k)).2)), (5, .int (zpr (20 - k)))]) [1, 2, 3, 4, 5, 0] rfl ?_
        exact zcast (f2 := va_up f (u) (eInts cy 21 ((shTake a y o n (k + 1)).1))) (ls2 := [(0, .ref (w.2 (t))), (1, .int (y)), (2, .int (o)), (3, .int (n)), (4, .int ((shTake a y o n (k + 1)).2)), (5, .int (zpr (21 - (k + 1))))]) (by simp only [if_neg h2, if_pos h3, shTake_s, shTakeS]) (by rw [show 21 - (k + 1) = 20 - k by omega]; simp only [if_neg h2, if_pos h3, shTake_s, shTakeS]) ih12
      · refine zr_iload X 4 dX7_take_29 rfl ?_
        refine zr_aload_n X 0 dX7_take_31 rfl rfl ?_
        refine zr_get X zfd_RX7_9 (t) ht ((va_up_ne _ _ (by omega)).trans hf) (v := .ref (w.2 (u))) rfl dX7_take_32 ?_
        refine zr_iload X 5 dX7_take_35 rfl ?_
        refine zr_iald X (u) hu (va_up_self _ _ _) (20 - k) (rfl) (by omega) (by decide) dX7_take_37 ?_
        refine zr_icmp_ge X (tgt := 46) dX7_take_38 (by decide) (fun h5 => ?_) (fun h6 => ?_)
        · refine zr_aload_n X 0 dX7_take_46 rfl rfl ?_
          refine zr_get X zfd_RX7_9 (t) ht ((va_up_ne _ _ (by omega)).trans hf) (v := .ref (w.2 (u))) rfl dX7_take_47 ?_
          refine zr_iload X 5 dX7_take_50 rfl ?_
          refine zr_iald X (u) hu (va_up_self _ _ _) (20 - k) (rfl) (by omega) (by decide) dX7_take_52 ?_
          refine zr_istore X (ls' := [(6, .int (((shTake a y o n (k)).1) (20 - k))), (0, .ref (w.2 (t))), (1, .int (y)), (2, .int (o)), (3, .int (n)), (4, .int ((shTake a y o n (k)).2)), (5, .int (nI (20 - k)))]) dX7_take_53 (by decide) rfl ?_
          refine zr_aload_n X 1 dX7_take_55 rfl rfl ?_
          refine zr_get X zfd_RX7_9 (t) ht ((va_up_ne _ _ (by omega)).trans hf) (v := .ref (w.2 (u))) rfl dX7_take_56 ?_
          refine zr_iload X 6 dX7_take_59 rfl ?_
          refine zr_dup2 X dX7_take_61 rfl rfl ?_
          refine zr_iald X (u) hu (va_up_self _ _ _) (20 - k) (rfl) (by omega) (by decide) dX7_take_62 ?_
          refine zr_iload X 0 dX7_take_63 rfl ?_
          refine zr_isub X dX7_take_65 ?_
          refine zr_iast X (u) hu (va_up_self _ _ _) (20 - k) (rfl) (by omega) (by decide) dX7_take_66 ?_
          rw [va_up_up]
          refine zr_iload X 5 dX7_take_67 rfl ?_
          refine zr_iload X 0 dX7_take_69 rfl ?_
          refine zr_isub X dX7_take_71 ?_
          refine zr_istore X (ls' := [(4, .int (((shTake a y o n (k)).2) - (((shTake a y o n (k)).1) (20 - k)))), (6, .int (((shTake a y o n (k)).1) (20 - k))), (0, .ref (w.2 (t))), (1, .int (y)), (2, .int (o)), (3, .int (n)), (5, .int (nI (20 - k)))]) dX7_take_72 (by decide) rfl ?_
          refine zr_iinc X (v := zpr (20 - k)) (ls' := [(5, .int (zpr (20 - k))), (4, .int (((shTake a y o n (k)).2) - (((shTake a y o n (k)).1) (20 - k)))), (6, .int (((shTake a y o n (k)).1) (20 - k))), (0, .ref (w.2 (t))), (1, .int (y)), (2, .int (o)), (3, .int (n))]) 6 dX7_take_74 rfl (zdec1 _) (by decide) rfl ?_
          refine zr_goto X (tgt := 12) dX7_take_77 (by decide) ?_
          refine zr_loc X (ls' := [(0, .ref (w.2 (t))), (1, .int (y)), (2, .int (o)), (3, .int (n)), (4, .int (((shTake a y o n (k)).2) - (((shTake a y o n (k)).1) (20 - k)))), (5, .int (zpr (20 - k)))]) [3, 4, 5, 6, 1, 0] rfl ?_
          exact zcast (f2 := va_up f (u) (eInts cy 21 ((shTake a y o n (k + 1)).1))) (ls2 := [(0, .ref (w.2 (t))), (1, .int (y)), (2, .int (o)), (3, .int (n)), (4, .int ((shTake a y o n (k + 1)).2)), (5, .int (zpr (21 - (k + 1))))]) (by simp only [if_neg h2, if_neg h4, if_pos h5, shTake_s, shTakeS]) (by rw [show 21 - (k + 1) = 20 - k by omega]; simp only [if_neg h2, if_neg h4, if_pos h5, shTake_s, shTakeS]) ih12
        · refine zr_iload X 4 dX7_take_41 rfl ?_
          refine zr_goto X (tgt := 53) dX7_take_43 (by decide) ?_
          refine zr_istore X (ls' := [(6, .int ((shTake a y o n (k)).2)), (0, .ref (w.2 (t))), (1, .int (y)), (2, .int (o)), (3, .int (n)), (4, .int ((shTake a y o n (k)).2)), (5, .int (nI (20 - k)))]) dX7_take_53 (by decide) rfl ?_
          refine zr_aload_n X 1 dX7_take_55 rfl rfl ?_
          refine zr_get X zfd_RX7_9 (t) ht ((va_up_ne _ _ (by omega)).trans hf) (v := .ref (w.2 (u))) rfl dX7_take_56 ?_
          refine zr_iload X 6 dX7_take_59 rfl ?_
          refine zr_dup2 X dX7_take_61 rfl rfl ?_
          refine zr_iald X (u) hu (va_up_self _ _ _) (20 - k) (rfl) (by omega) (by decide) dX7_take_62 ?_
          refine zr_iload X 0 dX7_take_63 rfl ?_
          refine zr_isub X dX7_take_65 ?_
          refine zr_iast X (u) hu (va_up_self _ _ _) (20 - k) (rfl) (by omega) (by decide) dX7_take_66 ?_
          rw [va_up_up]
          refine zr_iload X 5 dX7_take_67 rfl ?_
          refine zr_iload X 0 dX7_take_69 rfl ?_
          refine zr_isub X dX7_take_71 ?_
          refine zr_istore X (ls' := [(4, .int (((shTake a y o n (k)).2) - ((shTake a y o n (k)).2))), (6, .int ((shTake a y o n (k)).2)), (0, .ref (w.2 (t))), (1, .int (y)), (2, .int (o)), (3, .int (n)), (5, .int (nI (20 - k)))]) dX7_take_72 (by decide) rfl ?_
          refine zr_iinc X (v := zpr (20 - k)) (ls' := [(5, .int (zpr (20 - k))), (4, .int (((shTake a y o n (k)).2) - ((shTake a y o n (k)).2))), (6, .int ((shTake a y o n (k)).2)), (0, .ref (w.2 (t))), (1, .int (y)), (2, .int (o)), (3, .int (n))]) 6 dX7_take_74 rfl (zdec1 _) (by decide) rfl ?_
          refine zr_goto X (tgt := 12) dX7_take_77 (by decide) ?_
          refine zr_loc X (ls' := [(0, .ref (w.2 (t))), (1, .int (y)), (2, .int (o)), (3, .int (n)), (4, .int (((shTake a y o n (k)).2) - ((shTake a y o n (k)).2))), (5, .int (zpr (20 - k)))]) [3, 4, 5, 6, 1, 0] rfl ?_
          exact zcast (f2 := va_up f (u) (eInts cy 21 ((shTake a y o n (k + 1)).1))) (ls2 := [(0, .ref (w.2 (t))), (1, .int (y)), (2, .int (o)), (3, .int (n)), (4, .int ((shTake a y o n (k + 1)).2)), (5, .int (zpr (21 - (k + 1))))]) (by simp only [if_neg h2, if_neg h4, if_neg h6, shTake_s, shTakeS]) (by rw [show 21 - (k + 1) = 20 - k by omega]; simp only [if_neg h2, if_neg h4, if_neg h6, shTake_s, shTakeS]) ih12
def shGrow (a : Nat → Int32) (n : Nat) : (Nat → Int32) × Int32 := zfold (fun k s => (upd s.1 k s.2, s.1 k)) (a, 0) n
set_option maxHeartbeats 4000000 in
set_option maxRecDepth 100000 in
theorem k_Shelf_growOlder {l : Launch} {D : va_G} {cy : Nat → ClassId} {w : zW} {f : zF} {t u : Nat} {a : Nat → Int32}  (ht : t < w.1) (hu : u < w.1) (hf : f t = .inr (7, [.ref (w.2 u)])) (hfu : f u = eInts cy 21 a) (hne : t ≠ u) : zSd l D cy yX7_growOlder cX7_growOlder 4 (some .int) 0 0 [.ref (w.2 (t))] w f (some (.int ((shGrow a 21).2))) (va_up f u (eInts cy 21 (shGrow a 21).1)) := by
  refine zSd.intro (by decide) (Nat.le_of_ble_eq_true rfl) (fun G X E => ?_)
  show G (w, 0, 0) f [(0, .ref (w.2 (t)))] 0 []
  refine zr_iconst X (v := 0) dX7_growOlder_0 (by decide) ?_
  refine zr_istore_n X (ls' := [(1, .int (0)), (0, .ref (w.2 (t)))]) dX7_growOlder_1 rfl (by decide) rfl ?_
  refine zr_iconst X (v := 0) dX7_growOlder_2 (by decide) ?_
  refine zr_istore_n X (ls' := [(2, .int (0)), (1, .int (0)), (0, .ref (w.2 (t)))]) dX7_growOlder_3 rfl (by decide) rfl ?_
  refine zr_loc X (ls' := [(0, .ref (w.2 (t))), (1, .int (0)), (2, .int (0))]) [2, 1, 0] rfl ?_
  refine zcast (f2 := va_up f (u) (eInts cy 21 ((shGrow a (0)).1))) (ls2 := [(0, .ref (w.2 (t))), (1, .int ((shGrow a (0)).2)), (2, .int (nI (0)))]) (zsame_up hfu rfl) rfl ?_
  refine zdown (P := fun n => G (w, 0, 0) (va_up f (u) (eInts cy 21 ((shGrow a (n)).1))) [(0, .ref (w.2 (t))), (1, .int ((shGrow a (n)).2)), (2, .int (nI (n)))] 4 []) (B := 21) ?_ (fun n hn4 ih4 => ?_) 0 (Nat.zero_le _) 
  · show G (w, 0, 0) (va_up f (u) (eInts cy 21 ((shGrow a (21)).1))) [(0, .ref (w.2 (t))), (1, .int ((shGrow a (21)).2)), (2, .int (nI (21)))] 4 []
    refine zr_iload_n X 2 dX7_growOlder_4 rfl rfl ?_
    refine zr_aload_n X 0 dX7_growOlder_5 rfl rfl ?_
    refine zr_get X zfd_RX7_9 (t) ht ((va_up_ne _ _ (by omega)).trans hf) (v := .ref (w.2 (u))) rfl dX7_growOlder_6 ?_
    refine zr_alen X (u) hu (b := 0) rfl (va_up_self _ _ _) (v := 21) rfl dX7_growOlder_9 ?_
    refine zr_icmp_ge X (tgt := 35) dX7_growOlder_10 (by decide) (fun _ => ?_) (fun h => False.elim (h (by decide)))
    refine zr_iload_n X 1 dX7_growOlder_35 rfl rfl ?_
    exact zret_i E rfl dX7_growOlder_36 (by simp only []) (by simp only [])
  · show G (w, 0, 0) (va_up f (u) (eInts cy 21 ((shGrow a (n)).1))) [(0, .ref (w.2 (t))), (1, .int ((shGrow a (n)).2)), (2, .int (nI (n)))] 4 []
    refine zr_iload_n X 2 dX7_growOlder_4 rfl rfl ?_
    refine zr_aload_n X 0 dX7_growOlder_5 rfl rfl ?_
    refine zr_get X zfd_RX7_9 (t) ht ((va_up_ne _ _ (by omega)).trans hf) (v := .ref (w.2 (u))) rfl dX7_growOlder_6 ?_
    refine zr_alen X (u) hu (b := 0) rfl (va_up_self _ _ _) (v := 21) rfl dX7_growOlder_9 ?_
    refine zr_icmp_ge X (tgt := 35) dX7_growOlder_10 (by decide) (fun h => False.elim (nI_ge hn4 (by decide) h)) (fun _ => ?_)
    refine zr_iload_n X 1 dX7_growOlder_13 rfl rfl ?_
    refine zr_istore_n X (ls' := [(3, .int ((shGrow a (n)).2)), (0, .ref (w.2 (t))), (1, .int ((shGrow a (n)).2)), (2, .int (nI (n)))]) dX7_growOlder_14 rfl (by decide) rfl ?_
    refine zr_aload_n X 1 dX7_growOlder_15 rfl rfl ?_
    refine zr_get X zfd_RX7_9 (t) ht ((va_up_ne _ _ (by omega)).trans hf) (v := .ref (w.2 (u))) rfl dX7_growOlder_16 ?_
    refine zr_iload_n X 3 dX7_growOlder_19 rfl rfl ?_
    refine zr_iald X (u) hu (va_up_self _ _ _) (n) (rfl) (by omega) (by decide) dX7_growOlder_20 ?_
    refine zr_istore_n X (ls' := [(1, .int (((shGrow a (n)).1) n)), (3, .int ((shGrow a (n)).2)), (0, .ref (w.2 (t))), (2, .int (nI (n)))]) dX7_growOlder_21 rfl (by decide) rfl ?_
    refine zr_aload_n X 2 dX7_growOlder_22 rfl rfl ?_
    refine zr_get X zfd_RX7_9 (t) ht ((va_up_ne _ _ (by omega)).trans hf) (v := .ref (w.2 (u))) rfl dX7_growOlder_23 ?_
    refine zr_iload_n X 3 dX7_growOlder_26 rfl rfl ?_
    refine zr_iload_n X 1 dX7_growOlder_27 rfl rfl ?_
    refine zr_iast X (u) hu (va_up_self _ _ _) (n) (rfl) (by omega) (by decide) dX7_growOlder_28 ?_
    rw [va_up_up]
    refine zr_iinc X (v := nI (n + 1)) (ls' := [(2, .int (nI (n + 1))), (1, .int (((shGrow a (n)).1) n)), (3, .int ((shGrow a (n)).2)), (0, .ref (w.2 (t)))]) 3 dX7_growOlder_29 rfl (zinc1 _) (by decide) rfl ?_
    refine zr_goto X (tgt := 4) dX7_growOlder_32 (by decide) ?_
    refine zr_loc X (ls' := [(0, .ref (w.2 (t))), (1, .int (((shGrow a (n)).1) n)), (2, .int (nI (n + 1)))]) [3, 1, 0] rfl ?_
    exact zcast (f2 := va_up f (u) (eInts cy 21 ((shGrow a (n + 1)).1))) (ls2 := [(0, .ref (w.2 (t))), (1, .int ((shGrow a (n + 1)).2)), (2, .int (nI (n + 1)))]) rfl rfl ih4
def shCopy (a a2 : Nat → Int32) (n : Nat) : Nat → Int32 := zfold (fun k s => upd s k (a2 k)) a n
set_option maxHeartbeats 4000000 in
set_option maxRecDepth 100000 in
theorem k_Shelf_copyFrom {l : Launch} {D : va_G} {cy : Nat → ClassId} {w : zW} {f : zF} {t u t2 u2 : Nat} {a a2 : Nat → Int32} (ht : t < w.1) (hu : u < w.1) (hf : f t = .inr (7, [.ref (w.2 u)])) (hfu : f u = eInts cy 21 a) (hne : t ≠ u) (ht2 : t2 < w.1) (hu2 : u2 < w.1) (hf2 : f t2 = .inr (7, [.ref (w.2 u2)])) (hfu2 : f u2 = eInts cy 21 a2) (hne2 : t2 ≠ u) (hne3 : u2 ≠ u) : zSd l D cy yX7_copyFrom cX7_copyFrom 3 none 0 0 [.ref (w.2 (t)), .ref (w.2 (t2))] w f none (va_up f u (eInts cy 21 (shCopy a a2 21))) := by
  refine zSd.intro (by decide) (Nat.le_of_ble_eq_true rfl) (fun G X E => ?_)
  show G (w, 0, 0) f [(0, .ref (w.2 (t))), (1, .ref (w.2 (t2)))] 0 []
  refine zr_iconst X (v := 0) dX7_copyFrom_0 (by decide) ?_
  refine zr_istore_n X (ls' := [(2, .int (0)), (0, .ref (w.2 (t))), (1, .ref (w.2 (t2)))]) dX7_copyFrom_1 rfl (by decide) rfl ?_
  refine zr_loc X (ls' := [(0, .ref (w.2 (t))), (1, .ref (w.2 (t2))), (2, .int (0))]) [1, 2, 0] rfl ?_
  refine zcast (f2 := va_up f (u) (eInts cy 21 (shCopy a a2 (0)))) (ls2 := [(0, .ref (w.2 (t))), (1, .ref (w.2 (t2))), (2, .int (nI (0)))]) (zsame_up hfu rfl) rfl ?_
  refine zdown (P := fun n => G (w, 0, 0) (va_up f (u) (eInts cy 21 (shCopy a a2 (n)))) [(0, .ref (w.2 (t))), (1, .ref (w.2 (t2))), (2, .int (nI (n)))] 2 []) (B := 21) ?_ (fun n hn2 ih2 => ?_) 0 (Nat.zero_le _) 
  · show G (w, 0, 0) (va_up f (u) (eInts cy 21 (shCopy a a2 (21)))) [(0, .ref (w.2 (t))), (1, .ref (w.2 (t2))), (2, .int (nI (21)))] 2 []
    refine zr_iload_n X 2 dX7_copyFrom_2 rfl rfl ?_
    refine zr_aload_n X 0 dX7_copyFrom_3 rfl rfl ?_
    refine zr_get X zfd_RX7_9 (t) ht ((va_up_ne _ _ (by omega)).trans hf) (v := .ref (w.2 (u))) rfl dX7_copyFrom_4 ?_
    refine zr_alen X (u) hu (b := 0) rfl (va_up_self _ _ _) (v := 21) rfl dX7_copyFrom_7 ?_
    refine zr_icmp_ge X (tgt := 38) dX7_copyFrom_8 (by decide) (fun _ => ?_) (fun h => False.elim (h (by decide)))
    exact zret_v E rfl dX7_copyFrom_38 (by simp only [])
  · show G (w, 0, 0) (va_up f (u) (eInts cy 21 (shCopy a a2 (n)))) [(0, .ref (w.2 (t))), (1, .ref (w.2 (t2))), (2, .int (nI (n)))] 2 []
    refine zr_iload_n X 2 dX7_copyFrom_2 rfl rfl ?_
    refine zr_aload_n X 0 dX7_copyFrom_3 rfl rfl ?_
    refine zr_get X zfd_RX7_9 (t) ht ((va_up_ne _ _ (by omega)).trans hf) (v := .ref (w.2 (u))) rfl dX7_copyFrom_4 ?_
    refine zr_alen X (u) hu (b := 0) rfl (va_up_self _ _ _) (v := 21) rfl dX7_copyFrom_7 ?_
    refine zr_icmp_ge X (tgt := 38) dX7_copyFrom_8 (by decide) (fun h => False.elim (nI_ge hn2 (by decide) h)) (fun _ => ?_)
    refine zr_iload_n X 2 dX7_copyFrom_11 rfl rfl ?_
    refine zr_aload_n X 1 dX7_copyFrom_12 rfl rfl ?_
    refine zr_get X zfd_RX7_9 (t2) ht2 ((va_up_ne _ _ (by omega)).trans hf2) (v := .ref (w.2 (u2))) rfl dX7_copyFrom_13 ?_
    refine zr_alen X (u2) hu2 (b := 0) rfl ((va_up_ne _ _ (by omega)).trans hfu2) (v := 21) rfl dX7_copyFrom_16 ?_
    refine zr_icmp_ge X (tgt := 38) dX7_copyFrom_17 (by decide) (fun h => False.elim (nI_ge hn2 (by decide) h)) (fun _ => ?_)
    refine zr_aload_n X 0 dX7_copyFrom_20 rfl rfl ?_
    refine zr_get X zfd_RX7_9 (t) ht ((va_up_ne _ _ (by omega)).trans hf) (v := .ref (w.2 (u))) rfl dX7_copyFrom_21 ?_
    refine zr_iload_n X 2 dX7_copyFrom_24 rfl rfl ?_
    refine zr_aload_n X 1 dX7_copyFrom_25 rfl rfl ?_
    refine zr_get X zfd_RX7_9 (t2) ht2 ((va_up_ne _ _ (by omega)).trans hf2) (v := .ref (w.2 (u2))) rfl dX7_copyFrom_26 ?_
    refine zr_iload_n X 2 dX7_copyFrom_29 rfl rfl ?_
    refine zr_iald X (u2) hu2 ((va_up_ne _ _ (by omega)).trans hfu2) (n) (rfl) (by omega) (by decide) dX7_copyFrom_30 ?_
    refine zr_iast X (u) hu (va_up_self _ _ _) (n) (rfl) (by omega) (by decide) dX7_copyFrom_31 ?_
    rw [va_up_up]
    refine zr_iinc X (v := nI (n + 1)) (ls' := [(2, .int (nI (n + 1))), (0, .ref (w.2 (t))), (1, .ref (w.2 (t2)))]) 2 dX7_copyFrom_32 rfl (zinc1 _) (by decide) rfl ?_
    refine zr_goto X (tgt := 2) dX7_copyFrom_35 (by decide) ?_
    refine zr_loc X (ls' := [(0, .ref (w.2 (t))), (1, .ref (w.2 (t2))), (2, .int (nI (n + 1)))]) [1, 2, 0] rfl ?_
    exact zcast (f2 := va_up f (u) (eInts cy 21 (shCopy a a2 (n + 1)))) (ls2 := [(0, .ref (w.2 (t))), (1, .ref (w.2 (t2))), (2, .int (nI (n + 1)))]) rfl rfl ih2
