theorem LI_mono {w : zW} {cy : Nat → ClassId} {f : zF} {B B' : Int} (h : LI w cy f B) (hB : B ≤ B') : LI w cy f B' := by
  obtain ⟨s0, s1, hs, δ, k, s, P, H, T, n, tx, tx2, v, nu, hC, hH, r⟩ := h
  exact ⟨s0, s1, hs, δ, k, s, P, H, T, n, tx, tx2, v, nu, hC, Hs_mono hH hB, r⟩
theorem pair_mule {l : Launch} {D : va_G} {cy : Nat → ClassId} {w : zW} {f : zF} {B : Int} {a c : Int32} (hw : w.1 = 139) (hL : LI w cy f B) (hB : B ≤ 1000000000) : Pair l D cy w yX8_mule cX8_mule 3 4 89 yX9_mule cX9_mule 5 1 23 [.int a, .int c] f (B + 60) := by
  obtain ⟨s0, s1, hs, δ, k, s, P, H, T, n, tx, tx2, v, nu, hC, hH, hM, hv, hn, ht⟩ := hL
  obtain ⟨mc, bk, r, o, i⟩ := id hH.1
  have st : St B (cp s1 s0) s := cp_St hH.1 hH.2.1
  exact pr_chg hw hC hH hM hv hn ht (by omega) (k_mule hw hC.1 hC.2.1) (fun g9 h9 => k_mmule hw h9 (.inl hv.2.1) hv.1 hH.2.2.2.2.2.1 r.s0.1 r.s0.2) (Chg_mono (chg_mule st mc r.s0.1 r.s0.2) (by omega)) (hH.2.1) (qAdd_ok (St_ok st))
theorem pair_send {l : Launch} {D : va_G} {cy : Nat → ClassId} {w : zW} {f : zF} {B : Int} {a c : Int32} (hw : w.1 = 139) (hL : LI w cy f B) (hB : B ≤ 1000000000) : Pair l D cy w yX8_send cX8_send 3 4 89 yX9_send cX9_send 3 2 44 [.int a, .int c] f (B + 60) := by
  obtain ⟨s0, s1, hs, δ, k, s, P, H, T, n, tx, tx2, v, nu, hC, hH, hM, hv, hn, ht⟩ := hL
  obtain ⟨mc, bk, r, o, i⟩ := id hH.1
  have st : St B (cp s1 s0) s := cp_St hH.1 hH.2.1
  exact pr_chg hw hC hH hM hv hn ht (by omega) (k_send hw hC.1 hC.2.1) (fun g9 h9 => k_msend hw h9 (.inl hv.2.1) hv.1 hH.2.2.2.2.2.1 r.s0.1 r.s0.2) (Chg_mono (chg_send st) (by omega)) (hH.2.1) (qSendE (St_ok st))
theorem pair_rest {l : Launch} {D : va_G} {cy : Nat → ClassId} {w : zW} {f : zF} {B : Int} {a : Int32} (hw : w.1 = 139) (hL : LI w cy f B) (hB : B ≤ 1000000000) : Pair l D cy w yX8_rest cX8_rest 2 4 89 yX9_rest cX9_rest 3 1 23 [.int a] f (B + 60) := by
  obtain ⟨s0, s1, hs, δ, k, s, P, H, T, n, tx, tx2, v, nu, hC, hH, hM, hv, hn, ht⟩ := hL
  obtain ⟨mc, bk, r, o, i⟩ := id hH.1
  have st : St B (cp s1 s0) s := cp_St hH.1 hH.2.1
  exact pr_chg hw hC hH hM hv hn ht (by omega) (k_rest hw hC.1 hC.2.1) (fun g9 h9 => k_mrest hw h9 (.inl hv.2.1) hv.1 hH.2.2.2.2.2.1 r.s0.1 r.s0.2) (Chg_mono (chg_rest st) (by omega)) (hH.2.1) (qRest_ok (St_ok st))
theorem pair_pay {l : Launch} {D : va_G} {cy : Nat → ClassId} {w : zW} {f : zF} {B : Int} {a : Int32} (hw : w.1 = 139) (hL : LI w cy f B) (hB : B ≤ 1000000000) : Pair l D cy w yX8_pay cX8_pay 2 4 89 yX9_pay cX9_pay 2 1 22 [.int a] f (B + 60) := by
  obtain ⟨s0, s1, hs, δ, k, s, P, H, T, n, tx, tx2, v, nu, hC, hH, hM, hv, hn, ht⟩ := hL
  obtain ⟨mc, bk, r, o, i⟩ := id hH.1
  have st : St B (cp s1 s0) s := cp_St hH.1 hH.2.1
  exact pr_chg hw hC hH hM hv hn ht (by omega) (k_pay hw hC.1 hC.2.1) (fun g9 h9 => k_mpay hw h9 (.inl hv.2.1) hv.1 hH.2.2.2.2.2.1 ) (Chg_mono (chg_pay st) (by omega)) (hH.2.1) (qPayE (St_ok st))
theorem pair_group {l : Launch} {D : va_G} {cy : Nat → ClassId} {w : zW} {f : zF} {B : Int} {a c e : Int32} (hw : w.1 = 139) (hL : LI w cy f B) (hB : B ≤ 1000000000) : Pair l D cy w yX8_group cX8_group 4 4 89 yX9_group cX9_group 6 1 22 [.int a, .int c, .int e] f (B + 60) := by
  obtain ⟨s0, s1, hs, δ, k, s, P, H, T, n, tx, tx2, v, nu, hC, hH, hM, hv, hn, ht⟩ := hL
  obtain ⟨mc, bk, r, o, i⟩ := id hH.1
  have st : St B (cp s1 s0) s := cp_St hH.1 hH.2.1
  exact pr_chg hw hC hH hM hv hn ht (by omega) (k_group hw hC.1 hC.2.1) (fun g9 h9 => k_mgroup hw h9 (.inl hv.2.1) hv.1 hH.2.2.2.2.2.1 r.s1.1 r.s1.2) (Chg_mono (chg_group st (by omega) bk r.s1.1 r.s1.2) (by omega)) (hH.2.1) (qBookE (St_ok st))
theorem pair_off {l : Launch} {D : va_G} {cy : Nat → ClassId} {w : zW} {f : zF} {B : Int} {a : Int32} (hw : w.1 = 139) (hL : LI w cy f B) (hB : B ≤ 1000000000) : Pair l D cy w yX8_off cX8_off 2 4 89 yX9_off cX9_off 3 2 44 [.int a] f (B + 60) := by
  obtain ⟨s0, s1, hs, δ, k, s, P, H, T, n, tx, tx2, v, nu, hC, hH, hM, hv, hn, ht⟩ := hL
  obtain ⟨mc, bk, r, o, i⟩ := id hH.1
  have st : St B (cp s1 s0) s := cp_St hH.1 hH.2.1
  exact pr_chg hw hC hH hM hv hn ht (by omega) (k_off hw hC.1 hC.2.1) (fun g9 h9 => k_moff hw h9 (.inl hv.2.1) hv.1 hH.2.2.2.2.2.1 r.s1.1 r.s1.2) (Chg_mono (chg_off st bk r.s1.1 r.s1.2) (by omega)) (gk_off st) (qOffE (St_ok st))
theorem pair_end {l : Launch} {D : va_G} {cy : Nat → ClassId} {w : zW} {f : zF} {B : Int} {a : Int32} (hw : w.1 = 139) (hL : LI w cy f B) (hB : B ≤ 1000000000) : Pair l D cy w yX8_end cX8_end 2 4 100 yX9_end cX9_end 2 6 136 [.int a] f (B + 60) := by
  obtain ⟨s0, s1, hs, δ, k, s, P, H, T, n, tx, tx2, v, nu, hC, hH, hM, hv, hn, ht⟩ := hL
  obtain ⟨mc, bk, r, o, i⟩ := id hH.1
  have st : St B (cp s1 s0) s := cp_St hH.1 hH.2.1
  exact pr_chg hw hC hH hM hv hn ht (by omega) (k_end hw hC.1 hC.2.1) (fun g9 h9 => k_mend hw h9 (.inl hv.2.1) hv.1 hH.2.2.2.2.2.1 (fun h1 _ i9 h9 => St_good hH.1 i9 (by have := zwin_hi h1 (by decide) (show (60 : Int32) = nI 60 from rfl) (by decide); omega))) (Chg_mono (chg_end st) (by omega)) (gk_end st) (qEnd_ok (St_ok st))
theorem pair_set {l : Launch} {D : va_G} {cy : Nat → ClassId} {w : zW} {f : zF} {B : Int} {a c : Int32} (hw : w.1 = 139) (hL : LI w cy f B) (hB : B ≤ 1000000000) : Pair l D cy w yX8_set cX8_set 3 4 89 yX9_set cX9_set 4 2 43 [.int a, .int c] f (B + 60) := by
  obtain ⟨s0, s1, hs, δ, k, s, P, H, T, n, tx, tx2, v, nu, hC, hH, hM, hv, hn, ht⟩ := hL
  obtain ⟨mc, bk, r, o, i⟩ := id hH.1
  have st : St B (cp s1 s0) s := cp_St hH.1 hH.2.1
  exact pr_chg hw hC hH hM hv hn ht (by omega) (k_set hw hC.1 hC.2.1) (fun g9 h9 => k_mset hw h9 (.inl hv.2.1) hv.1 hH.2.2.2.2.2.1 ) (Chg_mono (chg_set st) (by omega)) (hH.2.1) (qSet_ok (St_ok st))
theorem pair_muleOf {l : Launch} {D : va_G} {cy : Nat → ClassId} {w : zW} {f : zF} {B : Int} {a c : Int32} (hw : w.1 = 139) (hL : LI w cy f B) (hB : B ≤ 1000000000) : Pair l D cy w yX8_muleOf cX8_muleOf 4 1 21 yX9_muleOf cX9_muleOf 3 1 22 [.int a, .int c] f (B + 60) := by
  have hL' := LI_mono hL (show B ≤ B + 60 by omega)
  obtain ⟨s0, s1, hs, δ, k, s, P, H, T, n, tx, tx2, v, nu, hC, hH, hM, hv, hn, ht⟩ := hL
  obtain ⟨mc, bk, r, o, i⟩ := id hH.1
  have e := (show cMuleOf s0 a c = _ from sim_muleOf r)
  refine pr_q (r := cMuleOf s0 a c) (k_muleOf hw hC.1 hC.2.1) ?_ hM hL'
  rw [e]
  exact k_mmuleOf hw r.s0.1 r.s0.2
theorem pair_groupOf {l : Launch} {D : va_G} {cy : Nat → ClassId} {w : zW} {f : zF} {B : Int} {a c : Int32} (hw : w.1 = 139) (hL : LI w cy f B) (hB : B ≤ 1000000000) : Pair l D cy w yX8_groupOf cX8_groupOf 4 2 44 yX9_groupOf cX9_groupOf 4 2 44 [.int a, .int c] f (B + 60) := by
  have hL' := LI_mono hL (show B ≤ B + 60 by omega)
  obtain ⟨s0, s1, hs, δ, k, s, P, H, T, n, tx, tx2, v, nu, hC, hH, hM, hv, hn, ht⟩ := hL
  obtain ⟨mc, bk, r, o, i⟩ := id hH.1
  have e : cGroupOf s0 a c = _ := sim_groupOf hH.1 bk r.s1.1 r.s1.2
  refine pr_q (r := cGroupOf s0 a c) (k_groupOf hw hC.1 hC.2.1) ?_ hM hL'
  rw [e]
  exact k_mgroupOf hw r.s1.1 r.s1.2
theorem pair_number {l : Launch} {D : va_G} {cy : Nat → ClassId} {w : zW} {f : zF} {B : Int} {a : Int32} (hw : w.1 = 139) (hL : LI w cy f B) (hB : B ≤ 1000000000) : Pair l D cy w yX8_number cX8_number 3 1 21 yX9_number cX9_number 2 1 22 [.int a] f (B + 60) := by
  have hL' := LI_mono hL (show B ≤ B + 60 by omega)
  obtain ⟨s0, s1, hs, δ, k, s, P, H, T, n, tx, tx2, v, nu, hC, hH, hM, hv, hn, ht⟩ := hL
  obtain ⟨mc, bk, r, o, i⟩ := id hH.1
  have e := (show cNumber s0 a = _ from sim_number r)
  refine pr_q (r := cNumber s0 a) (k_number hw hC.1 hC.2.1) ?_ hM hL'
  rw [e]
  exact k_mnumber hw r.s1.1 r.s1.2
theorem pair_loaves {l : Launch} {D : va_G} {cy : Nat → ClassId} {w : zW} {f : zF} {B : Int} {a : Int32} (hw : w.1 = 139) (hL : LI w cy f B) (hB : B ≤ 1000000000) : Pair l D cy w yX8_loaves cX8_loaves 2 1 24 yX9_loaves cX9_loaves 2 1 22 [.int a] f (B + 60) := by
  have hL' := LI_mono hL (show B ≤ B + 60 by omega)
  obtain ⟨s0, s1, hs, δ, k, s, P, H, T, n, tx, tx2, v, nu, hC, hH, hM, hv, hn, ht⟩ := hL
  obtain ⟨mc, bk, r, o, i⟩ := id hH.1
  have e := (show cLoaves s0 a = _ from sim_loaves2 r)
  refine pr_q (r := cLoaves s0 a) (k_loaves hw hC.1 hC.2.1) ?_ hM hL'
  rw [e]
  exact k_mloaves hw 
theorem pair_why {l : Launch} {D : va_G} {cy : Nat → ClassId} {w : zW} {f : zF} {B : Int} {a c : Int32} (hw : w.1 = 139) (hL : LI w cy f B) (hB : B ≤ 1000000000) : Pair l D cy w yX8_why cX8_why 3 2 45 yX9_why cX9_why 3 2 44 [.int a, .int c] f (B + 60) := by
  have hL' := LI_mono hL (show B ≤ B + 60 by omega)
  obtain ⟨s0, s1, hs, δ, k, s, P, H, T, n, tx, tx2, v, nu, hC, hH, hM, hv, hn, ht⟩ := hL
  obtain ⟨mc, bk, r, o, i⟩ := id hH.1
  have e := (show hWhy s0.2 a c = _ from sim_why r)
  refine pr_q (r := hWhy s0.2 a c) (k_why hw hC.1 hC.2.1) ?_ hM hL'
  rw [e]
  exact k_mwhy hw r.s0.1 r.s0.2
theorem pair_wanted {l : Launch} {D : va_G} {cy : Nat → ClassId} {w : zW} {f : zF} {B : Int} {a : Int32} (hw : w.1 = 139) (hL : LI w cy f B) (hB : B ≤ 1000000000) : Pair l D cy w yX8_wanted cX8_wanted 2 2 45 yX9_wanted cX9_wanted 4 2 44 [.int a] f (B + 60) := by
  have hL' := LI_mono hL (show B ≤ B + 60 by omega)
  obtain ⟨s0, s1, hs, δ, k, s, P, H, T, n, tx, tx2, v, nu, hC, hH, hM, hv, hn, ht⟩ := hL
  obtain ⟨mc, bk, r, o, i⟩ := id hH.1
  have e : cWanted s0 a = _ := sim_wanted hH.1 bk r.s1.1 r.s1.2
  refine pr_q (r := cWanted s0 a) (k_wanted hw hC.1 hC.2.1) ?_ hM hL'
  rw [e]
  exact k_mwanted hw r.s1.1 r.s1.2
theorem pair_next {l : Launch} {D : va_G} {cy : Nat → ClassId} {w : zW} {f : zF} {B : Int} {a : Int32} (hw : w.1 = 139) (hL : LI w cy f B) (hB : B ≤ 1000000000) : Pair l D cy w yX8_next cX8_next 4 2 45 yX9_next cX9_next 4 2 45 [.int a] f (B + 60) := by
  have hL' := LI_mono hL (show B ≤ B + 60 by omega)
  obtain ⟨s0, s1, hs, δ, k, s, P, H, T, n, tx, tx2, v, nu, hC, hH, hM, hv, hn, ht⟩ := hL
  obtain ⟨mc, bk, r, o, i⟩ := id hH.1
  have n15 : ¬ s 15 = 0 := fun z => by
    have q := i.2.2.2.2.2.2.1.1.1
    rw [z, tk0] at q
    omega
  have e : cNext s0 a = _ := sim_next hH.1 mc r.s0.1 r.s0.2
  refine pr_q (r := cNext s0 a) (k_next hw hC.1 hC.2.1) ?_ hM hL'
  rw [e]
  exact k_mnext hw r.s0.1 r.s0.2 n15
theorem pair_mean {l : Launch} {D : va_G} {cy : Nat → ClassId} {w : zW} {f : zF} {B : Int} (hw : w.1 = 139) (hL : LI w cy f B) (hB : B ≤ 1000000000) : Pair l D cy w yX8_mean cX8_mean 2 1 24 yX9_mean cX9_mean 4 3 60 [] f (B + 60) := by
  have hL' := LI_mono hL (show B ≤ B + 60 by omega)
  obtain ⟨s0, s1, hs, δ, k, s, P, H, T, n, tx, tx2, v, nu, hC, hH, hM, hv, hn, ht⟩ := hL
  obtain ⟨mc, bk, r, o, i⟩ := id hH.1
  have e := (sim_mean hH.1).1
  refine pr_q (r := cMean s0) (k_mean hw hC.1 hC.2.1 (sim_mean hH.1).2.2.2) ?_ hM hL'
  rw [e]
  exact k_mmean hw (sim_mean hH.1).2.1 (sim_mean hH.1).2.2.1
theorem pair_count {l : Launch} {D : va_G} {cy : Nat → ClassId} {w : zW} {f : zF} {B : Int} {a : Int32} (hw : w.1 = 139) (hL : LI w cy f B) (hB : B ≤ 1000000000) : Pair l D cy w yX8_count cX8_count 2 3 65 yX9_count cX9_count 2 2 44 [.int a] f (B + 60) := by
  have hL' := LI_mono hL (show B ≤ B + 60 by omega)
  obtain ⟨s0, s1, hs, δ, k, s, P, H, T, n, tx, tx2, v, nu, hC, hH, hM, hv, hn, ht⟩ := hL
  obtain ⟨mc, bk, r, o, i⟩ := id hH.1
  obtain ⟨m9, b9, fr, -, -, -, -, e17, hfr, -⟩ := St_good hH.1 0 (by decide)
  obtain ⟨hcO, p9, q9, r9, c9, nu9, h129, h131⟩ := id hC.2.2
  have e : cCount s0 k (nI n) a = _ := sim_count hH.1 hv.1 hv.2.2 mc fr r.s0.1 r.s0.2 e17 hfr
  refine pr_q (r := cCount s0 k (nI n) a) (k_count hw hC.1 hC.2.1 h129) ?_ hM hL'
  rw [e]
  exact k_mcount hw r.s0.1 r.s0.2 e17 hfr
