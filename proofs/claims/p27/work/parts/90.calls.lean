/-! CALLS OF THE CLASS from the law: the answer, and the class's cells behind it, told beside the law's numbers s -/
def CI (w : zW) (cy : Nat → ClassId) (f : zF) (s0 s1 : zGS) (hs : Nat → zGS) (δ : Nat → Nat) (k n : Nat) (tx : Nat → Int32) : Prop := zCl w cy f s0 s1 hs δ k ∧ zInv s0 s1 hs δ k ∧ zOs w cy f (nI n) tx
theorem zCl_fr {w : zW} {cy : Nat → ClassId} {f g : zF} {s0 s1 : zGS} {hs : Nat → zGS} {δ : Nat → Nat} {k : Nat} (h : zCl w cy f s0 s1 hs δ k) (hg : ∀ t, t < 129 → g t = f t) : zCl w cy g s0 s1 hs δ k := by
  obtain ⟨a, b, c, d, e, z⟩ := h
  exact ⟨(hg 0 (by decide)).trans a, fun o ho => (hg _ (by omega)).trans (b o ho), fun o ho => (hg _ (by omega)).trans (c o ho), (hg _ (by decide)).trans d, (hg _ (by decide)).trans e, zHB_fr z (fun t h1 h2 => hg t h2)⟩
theorem zOs_fr {w : zW} {cy : Nat → ClassId} {f g : zF} {l0 : Int32} {tx : Nat → Int32} (h : zOs w cy f l0 tx) (hg : ∀ t, 129 ≤ t → t < 132 → g t = f t) : zOs w cy g l0 tx := by
  obtain ⟨a, p, q, r, c, nu, b, d⟩ := h
  exact ⟨(hg _ (by decide) (by decide)).trans a, p, q, r, c, nu, (hg _ (by decide) (by decide)).trans b, (hg _ (by decide) (by decide)).trans d⟩
theorem CI_fr {w : zW} {cy : Nat → ClassId} {f g : zF} {s0 s1 : zGS} {hs : Nat → zGS} {δ : Nat → Nat} {k n : Nat} {tx : Nat → Int32} (h : CI w cy f s0 s1 hs δ k n tx) (hg : ∀ t, t < 132 → g t = f t) : CI w cy g s0 s1 hs δ k n tx := ⟨zCl_fr h.1 (fun t ht => hg t (by omega)), h.2.1, zOs_fr h.2.2 (fun t _ ht => hg t ht)⟩
theorem tk_inv {s0 s1 : zGS} {hs : Nat → zGS} {δ : Nat → Nat} {k : Nat} {x : Int32} {q : zGS} (hi : zInv s0 s1 hs δ k) (hq : zOkE q) (h4 : ∀ j, j < 4 → tkD x δ k j < 4) (hk : tkN x k ≤ 4) : zInv (tkS x s0 q) q (tkH x hs δ k s0) (tkD x δ k) (tkN x k) := by
  refine ⟨?_, hq, fun i hi4 => ?_, h4, hk⟩
  · unfold tkS
    split
    · exact hi.1
    · exact cp_ok hi.1.g hq
  · unfold tkH
    split
    · exact hi.2.2.1 i hi4
    · unfold kpH va_up
      split
      · have hj : kpD δ k (kpJ k) < 4 := by
          have e : kpJ k < 4 := by
            unfold kpJ
            split <;> omega
          obtain ⟨i', a1, a2, -⟩ := kpD_at (δ := δ) (k := k) (kpJ k) e
          rw [a2]
          exact hi.2.2.2.1 i' a1
        exact cp_ok (hi.2.2.1 _ hj).g hi.1
      · exact hi.2.2.1 i hi4
/-- the class's cells, alike s -/
def CX (w : zW) (cy : Nat → ClassId) (f : zF) (B : Int) (s : Nat → Int32) : Prop := ∃ (s0 s1 : zGS) (hs : Nat → zGS) (δ : Nat → Nat) (k : Nat) (tx P : Nat → Int32), CI w cy f s0 s1 hs δ k 0 tx ∧ Hs B s0 s1 hs δ k s P
theorem CX_fr {w : zW} {cy : Nat → ClassId} {f g : zF} {B : Int} {s : Nat → Int32} (h : CX w cy f B s) (hg : ∀ t, t < 132 → g t = f t) : CX w cy g B s := by
  obtain ⟨s0, s1, hs, δ, k, tx, P, hC, hH⟩ := h
  exact ⟨s0, s1, hs, δ, k, tx, P, CI_fr hC hg, hH⟩
theorem CX_lW {w : zW} {cy : Nat → ClassId} {f : zF} {B : Int} {s t : Nat → Int32} (h : CX w cy f B s) : CX w cy (lW cy f t) B s := CX_fr h (fun _ ht => lW_lo (.inl ht))
theorem CX_0 {w : zW} {cy : Nat → ClassId} {f : zF} {B : Int} {s : Nat → Int32} (h : CX w cy f B s) : f 0 = .inr (8, [.ref (w.2 1), .ref (w.2 22), .ref (w.2 43), .ref (w.2 129)]) := by
  obtain ⟨s0, s1, hs, δ, k, tx, P, hC, hH⟩ := h
  exact hC.1.1
theorem CX_St {w : zW} {cy : Nat → ClassId} {f : zF} {B : Int} {s : Nat → Int32} (h : CX w cy f B s) : ∃ g, St B g s := by
  obtain ⟨s0, s1, hs, δ, k, tx, P, hC, hH⟩ := h
  exact ⟨s0, hH.1⟩
theorem CX_mono {w : zW} {cy : Nat → ClassId} {f : zF} {B B' : Int} {s : Nat → Int32} (h : CX w cy f B s) (hB : B ≤ B') : CX w cy f B' s := by
  obtain ⟨s0, s1, hs, δ, k, tx, P, hC, hH⟩ := h
  exact ⟨s0, s1, hs, δ, k, tx, P, hC, Hs_mono hH hB⟩
theorem CX_ext {w : zW} {cy : Nat → ClassId} {f : zF} {B : Int} {s t : Nat → Int32} (h : CX w cy f B s) (hg : ∀ i, i < 136 → t i = s i) : CX w cy f B t := by
  obtain ⟨s0, s1, hs, δ, k, tx, P, hC, hH⟩ := h
  exact ⟨s0, s1, hs, δ, k, tx, P, hC, St_congr hg hH.1, hH.2⟩
/-- behind a call that may change -/
def Ans (w : zW) (cy : Nat → ClassId) (f : zF) (B : Int) (s : Nat → Int32) (d : Int32 × Bool × (Nat → Int32)) : Option Value → zF → Prop := fun r9 g => r9 = some (.int d.1) ∧ CX w cy g B (if d.2.1 then d.2.2 else s) ∧ ∀ t, 132 ≤ t → g t = f t
theorem zSp.mono {l : Launch} {D : va_G} {cy : Nat → ClassId} {w : zW} {f : zF} {y : MethodName} {cc : ByteArray} {nL fr lo : Nat} {av : List Value} {post post' : Option Value → zF → Prop} (h : zSp l D cy y cc nL (some .int) fr lo av w f post) (hp : ∀ r g, post r g → post' r g) : zSp l D cy y cc nL (some .int) fr lo av w f post' := zM.post h (fun r w' g hq => ⟨hq.1, hp r g hq.2⟩)
theorem ca_chg {l : Launch} {D : va_G} {cy : Nat → ClassId} {w : zW} {f : zF} {B B' : Int} {s tx P : Nat → Int32} {s0 s1 : zGS} {hs : Nat → zGS} {δ : Nat → Nat} {k : Nat} {y1 : MethodName} {c1 : ByteArray} {n1 fr1 lo1 : Nat} {As : List Value} {q : Int32 × zGS} {d : Int32 × Bool × (Nat → Int32)} (hC : CI w cy f s0 s1 hs δ k 0 tx) (hH : Hs B s0 s1 hs δ k s P) (hBB : B ≤ B') (hc : zSp l D cy y1 c1 n1 (some .int) fr1 lo1 (.ref (w.2 0) :: As) w f (zChg w cy f s0 hs δ k q)) (hg : Chg B' q d) (ho : gOk q.2.1) (hq : zOkE q.2) : zSp l D cy y1 c1 n1 (some .int) fr1 lo1 (.ref (w.2 0) :: As) w f (Ans w cy f B' s d) := by
  obtain ⟨e, hH', -, -⟩ := chg_Hs (v := fun _ => 0) hH hBB hg ho rfl
  refine zSp.mono hc (fun r g hz => ?_)
  obtain ⟨rfl, z1, z2⟩ := hz
  refine ⟨by rw [e], ⟨_, _, _, _, _, tx, _, ⟨z1, tk_inv hC.2.1 hq hH'.2.2.2.2.1 hH'.2.2.2.2.2.1, zOs_fr hC.2.2 (fun t h1 h2 => z2 t h1)⟩, hH'⟩, fun t ht => z2 t (by omega)⟩
theorem Chg_mono {B B' : Int} {q : Int32 × zGS} {d : Int32 × Bool × (Nat → Int32)} (h : Chg B q d) (hB : B ≤ B') : Chg B' q d := ⟨h.1, fun z => ⟨(h.2.1 z).1, St_mono (h.2.1 z).2 hB⟩, h.2.2⟩
theorem ca_mule {l : Launch} {D : va_G} {cy : Nat → ClassId} {w : zW} {f : zF} {B : Int} {s : Nat → Int32} {a c : Int32} (mc : Nat) (hm : s 0 = nI mc) (hm4 : mc ≤ 4) (hw : w.1 = 136) (hX : CX w cy f B s) (hB : B ≤ 1000000000) : zSp l D cy yX8_mule cX8_mule 3 (some .int) 4 89 [.ref (w.2 0), .int a, .int c] w f (Ans w cy f (B + 60) s (dMule s mc a c)) := by
  obtain ⟨s0, s1, hs, δ, k, tx, P, hC, hH⟩ := hX
  have st : St B (cp s1 s0) s := cp_St hH.1 hH.2.1
  exact ca_chg hC hH (by omega) (k_mule hw hC.1 hC.2.1) (Chg_mono (chg_mule st mc hm hm4) (by omega)) (hH.2.1) (qAdd_ok (St_ok st))
theorem ca_send {l : Launch} {D : va_G} {cy : Nat → ClassId} {w : zW} {f : zF} {B : Int} {s : Nat → Int32} {a c : Int32} (hw : w.1 = 136) (hX : CX w cy f B s) (hB : B ≤ 1000000000) : zSp l D cy yX8_send cX8_send 3 (some .int) 4 89 [.ref (w.2 0), .int a, .int c] w f (Ans w cy f (B + 60) s (dSend s a c)) := by
  obtain ⟨s0, s1, hs, δ, k, tx, P, hC, hH⟩ := hX
  have st : St B (cp s1 s0) s := cp_St hH.1 hH.2.1
  exact ca_chg hC hH (by omega) (k_send hw hC.1 hC.2.1) (Chg_mono (chg_send st) (by omega)) (hH.2.1) (qSendE (St_ok st))
theorem ca_rest {l : Launch} {D : va_G} {cy : Nat → ClassId} {w : zW} {f : zF} {B : Int} {s : Nat → Int32} {a : Int32} (hw : w.1 = 136) (hX : CX w cy f B s) (hB : B ≤ 1000000000) : zSp l D cy yX8_rest cX8_rest 2 (some .int) 4 89 [.ref (w.2 0), .int a] w f (Ans w cy f (B + 60) s (dRest s a)) := by
  obtain ⟨s0, s1, hs, δ, k, tx, P, hC, hH⟩ := hX
  have st : St B (cp s1 s0) s := cp_St hH.1 hH.2.1
  exact ca_chg hC hH (by omega) (k_rest hw hC.1 hC.2.1) (Chg_mono (chg_rest st) (by omega)) (hH.2.1) (qRest_ok (St_ok st))
theorem ca_pay {l : Launch} {D : va_G} {cy : Nat → ClassId} {w : zW} {f : zF} {B : Int} {s : Nat → Int32} {a : Int32} (hw : w.1 = 136) (hX : CX w cy f B s) (hB : B ≤ 1000000000) : zSp l D cy yX8_pay cX8_pay 2 (some .int) 4 89 [.ref (w.2 0), .int a] w f (Ans w cy f (B + 60) s (dPay s a)) := by
  obtain ⟨s0, s1, hs, δ, k, tx, P, hC, hH⟩ := hX
  have st : St B (cp s1 s0) s := cp_St hH.1 hH.2.1
  exact ca_chg hC hH (by omega) (k_pay hw hC.1 hC.2.1) (Chg_mono (chg_pay st) (by omega)) (hH.2.1) (qPayE (St_ok st))
theorem ca_group {l : Launch} {D : va_G} {cy : Nat → ClassId} {w : zW} {f : zF} {B : Int} {s : Nat → Int32} {a c e : Int32} (bk : Nat) (hb : s 1 = nI bk) (hb10 : bk ≤ 10) (hw : w.1 = 136) (hX : CX w cy f B s) (hB : B ≤ 1000000000) : zSp l D cy yX8_group cX8_group 4 (some .int) 4 89 [.ref (w.2 0), .int a, .int c, .int e] w f (Ans w cy f (B + 60) s (dGroup s bk a c e)) := by
  obtain ⟨s0, s1, hs, δ, k, tx, P, hC, hH⟩ := hX
  have st : St B (cp s1 s0) s := cp_St hH.1 hH.2.1
  exact ca_chg hC hH (by omega) (k_group hw hC.1 hC.2.1) (Chg_mono (chg_group st (by omega) bk hb hb10) (by omega)) (hH.2.1) (qBookE (St_ok st))
theorem ca_off {l : Launch} {D : va_G} {cy : Nat → ClassId} {w : zW} {f : zF} {B : Int} {s : Nat → Int32} {a : Int32} (bk : Nat) (hb : s 1 = nI bk) (hb10 : bk ≤ 10) (hw : w.1 = 136) (hX : CX w cy f B s) (hB : B ≤ 1000000000) : zSp l D cy yX8_off cX8_off 2 (some .int) 4 89 [.ref (w.2 0), .int a] w f (Ans w cy f (B + 60) s (dOff s bk a)) := by
  obtain ⟨s0, s1, hs, δ, k, tx, P, hC, hH⟩ := hX
  have st : St B (cp s1 s0) s := cp_St hH.1 hH.2.1
  exact ca_chg hC hH (by omega) (k_off hw hC.1 hC.2.1) (Chg_mono (chg_off st bk hb hb10) (by omega)) (gk_off st) (qOffE (St_ok st))
theorem ca_set {l : Launch} {D : va_G} {cy : Nat → ClassId} {w : zW} {f : zF} {B : Int} {s : Nat → Int32} {a c : Int32} (hw : w.1 = 136) (hX : CX w cy f B s) (hB : B ≤ 1000000000) : zSp l D cy yX8_set cX8_set 3 (some .int) 4 89 [.ref (w.2 0), .int a, .int c] w f (Ans w cy f (B + 60) s (dSet s a c)) := by
  obtain ⟨s0, s1, hs, δ, k, tx, P, hC, hH⟩ := hX
  have st : St B (cp s1 s0) s := cp_St hH.1 hH.2.1
  exact ca_chg hC hH (by omega) (k_set hw hC.1 hC.2.1) (Chg_mono (chg_set st) (by omega)) (hH.2.1) (qSet_ok (St_ok st))
theorem cq_muleOf {l : Launch} {D : va_G} {cy : Nat → ClassId} {w : zW} {f : zF} {B : Int} {s : Nat → Int32} {a c : Int32} (hw : w.1 = 136) (hX : CX w cy f B s) : zSd l D cy yX8_muleOf cX8_muleOf 4 (some .int) 1 21 [.ref (w.2 0), .int a, .int c] w f (some (.int (dMuleOf s a c))) f := by
  obtain ⟨s0, s1, hs, δ, k, tx, P, hC, hH⟩ := hX
  obtain ⟨mc9, bk9, r, o, i⟩ := id hH.1
  rw [← (show _ = (dMuleOf s a c) from sim_muleOf r)]
  exact k_muleOf hw hC.1 hC.2.1
theorem cq_groupOf {l : Launch} {D : va_G} {cy : Nat → ClassId} {w : zW} {f : zF} {B : Int} {s : Nat → Int32} {a c : Int32} (bk : Nat) (hb : s 1 = nI bk) (hb10 : bk ≤ 10) (hw : w.1 = 136) (hX : CX w cy f B s) : zSd l D cy yX8_groupOf cX8_groupOf 4 (some .int) 2 44 [.ref (w.2 0), .int a, .int c] w f (some (.int (dGroupOf s bk a c))) f := by
  obtain ⟨s0, s1, hs, δ, k, tx, P, hC, hH⟩ := hX
  obtain ⟨mc9, bk9, r, o, i⟩ := id hH.1
  rw [← (show _ = (dGroupOf s bk a c) from sim_groupOf hH.1 bk hb hb10)]
  exact k_groupOf hw hC.1 hC.2.1
theorem cq_number {l : Launch} {D : va_G} {cy : Nat → ClassId} {w : zW} {f : zF} {B : Int} {s : Nat → Int32} {a : Int32} (hw : w.1 = 136) (hX : CX w cy f B s) : zSd l D cy yX8_number cX8_number 3 (some .int) 1 21 [.ref (w.2 0), .int a] w f (some (.int (dNumber s a))) f := by
  obtain ⟨s0, s1, hs, δ, k, tx, P, hC, hH⟩ := hX
  obtain ⟨mc9, bk9, r, o, i⟩ := id hH.1
  rw [← (show _ = (dNumber s a) from sim_number r)]
  exact k_number hw hC.1 hC.2.1
theorem cq_loaves {l : Launch} {D : va_G} {cy : Nat → ClassId} {w : zW} {f : zF} {B : Int} {s : Nat → Int32} {a : Int32} (hw : w.1 = 136) (hX : CX w cy f B s) : zSd l D cy yX8_loaves cX8_loaves 2 (some .int) 1 24 [.ref (w.2 0), .int a] w f (some (.int (dLoaves s a))) f := by
  obtain ⟨s0, s1, hs, δ, k, tx, P, hC, hH⟩ := hX
  obtain ⟨mc9, bk9, r, o, i⟩ := id hH.1
  rw [← (show _ = (dLoaves s a) from sim_loaves2 r)]
  exact k_loaves hw hC.1 hC.2.1
/-- count, but for the numbers of changes that may be taken back -/
theorem cq_count {l : Launch} {D : va_G} {cy : Nat → ClassId} {w : zW} {f : zF} {B : Int} {s : Nat → Int32} {a : Int32} (mc fr : Nat) (hm : s 0 = nI mc) (hm4 : mc ≤ 4) (hf : s 17 = nI fr) (hf15 : fr ≤ 15) (ha : a ≠ 18) (hw : w.1 = 136) (hX : CX w cy f B s) : zSd l D cy yX8_count cX8_count 2 (some .int) 3 65 [.ref (w.2 0), .int a] w f (some (.int (dCount (fun _ => 0) s mc fr a))) f := by
  obtain ⟨s0, s1, hs, δ, k, tx, P, hC, hH⟩ := hX
  obtain ⟨hcO, p9, q9, r9, c9, nu9, h129, h131⟩ := id hC.2.2
  have e : cCount s0 k (nI 0) a = dCount (fun i => if i = 0 then nI k else 0) s mc fr a := sim_count (v := fun i => if i = 0 then nI k else 0) (k := k) (l := nI 0) hH.1 rfl rfl mc fr hm hm4 hf hf15
  have e2 : dCount (fun i => if i = 0 then nI k else 0) s mc fr a = dCount (fun _ => 0) s mc fr a := by
    unfold dCount
    rw [if_neg ha, if_neg ha]
    rfl
  rw [← e2, ← e]
  exact k_count hw hC.1 hC.2.1 h129
