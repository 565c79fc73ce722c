/-! THE LAW'S STATE: both objects' cells, and what holds between them -/
def CI (w : zW) (cy : Nat → ClassId) (f : zF) (s0 s1 : zGS) (hs : Nat → zGS) (δ : Nat → Nat) (k n : Nat) (tx : Nat → Int32) : Prop := zCl w cy f s0 s1 hs δ k ∧ zInv s0 s1 hs δ k ∧ zOs w cy f (nI n) tx
def MP (w : zW) (cy : Nat → ClassId) (f : zF) (s P H T tx2 v nu : Nat → Int32) : Prop := (f 132 = eMod w v ∧ f 133 = eInts cy 136 s ∧ f 138 = eInts cy 3 nu) ∧ f 134 = eInts cy 544 P ∧ f 135 = eInts cy 136 H ∧ f 136 = eInts cy 136 T ∧ f 137 = eInts cy 60 tx2
def LI (w : zW) (cy : Nat → ClassId) (f : zF) (B : Int) : Prop := ∃ (s0 s1 : zGS) (hs : Nat → zGS) (δ : Nat → Nat) (k : Nat) (s P H T : Nat → Int32) (n : Nat) (tx tx2 v nu : Nat → Int32), CI w cy f s0 s1 hs δ k n tx ∧ Hs B s0 s1 hs δ k s P ∧ MP w cy f s P H T tx2 v nu ∧ (v 0 = nI k ∧ v 1 = 0 ∧ v 2 = nI n) ∧ n ≤ 60 ∧ ∀ i, i < n → tx i = tx2 i
theorem zCl_fr {w : zW} {cy : Nat → ClassId} {f g : zF} {s0 s1 : zGS} {hs : Nat → zGS} {δ : Nat → Nat} {k : Nat} (h : zCl w cy f s0 s1 hs δ k) (hg : ∀ t, t < 129 → g t = f t) : zCl w cy g s0 s1 hs δ k := by
  obtain ⟨a, b, c, d, e, z⟩ := h
  exact ⟨(hg 0 (by decide)).trans a, fun o ho => (hg _ (by omega)).trans (b o ho), fun o ho => (hg _ (by omega)).trans (c o ho), (hg _ (by decide)).trans d, (hg _ (by decide)).trans e, zHB_fr z (fun t h1 h2 => hg t h2)⟩
theorem zOs_fr {w : zW} {cy : Nat → ClassId} {f g : zF} {l0 : Int32} {tx : Nat → Int32} (h : zOs w cy f l0 tx) (hg : ∀ t, 129 ≤ t → t < 132 → g t = f t) : zOs w cy g l0 tx := by
  obtain ⟨a, p, q, r, c, nu, b, d⟩ := h
  exact ⟨(hg _ (by decide) (by decide)).trans a, p, q, r, c, nu, (hg _ (by decide) (by decide)).trans b, (hg _ (by decide) (by decide)).trans d⟩
theorem CI_fr {w : zW} {cy : Nat → ClassId} {f g : zF} {s0 s1 : zGS} {hs : Nat → zGS} {δ : Nat → Nat} {k n : Nat} {tx : Nat → Int32} (h : CI w cy f s0 s1 hs δ k n tx) (hg : ∀ t, t < 132 → g t = f t) : CI w cy g s0 s1 hs δ k n tx := ⟨zCl_fr h.1 (fun t ht => hg t (by omega)), h.2.1, zOs_fr h.2.2 (fun t _ ht => hg t ht)⟩
theorem MP_fr {w : zW} {cy : Nat → ClassId} {f g : zF} {s P H T tx2 v nu : Nat → Int32} (h : MP w cy f s P H T tx2 v nu) (hg : ∀ t, 132 ≤ t → g t = f t) : MP w cy g s P H T tx2 v nu := by
  obtain ⟨⟨a, b, c⟩, d, e, x, y⟩ := h
  exact ⟨⟨(hg _ (by decide)).trans a, (hg _ (by decide)).trans b, (hg _ (by decide)).trans c⟩, (hg _ (by decide)).trans d, (hg _ (by decide)).trans e, (hg _ (by decide)).trans x, (hg _ (by decide)).trans y⟩
theorem MP_self {w : zW} {cy : Nat → ClassId} {f : zF} {s P H T tx2 v nu : Nat → Int32} (h : MP w cy f s P H T tx2 v nu) : mW w cy f v s nu = f := mW_self h.1.1 h.1.2.1 h.1.2.2
theorem MP_mW {w : zW} {cy : Nat → ClassId} {f : zF} {s P H T tx2 v nu v' s' nu' : Nat → Int32} (h : MP w cy f s P H T tx2 v nu) : MP w cy (mW w cy f v' s' nu') s' P H T tx2 v' nu' := by
  obtain ⟨-, d, e, x, y⟩ := h
  exact ⟨⟨mW_132, mW_133, mW_138⟩, (mW_out (by decide) (by decide) (by decide)).trans d, (mW_out (by decide) (by decide) (by decide)).trans e, (mW_out (by decide) (by decide) (by decide)).trans x, (mW_out (by decide) (by decide) (by decide)).trans y⟩
theorem mW_lo {w : zW} {cy : Nat → ClassId} {f : zF} {v s nu : Nat → Int32} {t : Nat} (h : t < 132) : mW w cy f v s nu t = f t := mW_out (by omega) (by omega) (by omega)
/-- a call of the class and the same of the model: the same answer, and alike behind them -/
def Pair (l : Launch) (D : va_G) (cy : Nat → ClassId) (w : zW) (y1 : MethodName) (c1 : ByteArray) (n1 fr1 lo1 : Nat) (y2 : MethodName) (c2 : ByteArray) (n2 fr2 lo2 : Nat) (As : List Value) (f : zF) (B : Int) : Prop := ∃ (r : Int32) (Mid : zF → Prop), zSp l D cy y1 c1 n1 (some .int) fr1 lo1 (.ref (w.2 0) :: As) w f (fun r9 g => r9 = some (.int r) ∧ Mid g) ∧ ∀ g, Mid g → (∃ fs, g 132 = .inr (9, fs)) ∧ zSp l D cy y2 c2 n2 (some .int) fr2 lo2 (.ref (w.2 132) :: As) w g (fun r9 g' => r9 = some (.int r) ∧ LI w cy g' B)
section PAIR
variable {l : Launch} {D : va_G} {cy : Nat → ClassId} {w : zW} {f : zF} {y : MethodName} {cc : ByteArray} {nL fr lo : Nat} {av : List Value}
theorem zSp.mono {post post' : Option Value → zF → Prop} (h : zSp l D cy y cc nL (some .int) fr lo av w f post) (hp : ∀ r g, post r g → post' r g) : zSp l D cy y cc nL (some .int) fr lo av w f post' := zM.post h (fun r w' g hq => ⟨hq.1, hp r g hq.2⟩)
variable {s0 s1 : zGS} {hs : Nat → zGS} {δ : Nat → Nat} {k n : Nat} {s P H T tx tx2 v nu : Nat → Int32} {B B' : Int} {y1 y2 : MethodName} {c1 c2 : ByteArray} {n1 n2 fr1 fr2 lo1 lo2 : Nat} {As : List Value}
/-- a question: nothing changes -/
theorem pr_q {r : Int32} (hc : zSd l D cy y1 c1 n1 (some .int) fr1 lo1 (.ref (w.2 0) :: As) w f (some (.int r)) f) (hm : zSd l D cy y2 c2 n2 (some .int) fr2 lo2 (.ref (w.2 132) :: As) w (mW w cy f v s nu) (some (.int r)) (mW w cy f v s nu)) (hM : MP w cy f s P H T tx2 v nu) (hL : LI w cy f B) : Pair l D cy w y1 c1 n1 fr1 lo1 y2 c2 n2 fr2 lo2 As f B := by
  refine ⟨r, fun g => g = f, zSd.sp hc ⟨rfl, rfl⟩, fun g hg => ?_⟩
  subst hg
  rw [MP_self hM] at hm
  exact ⟨⟨_, hM.1.1⟩, zSd.sp hm ⟨rfl, hL⟩⟩
theorem tk_inv {x : Int32} {q : zGS} (hi : zInv s0 s1 hs δ k) (hq : zOkE q) (h4 : ∀ j, j < 4 → tkD x δ k j < 4) (hk : tkN x k ≤ 4) : zInv (tkS x s0 q) q (tkH x hs δ k s0) (tkD x δ k) (tkN x k) := by
  refine ⟨?_, hq, fun i hi4 => ?_, h4, hk⟩
  · unfold tkS
    split
    · exact hi.1
    · exact cp_ok hi.1.g hq
  · unfold tkH
    split
    · exact hi.2.2.1 i hi4
    · unfold kpH va_up
      split
      · have hj : kpD δ k (kpJ k) < 4 := by
          have e : kpJ k < 4 := by
            unfold kpJ
            split <;> omega
          obtain ⟨i', a1, a2, -⟩ := kpD_at (δ := δ) (k := k) (kpJ k) e
          rw [a2]
          exact hi.2.2.2.1 i' a1
        exact cp_ok (hi.2.2.1 _ hj).g hi.1
      · exact hi.2.2.1 i hi4
/-- a call that changes -/
theorem pr_chg {q : Int32 × zGS} {d : Int32 × Bool × (Nat → Int32)} (hw : w.1 = 139) (hC : CI w cy f s0 s1 hs δ k n tx) (hH : Hs B s0 s1 hs δ k s P) (hM : MP w cy f s P H T tx2 v nu) (hv : v 0 = nI k ∧ v 1 = 0 ∧ v 2 = nI n) (hn : n ≤ 60) (ht : ∀ i, i < n → tx i = tx2 i) (hBB : B ≤ B') (hc : zSp l D cy y1 c1 n1 (some .int) fr1 lo1 (.ref (w.2 0) :: As) w f (zChg w cy f s0 hs δ k q)) (hm : ∀ g : zF, g 134 = eInts cy 544 P → zSd l D cy y2 c2 n2 (some .int) fr2 lo2 (.ref (w.2 132) :: As) w (mW w cy g v s nu) (some (.int d.1)) (mQ w cy g v s nu P k d)) (hg : Chg B' q d) (ho : gOk q.2.1) (hq : zOkE q.2) : Pair l D cy w y1 c1 n1 fr1 lo1 y2 c2 n2 fr2 lo2 As f B' := by
  obtain ⟨e, hH', h1, h0⟩ := chg_Hs (v := v) hH hBB hg ho hv.2.1
  refine ⟨q.1, fun g => zCl w cy g (tkS q.1 s0 q.2) q.2 (tkH q.1 hs δ k s0) (tkD q.1 δ k) (tkN q.1 k) ∧ ∀ t, 129 ≤ t → g t = f t, hc, fun g hz => ?_⟩
  obtain ⟨z1, z2⟩ := hz
  have hMg : MP w cy g s P H T tx2 v nu := MP_fr hM (fun t ht => z2 t (by omega))
  have hmg := hm g hMg.2.1
  rw [MP_self hMg] at hmg
  refine ⟨⟨_, hMg.1.1⟩, zSd.sp hmg ⟨by rw [e], ?_⟩⟩
  have hI := tk_inv (x := q.1) (q := q.2) hC.2.1 hq hH'.2.2.2.2.1 hH'.2.2.2.2.2.1
  have hO : zOs w cy g (nI n) tx := zOs_fr hC.2.2 (fun t h1 h2 => z2 t h1)
  cases hd : d.2.1 with
  | false =>
    rw [hd] at hH'
    have nn := h0 hd
    have eN : tkN q.1 k = k := if_pos nn
    have eQ : mQ w cy g v s nu P k d = mW w cy g v s nu := by
      unfold mQ
      rw [hd]
      rfl
    rw [eQ, MP_self hMg]
    rw [eN] at hH' hI z1
    exact ⟨_, _, _, _, k, s, P, H, T, n, tx, tx2, v, nu, ⟨z1, hI, hO⟩, hH', hMg, hv, hn, ht⟩
  | true =>
    rw [hd] at hH'
    have nn := h1 hd
    have eN : tkN q.1 k = kpJ k + 1 := if_neg nn
    have eQ : mQ w cy g v s nu P k d = mW w cy (va_up g 134 (eInts cy 544 (dPa v P s k))) (dPv v k) d.2.2 nu := by
      unfold mQ
      rw [hd]
      rfl
    have ev : dPv v k = upd v 0 (nI (dPj k + 1)) := if_pos hv.2.1
    rw [eQ]
    rw [eN] at hH' hI z1
    have hMg' : MP w cy (va_up g 134 (eInts cy 544 (dPa v P s k))) s (dPa v P s k) H T tx2 v nu := by
      obtain ⟨⟨a, b, c⟩, d, e, x, y⟩ := hMg
      exact ⟨⟨(va_up_ne _ _ (by decide)).trans a, (va_up_ne _ _ (by decide)).trans b, (va_up_ne _ _ (by decide)).trans c⟩, va_up_self _ _ _, (va_up_ne _ _ (by decide)).trans e, (va_up_ne _ _ (by decide)).trans x, (va_up_ne _ _ (by decide)).trans y⟩
    refine ⟨_, _, _, _, kpJ k + 1, d.2.2, dPa v P s k, H, T, n, tx, tx2, dPv v k, nu, CI_fr ⟨z1, hI, hO⟩ (fun t ht => (mW_lo ht).trans (va_up_ne _ _ (by omega))), hH', MP_mW hMg', ⟨?_, ?_, ?_⟩, hn, ht⟩
    · rw [ev, upd_eq]
      rfl
    · rw [ev, upd_ne (by decide)]
      exact hv.2.1
    · rw [ev, upd_ne (by decide)]
      exact hv.2.2
end PAIR
