def zCv (y : MethodName) (cc : ByteArray) (nL : Nat) (ret : Option FieldType) (C : String) (n : Nat) : Prop := Cond.code y cc nL ret ∈ zTb ∧ Cond.initialized y.cls ∈ zTb ∧ Cond.instanceMethod y ∈ zTb ∧ Cond.selects C y y ∈ zTb ∧ y.cls = C ∧ y.cls ≠ "java/lang/invoke/MethodHandle" ∧ y.cls ≠ "java/lang/invoke/VarHandle" ∧ (parseMethodDescriptor y.desc).map (fun d => d.parameters.length) = some n
def zCs (y : MethodName) (cc : ByteArray) (nL : Nat) (ret : Option FieldType) (n : Nat) : Prop := Cond.code y cc nL ret ∈ zTb ∧ Cond.initialized y.cls ∈ zTb ∧ Cond.static y ∈ zTb ∧ y.cls ≠ "java/lang/invoke/MethodHandle" ∧ y.cls ≠ "java/lang/invoke/VarHandle" ∧ (parseMethodDescriptor y.desc).map (fun d => d.parameters.length) = some n
def zCi (y : MethodName) (cc : ByteArray) (nL n : Nat) : Prop := Cond.code y cc nL none ∈ zTb ∧ Cond.initialized y.cls ∈ zTb ∧ Cond.instanceMethod y ∈ zTb ∧ y.name = "<init>" ∧ y.cls ≠ "java/lang/invoke/MethodHandle" ∧ y.cls ≠ "java/lang/invoke/VarHandle" ∧ (parseMethodDescriptor y.desc).map (fun d => d.parameters.length) = some n
/-- a contract with one answer and one world behind it; nothing is made -/
def zSd (l : Launch) (D : va_G) (cy : Nat → ClassId) (y : MethodName) (cc : ByteArray) (nL : Nat) (ret : Option FieldType) (fr lo : Nat) (av : List Value) (w : zW) (f : zF) (r : Option Value) (f' : zF) : Prop :=
  zM l D cy y cc nL ret { frames := fr, cells := 0, slots := 0, locals := lo } av w f (fun r0 w' g => w' = w ∧ r0 = r ∧ g = f')
/-- a contract with what is so behind it; nothing is made -/
def zSp (l : Launch) (D : va_G) (cy : Nat → ClassId) (y : MethodName) (cc : ByteArray) (nL : Nat) (ret : Option FieldType) (fr lo : Nat) (av : List Value) (w : zW) (f : zF) (post : Option Value → zF → Prop) : Prop :=
  zM l D cy y cc nL ret { frames := fr, cells := 0, slots := 0, locals := lo } av w f (fun r0 w' g => w' = w ∧ post r0 g)
def zEd (cc : ByteArray) (ret : Option FieldType) (w : zW) (r : Option Value) (f' : zF) (G : zJ) : Prop := zE cc ret w 0 0 (fun r0 w' g => w' = w ∧ r0 = r ∧ g = f') G
section ZS
variable {l : Launch} {D : va_G} {cy : Nat → ClassId} {own : String} {cc : ByteArray} {nL : Nat} {R : Room} {nm : String} {G : zJ} {κ : zκ} {f f' : zF} {ls ls' : List (Nat × Value)} {pc : Nat} {st st' : List Value}
variable {y : MethodName} {ret : Option FieldType} {fr lo : Nat} {av : List Value} {w : zW} {r : Option Value}
theorem zSd.intro (hy : plainName y.cls = true) (hn : (lg_sl av).length ≤ nL)
    (body : ∀ G : zJ, zX l D cy y.cls cc nL { frames := fr, cells := 0, slots := 0, locals := lo } y.name G → zE cc ret w 0 0 (fun r0 w' g => w' = w ∧ r0 = r ∧ g = f') G → G (w, 0, 0) f (lv_args 0 av) 0 []) : zSd l D cy y cc nL ret fr lo av w f r f' := zM.intro hy hn body
theorem zSp.intro {post : Option Value → zF → Prop} (hy : plainName y.cls = true) (hn : (lg_sl av).length ≤ nL)
    (body : ∀ G : zJ, zX l D cy y.cls cc nL { frames := fr, cells := 0, slots := 0, locals := lo } y.name G → zE cc ret w 0 0 (fun r0 w' g => w' = w ∧ post r0 g) G → G (w, 0, 0) f (lv_args 0 av) 0 []) : zSp l D cy y cc nL ret fr lo av w f post := zM.intro hy hn body
theorem zSd.sp {post : Option Value → zF → Prop} (h : zSd l D cy y cc nL ret fr lo av w f r f') (hp : post r f') : zSp l D cy y cc nL ret fr lo av w f post :=
  zM.post h (fun r0 w' g ⟨a, b, c⟩ => ⟨a, by rw [b, c]; exact hp⟩)
theorem zSd.eq {r2 : Option Value} {f2 : zF} (h : zSd l D cy y cc nL ret fr lo av w f r f') (h1 : r = r2) (h2 : f' = f2) : zSd l D cy y cc nL ret fr lo av w f r2 f2 := h1 ▸ h2 ▸ h
theorem zSd.eq0 {f2 : zF} (h : zSd l D cy y cc nL ret fr lo av w f r f') (h2 : f = f2) : zSd l D cy y cc nL ret fr lo av w f2 r f' := h2 ▸ h
theorem zret_i {v v' : Int32} (E : zE cc ret w 0 0 (fun r0 w' g => w' = w ∧ r0 = some (.int v') ∧ g = f') G) (hr : ret = some .int) (d : decode cc pc = .ok (.ireturn, 1)) (hv : v = v') (hf : f = f') : G (w, 0, 0) f ls pc [.int v] :=
  E.1 (w, 0, 0) f ls pc v (Or.inl hr) d (Nat.le_refl _) (Nat.le_refl _) ⟨Nat.le_refl _, fun _ _ => rfl⟩ ⟨rfl, by rw [hv], hf⟩
theorem zret_z {v v' : Int32} (E : zE cc ret w 0 0 (fun r0 w' g => w' = w ∧ r0 = some (.int v') ∧ g = f') G) (hr : ret = some .boolean) (h01 : v = 0 ∨ v = 1) (d : decode cc pc = .ok (.ireturn, 1)) (hv : v = v') (hf : f = f') : G (w, 0, 0) f ls pc [.int v] :=
  E.1 (w, 0, 0) f ls pc v (Or.inr ⟨hr, h01⟩) d (Nat.le_refl _) (Nat.le_refl _) ⟨Nat.le_refl _, fun _ _ => rfl⟩ ⟨rfl, by rw [hv], hf⟩
theorem zret_v (E : zE cc ret w 0 0 (fun r0 w' g => w' = w ∧ r0 = none ∧ g = f') G) (hr : ret = none) (d : decode cc pc = .ok (.return_, 1)) (hf : f = f') : G (w, 0, 0) f ls pc [] :=
  E.2.1 (w, 0, 0) f ls pc hr d (Nat.le_refl _) (Nat.le_refl _) ⟨Nat.le_refl _, fun _ _ => rfl⟩ ⟨rfl, rfl, hf⟩
theorem zret_a {v v' : Value} (E : zE cc ret w 0 0 (fun r0 w' g => w' = w ∧ r0 = some v' ∧ g = f') G) (hr : ∃ n, ret = some (.object n)) (hv9 : v = .null ∨ ∃ a, v = .ref a) (d : decode cc pc = .ok (.areturn, 1)) (hv : v = v') (hf : f = f') : G (w, 0, 0) f ls pc [v] :=
  E.2.2 (w, 0, 0) f ls pc v hr hv9 d (Nat.le_refl _) (Nat.le_refl _) ⟨Nat.le_refl _, fun _ _ => rfl⟩ ⟨rfl, by rw [hv], hf⟩
theorem zretp_i {post : Option Value → zF → Prop} {v : Int32} (E : zE cc ret w 0 0 (fun r0 w' g => w' = w ∧ post r0 g) G) (hr : ret = some .int) (d : decode cc pc = .ok (.ireturn, 1)) (hp : post (some (.int v)) f) : G (w, 0, 0) f ls pc [.int v] :=
  E.1 (w, 0, 0) f ls pc v (Or.inl hr) d (Nat.le_refl _) (Nat.le_refl _) ⟨Nat.le_refl _, fun _ _ => rfl⟩ ⟨rfl, hp⟩
theorem zretp_z {post : Option Value → zF → Prop} {v : Int32} (E : zE cc ret w 0 0 (fun r0 w' g => w' = w ∧ post r0 g) G) (hr : ret = some .boolean) (h01 : v = 0 ∨ v = 1) (d : decode cc pc = .ok (.ireturn, 1)) (hp : post (some (.int v)) f) : G (w, 0, 0) f ls pc [.int v] :=
  E.1 (w, 0, 0) f ls pc v (Or.inr ⟨hr, h01⟩) d (Nat.le_refl _) (Nat.le_refl _) ⟨Nat.le_refl _, fun _ _ => rfl⟩ ⟨rfl, hp⟩
theorem zretp_v {post : Option Value → zF → Prop} (E : zE cc ret w 0 0 (fun r0 w' g => w' = w ∧ post r0 g) G) (hr : ret = none) (d : decode cc pc = .ok (.return_, 1)) (hp : post none f) : G (w, 0, 0) f ls pc [] :=
  E.2.1 (w, 0, 0) f ls pc hr d (Nat.le_refl _) (Nat.le_refl _) ⟨Nat.le_refl _, fun _ _ => rfl⟩ ⟨rfl, hp⟩
theorem zcast {f2 : zF} {ls2 : List (Nat × Value)} (hf : f = f2) (hl : ls = ls2) (k : G κ f2 ls2 pc st) : G κ f ls pc st := hf ▸ hl ▸ k
theorem zdown {P : Nat → Prop} {B : Nat} (hB : P B) (hs : ∀ n, n < B → P (n + 1) → P n) : ∀ n, n ≤ B → P n := by
  intro n hn
  obtain ⟨k, hk⟩ : ∃ k, k = B - n := ⟨_, rfl⟩
  induction k generalizing n with
  | zero => rw [show n = B by omega]; exact hB
  | succ k ih => exact hs n (by omega) (ih (n + 1) (by omega) (by omega))
variable {yc : ByteArray} {yL n index : Nat} {As rest : List Value}
theorem zr_cV (X : zX l D cy own cc nL R nm G) {C : String} {ci : Nat} {q9 : vw_C} {fs : List Value} (hy : zCv y yc yL ret C n) (t : Nat) (ht : t < κ.1.1) (hf : f t = .inr (ci, fs)) (hci : vwCl[ci]? = some q9) (hC : q9.1 = C) (hM : zSd l D cy y yc yL ret fr lo (.ref (κ.1.2 t) :: As) κ.1 f r f') (hr : fr + 1 ≤ R.frames ∧ 8 + (yL + 11) + lo ≤ R.locals) (hk : κ.2.1 ≤ R.cells ∧ κ.2.2 ≤ R.slots) (hn : As.length = n) (hW : (rest.map fun v => v.category).sum ≤ 8) (hlink : Cond.methodLink own index y ∈ zTb) (hst : st = As.reverse ++ .ref (κ.1.2 t) :: rest) (d : decode cc pc = .ok (.invokevirtual index, 3)) (hst' : r.toList ++ rest = st') (k : G κ f' ls (pc + 3) st') : G κ f ls pc st := by
  obtain ⟨h1, h2, h3, h4, h5⟩ := hy
  refine zr_callV X t ht hf hci hC hM h5 h1 h2 ⟨hr.1, hr.2, hk⟩ hn hW hlink h3 h4 hst d (fun r0 w' g hq => ?_)
  obtain ⟨rfl, rfl, rfl⟩ := hq
  rw [hst']
  exact k
theorem zr_cS (X : zX l D cy own cc nL R nm G) (hy : zCs y yc yL ret n) (hM : zSd l D cy y yc yL ret fr lo As κ.1 f r f') (hr : fr + 1 ≤ R.frames ∧ 8 + (yL + 11) + lo ≤ R.locals) (hk : κ.2.1 ≤ R.cells ∧ κ.2.2 ≤ R.slots) (hn : As.length = n) (hW : (rest.map fun v => v.category).sum ≤ 8) (hlink : Cond.methodLink own index y ∈ zTb) (hst : st = As.reverse ++ rest) (d : decode cc pc = .ok (.invokestatic index, 3)) (hst' : r.toList ++ rest = st') (k : G κ f' ls (pc + 3) st') : G κ f ls pc st := by
  obtain ⟨h1, h2, h3, h5⟩ := hy
  refine zr_callS X hM h5 h1 h2 ⟨hr.1, hr.2, hk⟩ hn hW hlink h3 hst d (fun r0 w' g hq => ?_)
  obtain ⟨rfl, rfl, rfl⟩ := hq
  rw [hst']
  exact k
theorem zr_cSN (X : zX l D cy own cc nL R nm G) {host : String} (hy : zCs y yc yL ret n) (hM : zSd l D cy y yc yL ret fr lo As κ.1 f r f') (hr : fr + 1 ≤ R.frames ∧ 8 + (yL + 11) + lo ≤ R.locals) (hk : κ.2.1 ≤ R.cells ∧ κ.2.2 ≤ R.slots) (hn : As.length = n) (hW : (rest.map fun v => v.category).sum ≤ 8) (hlink : Cond.methodLinkNest own index y host ∈ zNests) (hst : st = As.reverse ++ rest) (d : decode cc pc = .ok (.invokestatic index, 3)) (hst' : r.toList ++ rest = st') (k : G κ f' ls (pc + 3) st') : G κ f ls pc st := by
  obtain ⟨h1, h2, h3, h5⟩ := hy
  refine zr_callSN X hM h5 h1 h2 ⟨hr.1, hr.2, hk⟩ hn hW hlink h3 hst d (fun r0 w' g hq => ?_)
  obtain ⟨rfl, rfl, rfl⟩ := hq
  rw [hst']
  exact k
theorem zr_cVp (X : zX l D cy own cc nL R nm G) {post : Option Value → zF → Prop} {C : String} {ci : Nat} {q9 : vw_C} {fs : List Value} (hy : zCv y yc yL ret C n) (t : Nat) (ht : t < κ.1.1) (hf : f t = .inr (ci, fs)) (hci : vwCl[ci]? = some q9) (hC : q9.1 = C) (hM : zSp l D cy y yc yL ret fr lo (.ref (κ.1.2 t) :: As) κ.1 f post) (hr : fr + 1 ≤ R.frames ∧ 8 + (yL + 11) + lo ≤ R.locals) (hk : κ.2.1 ≤ R.cells ∧ κ.2.2 ≤ R.slots) (hn : As.length = n) (hW : (rest.map fun v => v.category).sum ≤ 8) (hlink : Cond.methodLink own index y ∈ zTb) (hst : st = As.reverse ++ .ref (κ.1.2 t) :: rest) (d : decode cc pc = .ok (.invokevirtual index, 3)) (k : ∀ (r : Option Value) (f' : zF), post r f' → G κ f' ls (pc + 3) (r.toList ++ rest)) : G κ f ls pc st := by
  obtain ⟨h1, h2, h3, h4, h5⟩ := hy
  refine zr_callV X t ht hf hci hC hM h5 h1 h2 ⟨hr.1, hr.2, hk⟩ hn hW hlink h3 h4 hst d (fun r0 w' g hq => ?_)
  obtain ⟨rfl, hp⟩ := hq
  exact k r0 g hp
end ZS
theorem zfd_RX7_9 : zFd RX7 9 7 0 := ⟨_, _, _, _, rfl, zin_X7, by decide, zm_1_37, rfl⟩
theorem zfd_RX3_7 : zFd RX3 7 3 0 := ⟨_, _, _, _, rfl, zin_X3, by decide, zm_1_48, rfl⟩
theorem zfd_RX3_13 : zFd RX3 13 3 1 := ⟨_, _, _, _, rfl, zin_X3, by decide, zm_1_51, rfl⟩
theorem zfd_RX3_16 : zFd RX3 16 3 2 := ⟨_, _, _, _, rfl, zin_X3, by decide, zm_1_53, rfl⟩
theorem zfd_RX3_19 : zFd RX3 19 3 3 := ⟨_, _, _, _, rfl, zin_X3, by decide, zm_1_55, rfl⟩
theorem zfd_RX3_22 : zFd RX3 22 3 4 := ⟨_, _, _, _, rfl, zin_X3, by decide, zm_1_58, rfl⟩
theorem zfd_RX3_25 : zFd RX3 25 3 5 := ⟨_, _, _, _, rfl, zin_X3, by decide, zm_1_60, rfl⟩
theorem zfd_RX3_28 : zFd RX3 28 3 6 := ⟨_, _, _, _, rfl, zin_X3, by decide, zm_1_62, rfl⟩
theorem zfd_RX3_31 : zFd RX3 31 3 7 := ⟨_, _, _, _, rfl, zin_X3, by decide, zm_1_64, rfl⟩
theorem zfd_RX3_34 : zFd RX3 34 3 8 := ⟨_, _, _, _, rfl, zin_X3, by decide, zm_1_67, rfl⟩
theorem zfd_RX3_37 : zFd RX3 37 3 9 := ⟨_, _, _, _, rfl, zin_X3, by decide, zm_1_69, rfl⟩
theorem zfd_RX6_9 : zFd RX6 9 6 0 := ⟨_, _, _, _, rfl, zin_X6, by decide, zm_1_98, rfl⟩
theorem zfd_RX6_15 : zFd RX6 15 6 1 := ⟨_, _, _, _, rfl, zin_X6, by decide, zm_1_100, rfl⟩
theorem zfd_RX6_18 : zFd RX6 18 6 2 := ⟨_, _, _, _, rfl, zin_X6, by decide, zm_1_102, rfl⟩
theorem zfd_RX6_21 : zFd RX6 21 6 3 := ⟨_, _, _, _, rfl, zin_X6, by decide, zm_1_104, rfl⟩
theorem zfd_RX4_9 : zFd RX4 9 4 0 := ⟨_, _, _, _, rfl, zin_X4, by decide, zm_1_120, rfl⟩
theorem zfd_RX4_15 : zFd RX4 15 4 1 := ⟨_, _, _, _, rfl, zin_X4, by decide, zm_1_123, rfl⟩
theorem zfd_RX4_18 : zFd RX4 18 4 2 := ⟨_, _, _, _, rfl, zin_X4, by decide, zm_1_124, rfl⟩
theorem zfd_RX4_21 : zFd RX4 21 4 3 := ⟨_, _, _, _, rfl, zin_X4, by decide, zm_1_126, rfl⟩
theorem zfd_RX4_24 : zFd RX4 24 4 4 := ⟨_, _, _, _, rfl, zin_X4, by decide, zm_1_127, rfl⟩
theorem zfd_RX4_27 : zFd RX4 27 4 5 := ⟨_, _, _, _, rfl, zin_X4, by decide, zm_1_129, rfl⟩
theorem zfd_RX4_30 : zFd RX4 30 4 6 := ⟨_, _, _, _, rfl, zin_X4, by decide, zm_1_131, rfl⟩
theorem zfd_RX4_33 : zFd RX4 33 4 7 := ⟨_, _, _, _, rfl, zin_X4, by decide, zm_1_133, rfl⟩
theorem zfd_RX4_36 : zFd RX4 36 4 8 := ⟨_, _, _, _, rfl, zin_X4, by decide, zm_1_134, rfl⟩
theorem zfd_RX0_9 : zFd RX0 9 0 0 := ⟨_, _, _, _, rfl, zin_X0, by decide, zm_1_159, rfl⟩
theorem zfd_RX0_15 : zFd RX0 15 0 1 := ⟨_, _, _, _, rfl, zin_X0, by decide, zm_1_162, rfl⟩
theorem zfd_RX0_18 : zFd RX0 18 0 2 := ⟨_, _, _, _, rfl, zin_X0, by decide, zm_1_164, rfl⟩
theorem zfd_RX0_21 : zFd RX0 21 0 3 := ⟨_, _, _, _, rfl, zin_X0, by decide, zm_1_165, rfl⟩
theorem zfd_RX0_24 : zFd RX0 24 0 4 := ⟨_, _, _, _, rfl, zin_X0, by decide, zm_1_166, rfl⟩
theorem zfd_RX0_27 : zFd RX0 27 0 5 := ⟨_, _, _, _, rfl, zin_X0, by decide, zm_1_168, rfl⟩
theorem zfd_RX2_11 : zFd RX2 11 2 0 := ⟨_, _, _, _, rfl, zin_X2, by decide, zm_1_183, rfl⟩
theorem zfd_RX2_19 : zFd RX2 19 2 1 := ⟨_, _, _, _, rfl, zin_X2, by decide, zm_1_184, rfl⟩
theorem zfd_RX2_26 : zFd RX2 26 2 2 := ⟨_, _, _, _, rfl, zin_X2, by decide, zm_1_185, rfl⟩
theorem zfd_RX2_33 : zFd RX2 33 2 3 := ⟨_, _, _, _, rfl, zin_X2, by decide, zm_1_187, rfl⟩
theorem zfd_RX2_40 : zFd RX2 40 2 4 := ⟨_, _, _, _, rfl, zin_X2, by decide, zm_1_189, rfl⟩
theorem zfd_RX2_50 : zFd RX2 50 2 5 := ⟨_, _, _, _, rfl, zin_X2, by decide, zm_1_191, rfl⟩
theorem zfd_RX2_53 : zFd RX2 53 2 6 := ⟨_, _, _, _, rfl, zin_X2, by decide, zm_1_192, rfl⟩
theorem zfd_RX2_56 : zFd RX2 56 2 7 := ⟨_, _, _, _, rfl, zin_X2, by decide, zm_1_193, rfl⟩
theorem zfd_RX2_59 : zFd RX2 59 2 8 := ⟨_, _, _, _, rfl, zin_X2, by decide, zm_1_194, rfl⟩
theorem zfd_RX2_44 : zFd RX2 44 2 9 := ⟨_, _, _, _, rfl, zin_X2, by decide, zm_1_196, rfl⟩
theorem zfd_RX1_11 : zFd RX1 11 1 0 := ⟨_, _, _, _, rfl, zin_X1, by decide, zm_1_227, rfl⟩
theorem zfd_RX1_18 : zFd RX1 18 1 1 := ⟨_, _, _, _, rfl, zin_X1, by decide, zm_1_228, rfl⟩
theorem zfd_RX5_9 : zFd RX5 9 5 0 := ⟨_, _, _, _, rfl, zin_X5, by decide, zm_2_1, rfl⟩
theorem zfd_RX5_15 : zFd RX5 15 5 1 := ⟨_, _, _, _, rfl, zin_X5, by decide, zm_2_2, rfl⟩
theorem zfd_RX5_19 : zFd RX5 19 5 2 := ⟨_, _, _, _, rfl, zin_X5, by decide, zm_2_3, rfl⟩
theorem zfd_RX5_24 : zFd RX5 24 5 3 := ⟨_, _, _, _, rfl, zin_X5, by decide, zm_2_5, rfl⟩
theorem zfd_RX5_37 : zFd RX5 37 5 4 := ⟨_, _, _, _, rfl, zin_X5, by decide, zm_2_7, rfl⟩
theorem zfd_RX5_27 : zFd RX5 27 5 5 := ⟨_, _, _, _, rfl, zin_X5, by decide, zm_2_8, rfl⟩
theorem zfd_RX5_30 : zFd RX5 30 5 6 := ⟨_, _, _, _, rfl, zin_X5, by decide, zm_2_10, rfl⟩
theorem zfd_RX8_10 : zFd RX8 10 8 0 := ⟨_, _, _, _, rfl, zin_X8, by decide, zm_2_28, rfl⟩
theorem zfd_RX8_16 : zFd RX8 16 8 1 := ⟨_, _, _, _, rfl, zin_X8, by decide, zm_2_29, rfl⟩
theorem zfd_RX8_22 : zFd RX8 22 8 2 := ⟨_, _, _, _, rfl, zin_X8, by decide, zm_2_30, rfl⟩
theorem zfd_RX8_29 : zFd RX8 29 8 3 := ⟨_, _, _, _, rfl, zin_X8, by decide, zm_2_31, rfl⟩
theorem zfd_RX9_7 : zFd RX9 7 9 0 := ⟨_, _, _, _, rfl, zin_X9, by decide, zm_3_177, rfl⟩
theorem zfd_RX9_13 : zFd RX9 13 9 1 := ⟨_, _, _, _, rfl, zin_X9, by decide, zm_3_178, rfl⟩
theorem zfd_RX9_16 : zFd RX9 16 9 2 := ⟨_, _, _, _, rfl, zin_X9, by decide, zm_3_179, rfl⟩
theorem zfd_RX9_19 : zFd RX9 19 9 3 := ⟨_, _, _, _, rfl, zin_X9, by decide, zm_3_180, rfl⟩
theorem zfd_RX9_32 : zFd RX9 32 9 4 := ⟨_, _, _, _, rfl, zin_X9, by decide, zm_3_181, rfl⟩
theorem zfd_RX9_28 : zFd RX9 28 9 5 := ⟨_, _, _, _, rfl, zin_X9, by decide, zm_3_182, rfl⟩
theorem zfd_RX9_22 : zFd RX9 22 9 6 := ⟨_, _, _, _, rfl, zin_X9, by decide, zm_3_183, rfl⟩
theorem zfd_RX9_133 : zFd RX9 133 9 7 := ⟨_, _, _, _, rfl, zin_X9, by decide, zm_3_184, rfl⟩
theorem zfd_RX9_136 : zFd RX9 136 9 8 := ⟨_, _, _, _, rfl, zin_X9, by decide, zm_3_185, rfl⟩
theorem zfd_RX9_170 : zFd RX9 170 9 9 := ⟨_, _, _, _, rfl, zin_X9, by decide, zm_3_186, rfl⟩
theorem zfd_RX9_183 : zFd RX9 183 9 10 := ⟨_, _, _, _, rfl, zin_X9, by decide, zm_3_187, rfl⟩
theorem zfd_RX9_186 : zFd RX9 186 9 11 := ⟨_, _, _, _, rfl, zin_X9, by decide, zm_3_188, rfl⟩
theorem zfd_RX9_173 : zFd RX9 173 9 12 := ⟨_, _, _, _, rfl, zin_X9, by decide, zm_3_189, rfl⟩
theorem zfd_RX9_142 : zFd RX9 142 9 13 := ⟨_, _, _, _, rfl, zin_X9, by decide, zm_3_190, rfl⟩
theorem zfd_RX9_25 : zFd RX9 25 9 14 := ⟨_, _, _, _, rfl, zin_X9, by decide, zm_3_191, rfl⟩
theorem zfn_RX2_128 : zFn RX2 128 3 0 := ⟨_, _, _, _, _, rfl, zin_X3, by decide, List.mem_of_getElem? (i := 0) rfl, rfl⟩
theorem zfn_RX8_151 : zFn RX8 151 3 0 := ⟨_, _, _, _, _, rfl, zin_X3, by decide, List.mem_of_getElem? (i := 1) rfl, rfl⟩
theorem zfn_RX2_105 : zFn RX2 105 3 1 := ⟨_, _, _, _, _, rfl, zin_X3, by decide, List.mem_of_getElem? (i := 2) rfl, rfl⟩
theorem zfn_RX2_122 : zFn RX2 122 3 2 := ⟨_, _, _, _, _, rfl, zin_X3, by decide, List.mem_of_getElem? (i := 3) rfl, rfl⟩
theorem zfn_RX2_145 : zFn RX2 145 3 3 := ⟨_, _, _, _, _, rfl, zin_X3, by decide, List.mem_of_getElem? (i := 4) rfl, rfl⟩
theorem zfn_RX8_148 : zFn RX8 148 3 3 := ⟨_, _, _, _, _, rfl, zin_X3, by decide, List.mem_of_getElem? (i := 5) rfl, rfl⟩
theorem zfn_RX2_171 : zFn RX2 171 3 4 := ⟨_, _, _, _, _, rfl, zin_X3, by decide, List.mem_of_getElem? (i := 6) rfl, rfl⟩
theorem zfn_RX2_197 : zFn RX2 197 3 5 := ⟨_, _, _, _, _, rfl, zin_X3, by decide, List.mem_of_getElem? (i := 7) rfl, rfl⟩
theorem zfn_RX2_154 : zFn RX2 154 3 6 := ⟨_, _, _, _, _, rfl, zin_X3, by decide, List.mem_of_getElem? (i := 8) rfl, rfl⟩
theorem zfn_RX8_128 : zFn RX8 128 3 7 := ⟨_, _, _, _, _, rfl, zin_X3, by decide, List.mem_of_getElem? (i := 9) rfl, rfl⟩
theorem zfn_RX2_213 : zFn RX2 213 3 7 := ⟨_, _, _, _, _, rfl, zin_X3, by decide, List.mem_of_getElem? (i := 10) rfl, rfl⟩
theorem zfn_RX2_220 : zFn RX2 220 3 8 := ⟨_, _, _, _, _, rfl, zin_X3, by decide, List.mem_of_getElem? (i := 11) rfl, rfl⟩
theorem zfn_RX2_131 : zFn RX2 131 3 9 := ⟨_, _, _, _, _, rfl, zin_X3, by decide, List.mem_of_getElem? (i := 12) rfl, rfl⟩
theorem zfn_RX2_108 : zFn RX2 108 6 0 := ⟨_, _, _, _, _, rfl, zin_X6, by decide, List.mem_of_getElem? (i := 13) rfl, rfl⟩
theorem zfn_RX2_111 : zFn RX2 111 6 1 := ⟨_, _, _, _, _, rfl, zin_X6, by decide, List.mem_of_getElem? (i := 14) rfl, rfl⟩
theorem zfn_RX2_203 : zFn RX2 203 6 2 := ⟨_, _, _, _, _, rfl, zin_X6, by decide, List.mem_of_getElem? (i := 15) rfl, rfl⟩
theorem zfn_RX2_151 : zFn RX2 151 6 3 := ⟨_, _, _, _, _, rfl, zin_X6, by decide, List.mem_of_getElem? (i := 16) rfl, rfl⟩
theorem zfn_RX2_102 : zFn RX2 102 4 0 := ⟨_, _, _, _, _, rfl, zin_X4, by decide, List.mem_of_getElem? (i := 17) rfl, rfl⟩
theorem zfn_RX8_137 : zFn RX8 137 4 0 := ⟨_, _, _, _, _, rfl, zin_X4, by decide, List.mem_of_getElem? (i := 18) rfl, rfl⟩
theorem zfn_RX2_99 : zFn RX2 99 4 2 := ⟨_, _, _, _, _, rfl, zin_X4, by decide, List.mem_of_getElem? (i := 19) rfl, rfl⟩
theorem zfn_RX2_227 : zFn RX2 227 4 4 := ⟨_, _, _, _, _, rfl, zin_X4, by decide, List.mem_of_getElem? (i := 20) rfl, rfl⟩
theorem zfn_RX2_183 : zFn RX2 183 4 5 := ⟨_, _, _, _, _, rfl, zin_X4, by decide, List.mem_of_getElem? (i := 21) rfl, rfl⟩
theorem zfn_RX2_125 : zFn RX2 125 4 6 := ⟨_, _, _, _, _, rfl, zin_X4, by decide, List.mem_of_getElem? (i := 22) rfl, rfl⟩
theorem zfn_RX2_86 : zFn RX2 86 0 0 := ⟨_, _, _, _, _, rfl, zin_X0, by decide, List.mem_of_getElem? (i := 23) rfl, rfl⟩
theorem zfn_RX8_99 : zFn RX8 99 0 0 := ⟨_, _, _, _, _, rfl, zin_X0, by decide, List.mem_of_getElem? (i := 24) rfl, rfl⟩
theorem zfn_RX2_214 : zFn RX2 214 0 1 := ⟨_, _, _, _, _, rfl, zin_X0, by decide, List.mem_of_getElem? (i := 25) rfl, rfl⟩
theorem zfn_RX2_217 : zFn RX2 217 0 4 := ⟨_, _, _, _, _, rfl, zin_X0, by decide, List.mem_of_getElem? (i := 26) rfl, rfl⟩
theorem zfn_RX2_210 : zFn RX2 210 0 5 := ⟨_, _, _, _, _, rfl, zin_X0, by decide, List.mem_of_getElem? (i := 27) rfl, rfl⟩
theorem zfn_RX8_106 : zFn RX8 106 2 2 := ⟨_, _, _, _, _, rfl, zin_X2, by decide, List.mem_of_getElem? (i := 28) rfl, rfl⟩
theorem zfn_RX8_124 : zFn RX8 124 2 3 := ⟨_, _, _, _, _, rfl, zin_X2, by decide, List.mem_of_getElem? (i := 29) rfl, rfl⟩
theorem zfn_RX8_64 : zFn RX8 64 2 4 := ⟨_, _, _, _, _, rfl, zin_X2, by decide, List.mem_of_getElem? (i := 30) rfl, rfl⟩
theorem zfn_RX8_90 : zFn RX8 90 2 8 := ⟨_, _, _, _, _, rfl, zin_X2, by decide, List.mem_of_getElem? (i := 31) rfl, rfl⟩
theorem zfn_RX8_164 : zFn RX8 164 1 1 := ⟨_, _, _, _, _, rfl, zin_X1, by decide, List.mem_of_getElem? (i := 32) rfl, rfl⟩
theorem zfn_RX8_167 : zFn RX8 167 5 2 := ⟨_, _, _, _, _, rfl, zin_X5, by decide, List.mem_of_getElem? (i := 33) rfl, rfl⟩
theorem zfn_RX8_190 : zFn RX8 190 5 3 := ⟨_, _, _, _, _, rfl, zin_X5, by decide, List.mem_of_getElem? (i := 34) rfl, rfl⟩
theorem zfn_RX8_187 : zFn RX8 187 5 5 := ⟨_, _, _, _, _, rfl, zin_X5, by decide, List.mem_of_getElem? (i := 35) rfl, rfl⟩
theorem zfn_RX8_193 : zFn RX8 193 5 6 := ⟨_, _, _, _, _, rfl, zin_X5, by decide, List.mem_of_getElem? (i := 36) rfl, rfl⟩
theorem zty_0_0 : zTy 0 0 false RX0 .int := ⟨_, _, _, _, rfl, tyX0_ok, nmX0, rfl, fun _ => rfl, by decide +kernel⟩
theorem zty_0_1 : zTy 0 1 false RX0 .int := ⟨_, _, _, _, rfl, tyX0_ok, nmX0, rfl, fun _ => rfl, by decide +kernel⟩
theorem zty_0_2 : zTy 0 2 false RX0 .int := ⟨_, _, _, _, rfl, tyX0_ok, nmX0, rfl, fun _ => rfl, by decide +kernel⟩
theorem zty_0_3 : zTy 0 3 false RX0 .int := ⟨_, _, _, _, rfl, tyX0_ok, nmX0, rfl, fun _ => rfl, by decide +kernel⟩
theorem zty_0_4 : zTy 0 4 false RX0 .int := ⟨_, _, _, _, rfl, tyX0_ok, nmX0, rfl, fun _ => rfl, by decide +kernel⟩
theorem zty_0_5 : zTy 0 5 false RX0 .int := ⟨_, _, _, _, rfl, tyX0_ok, nmX0, rfl, fun _ => rfl, by decide +kernel⟩
theorem zty_1_0 : zTy 1 0 true RX1 (.array (.object "HutLoaves$Hut")) := ⟨_, _, _, _, rfl, tyX1_ok, nmX1, rfl, fun _ => rfl, by decide +kernel⟩
theorem zty_1_1 : zTy 1 1 false RX1 .int := ⟨_, _, _, _, rfl, tyX1_ok, nmX1, rfl, fun _ => rfl, by decide +kernel⟩
theorem zty_2_0 : zTy 2 0 true RX2 (.array (.object "HutLoaves$Mule")) := ⟨_, _, _, _, rfl, tyX2_ok, nmX2, rfl, fun _ => rfl, by decide +kernel⟩
theorem zty_2_1 : zTy 2 1 true RX2 (.array (.object "HutLoaves$Group")) := ⟨_, _, _, _, rfl, tyX2_ok, nmX2, rfl, fun _ => rfl, by decide +kernel⟩
theorem zty_2_2 : zTy 2 2 true RX2 (.object "HutLoaves$Shelf") := ⟨_, _, _, _, rfl, tyX2_ok, nmX2, rfl, fun _ => rfl, by decide +kernel⟩
theorem zty_2_3 : zTy 2 3 true RX2 (.object "HutLoaves$Ledger") := ⟨_, _, _, _, rfl, tyX2_ok, nmX2, rfl, fun _ => rfl, by decide +kernel⟩
theorem zty_2_4 : zTy 2 4 true RX2 (.object "HutLoaves$Settings") := ⟨_, _, _, _, rfl, tyX2_ok, nmX2, rfl, fun _ => rfl, by decide +kernel⟩
theorem zty_2_5 : zTy 2 5 false RX2 .int := ⟨_, _, _, _, rfl, tyX2_ok, nmX2, rfl, fun _ => rfl, by decide +kernel⟩
theorem zty_2_6 : zTy 2 6 false RX2 .int := ⟨_, _, _, _, rfl, tyX2_ok, nmX2, rfl, fun _ => rfl, by decide +kernel⟩
theorem zty_2_7 : zTy 2 7 false RX2 .int := ⟨_, _, _, _, rfl, tyX2_ok, nmX2, rfl, fun _ => rfl, by decide +kernel⟩
theorem zty_2_8 : zTy 2 8 false RX2 .int := ⟨_, _, _, _, rfl, tyX2_ok, nmX2, rfl, fun _ => rfl, by decide +kernel⟩
theorem zty_2_9 : zTy 2 9 false RX2 .int := ⟨_, _, _, _, rfl, tyX2_ok, nmX2, rfl, fun _ => rfl, by decide +kernel⟩
theorem zty_3_0 : zTy 3 0 false RX3 .int := ⟨_, _, _, _, rfl, tyX3_ok, nmX3, rfl, fun _ => rfl, by decide +kernel⟩
theorem zty_3_1 : zTy 3 1 false RX3 .int := ⟨_, _, _, _, rfl, tyX3_ok, nmX3, rfl, fun _ => rfl, by decide +kernel⟩
theorem zty_3_2 : zTy 3 2 false RX3 .int := ⟨_, _, _, _, rfl, tyX3_ok, nmX3, rfl, fun _ => rfl, by decide +kernel⟩
theorem zty_3_3 : zTy 3 3 false RX3 .int := ⟨_, _, _, _, rfl, tyX3_ok, nmX3, rfl, fun _ => rfl, by decide +kernel⟩
theorem zty_3_4 : zTy 3 4 false RX3 .int := ⟨_, _, _, _, rfl, tyX3_ok, nmX3, rfl, fun _ => rfl, by decide +kernel⟩
theorem zty_3_5 : zTy 3 5 false RX3 .int := ⟨_, _, _, _, rfl, tyX3_ok, nmX3, rfl, fun _ => rfl, by decide +kernel⟩
theorem zty_3_6 : zTy 3 6 false RX3 .int := ⟨_, _, _, _, rfl, tyX3_ok, nmX3, rfl, fun _ => rfl, by decide +kernel⟩
theorem zty_3_7 : zTy 3 7 false RX3 .int := ⟨_, _, _, _, rfl, tyX3_ok, nmX3, rfl, fun _ => rfl, by decide +kernel⟩
theorem zty_3_8 : zTy 3 8 false RX3 .int := ⟨_, _, _, _, rfl, tyX3_ok, nmX3, rfl, fun _ => rfl, by decide +kernel⟩
theorem zty_3_9 : zTy 3 9 false RX3 .int := ⟨_, _, _, _, rfl, tyX3_ok, nmX3, rfl, fun _ => rfl, by decide +kernel⟩
theorem zty_4_0 : zTy 4 0 false RX4 .int := ⟨_, _, _, _, rfl, tyX4_ok, nmX4, rfl, fun _ => rfl, by decide +kernel⟩
theorem zty_4_1 : zTy 4 1 false RX4 .int := ⟨_, _, _, _, rfl, tyX4_ok, nmX4, rfl, fun _ => rfl, by decide +kernel⟩
theorem zty_4_2 : zTy 4 2 false RX4 .int := ⟨_, _, _, _, rfl, tyX4_ok, nmX4, rfl, fun _ => rfl, by decide +kernel⟩
theorem zty_4_3 : zTy 4 3 false RX4 .int := ⟨_, _, _, _, rfl, tyX4_ok, nmX4, rfl, fun _ => rfl, by decide +kernel⟩
theorem zty_4_4 : zTy 4 4 false RX4 .int := ⟨_, _, _, _, rfl, tyX4_ok, nmX4, rfl, fun _ => rfl, by decide +kernel⟩
theorem zty_4_5 : zTy 4 5 false RX4 .int := ⟨_, _, _, _, rfl, tyX4_ok, nmX4, rfl, fun _ => rfl, by decide +kernel⟩
theorem zty_4_6 : zTy 4 6 false RX4 .int := ⟨_, _, _, _, rfl, tyX4_ok, nmX4, rfl, fun _ => rfl, by decide +kernel⟩
theorem zty_4_7 : zTy 4 7 false RX4 .int := ⟨_, _, _, _, rfl, tyX4_ok, nmX4, rfl, fun _ => rfl, by decide +kernel⟩
theorem zty_4_8 : zTy 4 8 false RX4 .int := ⟨_, _, _, _, rfl, tyX4_ok, nmX4, rfl, fun _ => rfl, by decide +kernel⟩
theorem zty_5_0 : zTy 5 0 true RX5 (.array .char) := ⟨_, _, _, _, rfl, tyX5_ok, nmX5, rfl, fun _ => rfl, by decide +kernel⟩
theorem zty_5_1 : zTy 5 1 true RX5 (.array .int) := ⟨_, _, _, _, rfl, tyX5_ok, nmX5, rfl, fun _ => rfl, by decide +kernel⟩
theorem zty_5_2 : zTy 5 2 false RX5 .int := ⟨_, _, _, _, rfl, tyX5_ok, nmX5, rfl, fun _ => rfl, by decide +kernel⟩
theorem zty_5_3 : zTy 5 3 false RX5 .int := ⟨_, _, _, _, rfl, tyX5_ok, nmX5, rfl, fun _ => rfl, by decide +kernel⟩
theorem zty_5_4 : zTy 5 4 false RX5 .int := ⟨_, _, _, _, rfl, tyX5_ok, nmX5, rfl, fun _ => rfl, by decide +kernel⟩
theorem zty_5_5 : zTy 5 5 false RX5 .int := ⟨_, _, _, _, rfl, tyX5_ok, nmX5, rfl, fun _ => rfl, by decide +kernel⟩
theorem zty_5_6 : zTy 5 6 false RX5 .int := ⟨_, _, _, _, rfl, tyX5_ok, nmX5, rfl, fun _ => rfl, by decide +kernel⟩
theorem zty_6_0 : zTy 6 0 false RX6 .int := ⟨_, _, _, _, rfl, tyX6_ok, nmX6, rfl, fun _ => rfl, by decide +kernel⟩
theorem zty_6_1 : zTy 6 1 false RX6 .int := ⟨_, _, _, _, rfl, tyX6_ok, nmX6, rfl, fun _ => rfl, by decide +kernel⟩
theorem zty_6_2 : zTy 6 2 false RX6 .int := ⟨_, _, _, _, rfl, tyX6_ok, nmX6, rfl, fun _ => rfl, by decide +kernel⟩
theorem zty_6_3 : zTy 6 3 false RX6 .int := ⟨_, _, _, _, rfl, tyX6_ok, nmX6, rfl, fun _ => rfl, by decide +kernel⟩
theorem zty_7_0 : zTy 7 0 true RX7 (.array .int) := ⟨_, _, _, _, rfl, tyX7_ok, nmX7, rfl, fun _ => rfl, by decide +kernel⟩
theorem zty_8_0 : zTy 8 0 true RX8 (.object "HutLoaves$Hut") := ⟨_, _, _, _, rfl, tyX8_ok, nmX8, rfl, fun _ => rfl, by decide +kernel⟩
theorem zty_8_1 : zTy 8 1 true RX8 (.object "HutLoaves$Hut") := ⟨_, _, _, _, rfl, tyX8_ok, nmX8, rfl, fun _ => rfl, by decide +kernel⟩
theorem zty_8_2 : zTy 8 2 true RX8 (.object "HutLoaves$History") := ⟨_, _, _, _, rfl, tyX8_ok, nmX8, rfl, fun _ => rfl, by decide +kernel⟩
theorem zty_8_3 : zTy 8 3 true RX8 (.object "HutLoaves$Orders") := ⟨_, _, _, _, rfl, tyX8_ok, nmX8, rfl, fun _ => rfl, by decide +kernel⟩
theorem zty_9_0 : zTy 9 0 true RX9 (.array .int) := ⟨_, _, _, _, rfl, tyX9_ok, nmX9, rfl, fun _ => rfl, by decide +kernel⟩
theorem zty_9_1 : zTy 9 1 true RX9 (.array .int) := ⟨_, _, _, _, rfl, tyX9_ok, nmX9, rfl, fun _ => rfl, by decide +kernel⟩
theorem zty_9_2 : zTy 9 2 true RX9 (.array .int) := ⟨_, _, _, _, rfl, tyX9_ok, nmX9, rfl, fun _ => rfl, by decide +kernel⟩
theorem zty_9_3 : zTy 9 3 true RX9 (.array .int) := ⟨_, _, _, _, rfl, tyX9_ok, nmX9, rfl, fun _ => rfl, by decide +kernel⟩
theorem zty_9_4 : zTy 9 4 false RX9 .int := ⟨_, _, _, _, rfl, tyX9_ok, nmX9, rfl, fun _ => rfl, by decide +kernel⟩
theorem zty_9_5 : zTy 9 5 false RX9 .boolean := ⟨_, _, _, _, rfl, tyX9_ok, nmX9, rfl, fun _ => rfl, by decide +kernel⟩
theorem zty_9_6 : zTy 9 6 true RX9 (.array .int) := ⟨_, _, _, _, rfl, tyX9_ok, nmX9, rfl, fun _ => rfl, by decide +kernel⟩
theorem zty_9_7 : zTy 9 7 false RX9 .int := ⟨_, _, _, _, rfl, tyX9_ok, nmX9, rfl, fun _ => rfl, by decide +kernel⟩
theorem zty_9_8 : zTy 9 8 false RX9 .int := ⟨_, _, _, _, rfl, tyX9_ok, nmX9, rfl, fun _ => rfl, by decide +kernel⟩
theorem zty_9_9 : zTy 9 9 false RX9 .int := ⟨_, _, _, _, rfl, tyX9_ok, nmX9, rfl, fun _ => rfl, by decide +kernel⟩
theorem zty_9_10 : zTy 9 10 false RX9 .int := ⟨_, _, _, _, rfl, tyX9_ok, nmX9, rfl, fun _ => rfl, by decide +kernel⟩
theorem zty_9_11 : zTy 9 11 false RX9 .int := ⟨_, _, _, _, rfl, tyX9_ok, nmX9, rfl, fun _ => rfl, by decide +kernel⟩
theorem zty_9_12 : zTy 9 12 false RX9 .int := ⟨_, _, _, _, rfl, tyX9_ok, nmX9, rfl, fun _ => rfl, by decide +kernel⟩
theorem zty_9_13 : zTy 9 13 false RX9 .int := ⟨_, _, _, _, rfl, tyX9_ok, nmX9, rfl, fun _ => rfl, by decide +kernel⟩
theorem zty_9_14 : zTy 9 14 true RX9 (.array .int) := ⟨_, _, _, _, rfl, tyX9_ok, nmX9, rfl, fun _ => rfl, by decide +kernel⟩
theorem zc_X0_init : zCi yX0_init cX0_init 1 0 := ⟨zm_1_157, zm_1_7, zm_1_156, rfl, by decide, by decide, by decide +kernel⟩
theorem zc_X0_copyFrom : zCv yX0_copyFrom cX0_copyFrom 2 none RX0 1 := ⟨zm_2_76, zm_1_7, zm_2_74, zm_2_75, rfl, by decide, by decide, by decide +kernel⟩
theorem zc_X0_begin : zCv yX0_begin cX0_begin 5 none RX0 4 := ⟨zm_2_147, zm_1_7, zm_2_145, zm_2_146, rfl, by decide, by decide, by decide +kernel⟩
theorem zc_X0_loavesADay : zCv yX0_loavesADay cX0_loavesADay 1 (some .int) RX0 0 := ⟨zm_2_210, zm_1_7, zm_2_208, zm_2_209, rfl, by decide, by decide, by decide +kernel⟩
theorem zc_X0_isThereOn : zCv yX0_isThereOn cX0_isThereOn 2 (some .boolean) RX0 1 := ⟨zm_2_202, zm_1_7, zm_2_200, zm_2_201, rfl, by decide, by decide, by decide +kernel⟩
theorem zc_X0_isGoneBy : zCv yX0_isGoneBy cX0_isGoneBy 2 (some .boolean) RX0 1 := ⟨zm_2_222, zm_1_7, zm_2_220, zm_2_221, rfl, by decide, by decide, by decide +kernel⟩
theorem zc_X0_tell : zCv yX0_tell cX0_tell 3 (some .int) RX0 2 := ⟨zm_3_21, zm_1_7, zm_3_19, zm_3_20, rfl, by decide, by decide, by decide +kernel⟩
theorem zc_X1_init : zCi yX1_init cX1_init 2 0 := ⟨zm_1_222, zm_1_8, zm_1_221, rfl, by decide, by decide, by decide +kernel⟩
theorem zc_X1_keep : zCv yX1_keep cX1_keep 3 none RX1 1 := ⟨zm_2_97, zm_1_8, zm_2_95, zm_2_96, rfl, by decide, by decide, by decide +kernel⟩
theorem zc_X1_dropOldest : zCv yX1_dropOldest cX1_dropOldest 3 none RX1 0 := ⟨zm_2_101, zm_1_8, zm_2_100, zm_0_1, rfl, by decide, by decide, by decide +kernel⟩
theorem zc_X1_takeLatest : zCv yX1_takeLatest cX1_takeLatest 1 (some (.object "HutLoaves$Hut")) RX1 0 := ⟨zm_3_111, zm_1_8, zm_3_109, zm_3_110, rfl, by decide, by decide, by decide +kernel⟩
theorem zc_X2_init : zCi yX2_init cX2_init 2 0 := ⟨zm_1_25, zm_1_2, zm_1_24, rfl, by decide, by decide, by decide +kernel⟩
theorem zc_X2_copyFrom : zCv yX2_copyFrom cX2_copyFrom 5 none RX2 1 := ⟨zm_2_48, zm_1_2, zm_2_46, zm_2_47, rfl, by decide, by decide, by decide +kernel⟩
theorem zc_X2_muleAt : zCv yX2_muleAt cX2_muleAt 2 (some (.object "HutLoaves$Mule")) RX2 1 := ⟨zm_2_64, zm_1_2, zm_2_62, zm_2_63, rfl, by decide, by decide, by decide +kernel⟩
theorem zc_X2_groupAt : zCv yX2_groupAt cX2_groupAt 2 (some (.object "HutLoaves$Group")) RX2 1 := ⟨zm_2_72, zm_1_2, zm_2_70, zm_2_71, rfl, by decide, by decide, by decide +kernel⟩
theorem zc_X2_placeOfGroup : zCv yX2_placeOfGroup cX2_placeOfGroup 4 (some .int) RX2 1 := ⟨zm_2_159, zm_1_2, zm_2_157, zm_2_158, rfl, by decide, by decide, by decide +kernel⟩
theorem zc_X2_addMule : zCv yX2_addMule cX2_addMule 5 (some .int) RX2 2 := ⟨zm_2_80, zm_1_2, zm_2_78, zm_2_79, rfl, by decide, by decide, by decide +kernel⟩
theorem zc_X2_whyNot : zCv yX2_whyNot cX2_whyNot 4 (some .int) RX2 2 := ⟨zm_2_114, zm_1_2, zm_2_112, zm_2_113, rfl, by decide, by decide, by decide +kernel⟩
theorem zc_X2_sendMule : zCv yX2_sendMule cX2_sendMule 5 (some .int) RX2 2 := ⟨zm_2_110, zm_1_2, zm_2_108, zm_2_109, rfl, by decide, by decide, by decide +kernel⟩
theorem zc_X2_restMule : zCv yX2_restMule cX2_restMule 4 (some .int) RX2 1 := ⟨zm_2_127, zm_1_2, zm_2_125, zm_2_126, rfl, by decide, by decide, by decide +kernel⟩
theorem zc_X2_payBaker : zCv yX2_payBaker cX2_payBaker 2 (some .int) RX2 1 := ⟨zm_2_135, zm_1_2, zm_2_133, zm_2_134, rfl, by decide, by decide, by decide +kernel⟩
theorem zc_X2_bookGroup : zCv yX2_bookGroup cX2_bookGroup 6 (some .int) RX2 3 := ⟨zm_2_143, zm_1_2, zm_2_141, zm_2_142, rfl, by decide, by decide, by decide +kernel⟩
theorem zc_X2_callOff : zCv yX2_callOff cX2_callOff 3 (some .int) RX2 1 := ⟨zm_2_155, zm_1_2, zm_2_153, zm_2_154, rfl, by decide, by decide, by decide +kernel⟩
theorem zc_X2_removeGroup : zCv yX2_removeGroup cX2_removeGroup 4 none RX2 1 := ⟨zm_2_163, zm_1_2, zm_2_162, zm_0_2, rfl, by decide, by decide, by decide +kernel⟩
theorem zc_X2_endDays : zCv yX2_endDays cX2_endDays 4 (some .int) RX2 1 := ⟨zm_2_171, zm_1_2, zm_2_169, zm_2_170, rfl, by decide, by decide, by decide +kernel⟩
theorem zc_X2_endDay : zCv yX2_endDay cX2_endDay 4 none RX2 0 := ⟨zm_2_175, zm_1_2, zm_2_173, zm_2_174, rfl, by decide, by decide, by decide +kernel⟩
theorem zc_X2_unload : zCv yX2_unload cX2_unload 5 none RX2 1 := ⟨zm_2_183, zm_1_2, zm_2_182, zm_0_3, rfl, by decide, by decide, by decide +kernel⟩
theorem zc_X2_feed : zCv yX2_feed cX2_feed 9 none RX2 1 := ⟨zm_2_206, zm_1_2, zm_2_205, zm_0_4, rfl, by decide, by decide, by decide +kernel⟩
theorem zc_X2_wantedOn : zCv yX2_wantedOn cX2_wantedOn 5 (some .int) RX2 1 := ⟨zm_3_48, zm_1_2, zm_3_46, zm_3_47, rfl, by decide, by decide, by decide +kernel⟩
theorem zc_X2_bestMule : zCv yX2_bestMule cX2_bestMule 5 (some .int) RX2 0 := ⟨zm_3_61, zm_1_2, zm_3_59, zm_3_60, rfl, by decide, by decide, by decide +kernel⟩
theorem zc_X2_loavesOnCredit : zCv yX2_loavesOnCredit cX2_loavesOnCredit 2 (some .int) RX2 0 := ⟨zm_3_69, zm_1_2, zm_3_67, zm_3_68, rfl, by decide, by decide, by decide +kernel⟩
theorem zc_X2_loavesOnTheirWayUp : zCv yX2_loavesOnTheirWayUp cX2_loavesOnTheirWayUp 4 (some .int) RX2 0 := ⟨zm_3_102, zm_1_2, zm_3_100, zm_3_101, rfl, by decide, by decide, by decide +kernel⟩
theorem zc_X2_tell : zCv yX2_tell cX2_tell 2 (some .int) RX2 1 := ⟨zm_3_98, zm_1_2, zm_3_96, zm_3_97, rfl, by decide, by decide, by decide +kernel⟩
theorem zc_X3_init : zCi yX3_init cX3_init 1 0 := ⟨zm_1_46, zm_1_4, zm_1_45, rfl, by decide, by decide, by decide +kernel⟩
theorem zc_X3_copyFrom : zCv yX3_copyFrom cX3_copyFrom 2 none RX3 1 := ⟨zm_2_56, zm_1_4, zm_2_54, zm_2_55, rfl, by decide, by decide, by decide +kernel⟩
theorem zc_X3_wasted : zCv yX3_wasted cX3_wasted 1 (some .int) RX3 0 := ⟨zm_3_78, zm_1_4, zm_3_76, zm_3_77, rfl, by decide, by decide, by decide +kernel⟩
theorem zc_X4_init : zCi yX4_init cX4_init 1 0 := ⟨zm_1_118, zm_1_6, zm_1_117, rfl, by decide, by decide, by decide +kernel⟩
theorem zc_X4_copyFrom : zCv yX4_copyFrom cX4_copyFrom 2 none RX4 1 := ⟨zm_2_68, zm_1_6, zm_2_66, zm_2_67, rfl, by decide, by decide, by decide +kernel⟩
theorem zc_X4_begin : zCv yX4_begin cX4_begin 3 none RX4 2 := ⟨zm_2_89, zm_1_6, zm_2_87, zm_2_88, rfl, by decide, by decide, by decide +kernel⟩
theorem zc_X4_leave : zCv yX4_leave cX4_leave 3 none RX4 2 := ⟨zm_2_119, zm_1_6, zm_2_117, zm_2_118, rfl, by decide, by decide, by decide +kernel⟩
theorem zc_X4_comeOn : zCv yX4_comeOn cX4_comeOn 2 (some .boolean) RX4 1 := ⟨zm_2_179, zm_1_6, zm_2_177, zm_2_178, rfl, by decide, by decide, by decide +kernel⟩
theorem zc_X4_unload : zCv yX4_unload cX4_unload 2 (some .int) RX4 0 := ⟨zm_2_187, zm_1_6, zm_2_185, zm_2_186, rfl, by decide, by decide, by decide +kernel⟩
theorem zc_X4_goesAheadOf : zCv yX4_goesAheadOf cX4_goesAheadOf 2 (some .boolean) RX4 1 := ⟨zm_3_65, zm_1_6, zm_3_63, zm_3_64, rfl, by decide, by decide, by decide +kernel⟩
theorem zc_X4_tell : zCv yX4_tell cX4_tell 2 (some .int) RX4 1 := ⟨zm_3_10, zm_1_6, zm_3_8, zm_3_9, rfl, by decide, by decide, by decide +kernel⟩
theorem zc_X5_init : zCi yX5_init cX5_init 1 0 := ⟨zm_1_239, zm_1_9, zm_1_238, rfl, by decide, by decide, by decide +kernel⟩
theorem zc_X5_append : zCv yX5_append cX5_append 2 (some .int) RX5 1 := ⟨zm_3_120, zm_1_9, zm_3_118, zm_3_119, rfl, by decide, by decide, by decide +kernel⟩
theorem zc_X5_empty : zCv yX5_empty cX5_empty 2 (some .int) RX5 0 := ⟨zm_3_129, zm_1_9, zm_3_127, zm_3_128, rfl, by decide, by decide, by decide +kernel⟩
theorem zc_X5_rehearse : zCv yX5_rehearse cX5_rehearse 5 (some .int) RX5 1 := ⟨zm_3_137, zm_1_9, zm_3_135, zm_3_136, rfl, by decide, by decide, by decide +kernel⟩
theorem zc_X5_perform : zCv yX5_perform cX5_perform 2 (some .int) RX5 1 := ⟨zm_3_157, zm_1_9, zm_3_156, zm_0_8, rfl, by decide, by decide, by decide +kernel⟩
theorem zc_X5_readOrder : zCv yX5_readOrder cX5_readOrder 3 (some .boolean) RX5 0 := ⟨zm_3_141, zm_1_9, zm_3_140, zm_0_5, rfl, by decide, by decide, by decide +kernel⟩
theorem zc_X5_partsOf : zCs yX5_partsOf cX5_partsOf 1 (some .int) 1 := ⟨zm_3_148, zm_1_9, zm_3_147, by decide, by decide, by decide +kernel⟩
theorem zc_X5_readNumber : zCv yX5_readNumber cX5_readNumber 4 (some .boolean) RX5 1 := ⟨zm_3_152, zm_1_9, zm_3_151, zm_0_7, rfl, by decide, by decide, by decide +kernel⟩
theorem zc_X5_signAt : zCv yX5_signAt cX5_signAt 2 (some .int) RX5 1 := ⟨zm_3_145, zm_1_9, zm_3_144, zm_0_6, rfl, by decide, by decide, by decide +kernel⟩
theorem zc_X5_numberAt : zCv yX5_numberAt cX5_numberAt 2 (some .int) RX5 1 := ⟨zm_3_161, zm_1_9, zm_3_160, zm_0_9, rfl, by decide, by decide, by decide +kernel⟩
theorem zc_X6_init : zCi yX6_init cX6_init 1 0 := ⟨zm_1_96, zm_1_5, zm_1_95, rfl, by decide, by decide, by decide +kernel⟩
theorem zc_X6_copyFrom : zCv yX6_copyFrom cX6_copyFrom 2 none RX6 1 := ⟨zm_2_60, zm_1_5, zm_2_58, zm_2_59, rfl, by decide, by decide, by decide +kernel⟩
theorem zc_X6_tell : zCv yX6_tell cX6_tell 2 (some .int) RX6 1 := ⟨zm_3_0, zm_1_5, zm_2_238, zm_2_239, rfl, by decide, by decide, by decide +kernel⟩
theorem zc_X6_change : zCv yX6_change cX6_change 4 (some .int) RX6 2 := ⟨zm_2_230, zm_1_5, zm_2_228, zm_2_229, rfl, by decide, by decide, by decide +kernel⟩
theorem zc_X7_init : zCi yX7_init cX7_init 1 0 := ⟨zm_1_35, zm_1_3, zm_1_34, rfl, by decide, by decide, by decide +kernel⟩
theorem zc_X7_copyFrom : zCv yX7_copyFrom cX7_copyFrom 3 none RX7 1 := ⟨zm_2_52, zm_1_3, zm_2_50, zm_2_51, rfl, by decide, by decide, by decide +kernel⟩
theorem zc_X7_howMany : zCv yX7_howMany cX7_howMany 5 (some .int) RX7 2 := ⟨zm_2_191, zm_1_3, zm_2_189, zm_2_190, rfl, by decide, by decide, by decide +kernel⟩
theorem zc_X7_agesTogether : zCv yX7_agesTogether cX7_agesTogether 3 (some .int) RX7 0 := ⟨zm_3_86, zm_1_3, zm_3_84, zm_3_85, rfl, by decide, by decide, by decide +kernel⟩
theorem zc_X7_store : zCv yX7_store cX7_store 3 none RX7 2 := ⟨zm_2_198, zm_1_3, zm_2_196, zm_2_197, rfl, by decide, by decide, by decide +kernel⟩
theorem zc_X7_take : zCv yX7_take cX7_take 7 (some .int) RX7 3 := ⟨zm_2_214, zm_1_3, zm_2_212, zm_2_213, rfl, by decide, by decide, by decide +kernel⟩
theorem zc_X7_growOlder : zCv yX7_growOlder cX7_growOlder 4 (some .int) RX7 0 := ⟨zm_2_218, zm_1_3, zm_2_216, zm_2_217, rfl, by decide, by decide, by decide +kernel⟩
theorem zc_X8_init : zCi yX8_init cX8_init 1 0 := ⟨zm_1_17, zm_1_1, zm_1_16, rfl, by decide, by decide, by decide +kernel⟩
theorem zc_X8_mule : zCv yX8_mule cX8_mule 3 (some .int) RX8 2 := ⟨zm_2_44, zm_1_1, zm_2_42, zm_2_43, rfl, by decide, by decide, by decide +kernel⟩
theorem zc_X8_send : zCv yX8_send cX8_send 3 (some .int) RX8 2 := ⟨zm_2_106, zm_1_1, zm_2_104, zm_2_105, rfl, by decide, by decide, by decide +kernel⟩
theorem zc_X8_rest : zCv yX8_rest cX8_rest 2 (some .int) RX8 1 := ⟨zm_2_123, zm_1_1, zm_2_121, zm_2_122, rfl, by decide, by decide, by decide +kernel⟩
theorem zc_X8_pay : zCv yX8_pay cX8_pay 2 (some .int) RX8 1 := ⟨zm_2_131, zm_1_1, zm_2_129, zm_2_130, rfl, by decide, by decide, by decide +kernel⟩
theorem zc_X8_group : zCv yX8_group cX8_group 4 (some .int) RX8 3 := ⟨zm_2_139, zm_1_1, zm_2_137, zm_2_138, rfl, by decide, by decide, by decide +kernel⟩
theorem zc_X8_off : zCv yX8_off cX8_off 2 (some .int) RX8 1 := ⟨zm_2_151, zm_1_1, zm_2_149, zm_2_150, rfl, by decide, by decide, by decide +kernel⟩
theorem zc_X8_end : zCv yX8_end cX8_end 2 (some .int) RX8 1 := ⟨zm_2_167, zm_1_1, zm_2_165, zm_2_166, rfl, by decide, by decide, by decide +kernel⟩
theorem zc_X8_set : zCv yX8_set cX8_set 3 (some .int) RX8 2 := ⟨zm_2_226, zm_1_1, zm_2_224, zm_2_225, rfl, by decide, by decide, by decide +kernel⟩
theorem zc_X8_muleOf : zCv yX8_muleOf cX8_muleOf 4 (some .int) RX8 2 := ⟨zm_3_4, zm_1_1, zm_3_2, zm_3_3, rfl, by decide, by decide, by decide +kernel⟩
theorem zc_X8_groupOf : zCv yX8_groupOf cX8_groupOf 4 (some .int) RX8 2 := ⟨zm_3_15, zm_1_1, zm_3_13, zm_3_14, rfl, by decide, by decide, by decide +kernel⟩
theorem zc_X8_number : zCv yX8_number cX8_number 3 (some .int) RX8 1 := ⟨zm_3_28, zm_1_1, zm_3_26, zm_3_27, rfl, by decide, by decide, by decide +kernel⟩
theorem zc_X8_loaves : zCv yX8_loaves cX8_loaves 2 (some .int) RX8 1 := ⟨zm_3_33, zm_1_1, zm_3_31, zm_3_32, rfl, by decide, by decide, by decide +kernel⟩
theorem zc_X8_why : zCv yX8_why cX8_why 3 (some .int) RX8 2 := ⟨zm_3_39, zm_1_1, zm_3_37, zm_3_38, rfl, by decide, by decide, by decide +kernel⟩
theorem zc_X8_wanted : zCv yX8_wanted cX8_wanted 2 (some .int) RX8 1 := ⟨zm_3_44, zm_1_1, zm_3_42, zm_3_43, rfl, by decide, by decide, by decide +kernel⟩
theorem zc_X8_hungry : zCv yX8_hungry cX8_hungry 2 (some .int) RX8 0 := ⟨zm_3_52, zm_1_1, zm_3_50, zm_3_51, rfl, by decide, by decide, by decide +kernel⟩
theorem zc_X8_next : zCv yX8_next cX8_next 4 (some .int) RX8 1 := ⟨zm_3_57, zm_1_1, zm_3_55, zm_3_56, rfl, by decide, by decide, by decide +kernel⟩
theorem zc_X8_would : zCv yX8_would cX8_would 4 (some .int) RX8 2 := ⟨zm_3_74, zm_1_1, zm_3_72, zm_3_73, rfl, by decide, by decide, by decide +kernel⟩
theorem zc_X8_mean : zCv yX8_mean cX8_mean 2 (some .int) RX8 0 := ⟨zm_3_82, zm_1_1, zm_3_80, zm_3_81, rfl, by decide, by decide, by decide +kernel⟩
theorem zc_X8_count : zCv yX8_count cX8_count 2 (some .int) RX8 1 := ⟨zm_3_94, zm_1_1, zm_3_92, zm_3_93, rfl, by decide, by decide, by decide +kernel⟩
theorem zc_X8_undo : zCv yX8_undo cX8_undo 2 (some .int) RX8 0 := ⟨zm_3_107, zm_1_1, zm_3_105, zm_3_106, rfl, by decide, by decide, by decide +kernel⟩
theorem zc_X8_type : zCv yX8_type cX8_type 2 (some .int) RX8 1 := ⟨zm_3_116, zm_1_1, zm_3_114, zm_3_115, rfl, by decide, by decide, by decide +kernel⟩
theorem zc_X8_clearText : zCv yX8_clearText cX8_clearText 1 (some .int) RX8 0 := ⟨zm_3_125, zm_1_1, zm_3_123, zm_3_124, rfl, by decide, by decide, by decide +kernel⟩
theorem zc_X8_fault : zCv yX8_fault cX8_fault 2 (some .int) RX8 1 := ⟨zm_3_133, zm_1_1, zm_3_131, zm_3_132, rfl, by decide, by decide, by decide +kernel⟩
theorem zc_X8_play : zCv yX8_play cX8_play 2 (some .int) RX8 0 := ⟨zm_3_170, zm_1_1, zm_3_168, zm_3_169, rfl, by decide, by decide, by decide +kernel⟩
theorem zc_X8_takeOver : zCv yX8_takeOver cX8_takeOver 2 (some .int) RX8 1 := ⟨zm_2_93, zm_1_1, zm_2_92, zm_0_0, rfl, by decide, by decide, by decide +kernel⟩
theorem zc_X8_isWithin : zCs yX8_isWithin cX8_isWithin 3 (some .boolean) 3 := ⟨zm_2_83, zm_1_1, zm_2_82, by decide, by decide, by decide +kernel⟩
theorem zc_X8_bitsOf : zCs yX8_bitsOf cX8_bitsOf 4 (some .int) 1 := ⟨zm_3_89, zm_1_1, zm_3_88, by decide, by decide, by decide +kernel⟩
theorem zc_X9_init : zCi yX9_init cX9_init 1 0 := ⟨zm_3_175, zm_1_10, zm_3_174, rfl, by decide, by decide, by decide +kernel⟩
theorem zc_X9_in : zCs yX9_in cX9_in 3 (some .boolean) 3 := ⟨zm_3_229, zm_1_10, zm_3_228, by decide, by decide, by decide +kernel⟩
theorem zc_X9_lesser : zCs yX9_lesser cX9_lesser 2 (some .int) 2 := ⟨zm_4_76, zm_1_10, zm_4_75, by decide, by decide, by decide +kernel⟩
theorem zc_X9_copies : zCs yX9_copies cX9_copies 3 none 2 := ⟨zm_4_137, zm_1_10, zm_4_136, by decide, by decide, by decide +kernel⟩
theorem zc_X9_changes : zCv yX9_changes cX9_changes 2 none RX9 0 := ⟨zm_3_235, zm_1_10, zm_3_234, zm_0_10, rfl, by decide, by decide, by decide +kernel⟩
theorem zc_X9_isMule : zCv yX9_isMule cX9_isMule 2 (some .boolean) RX9 1 := ⟨zm_4_7, zm_1_10, zm_4_6, zm_0_12, rfl, by decide, by decide, by decide +kernel⟩
theorem zc_X9_of : zCv yX9_of cX9_of 3 (some .int) RX9 2 := ⟨zm_4_15, zm_1_10, zm_4_14, zm_0_14, rfl, by decide, by decide, by decide +kernel⟩
theorem zc_X9_sets : zCv yX9_sets cX9_sets 4 none RX9 3 := ⟨zm_3_239, zm_1_10, zm_3_238, zm_0_11, rfl, by decide, by decide, by decide +kernel⟩
theorem zc_X9_ofGroup : zCv yX9_ofGroup cX9_ofGroup 3 (some .int) RX9 2 := ⟨zm_4_40, zm_1_10, zm_4_39, zm_0_16, rfl, by decide, by decide, by decide +kernel⟩
theorem zc_X9_placeOf : zCv yX9_placeOf cX9_placeOf 3 (some .int) RX9 1 := ⟨zm_4_36, zm_1_10, zm_4_35, zm_0_15, rfl, by decide, by decide, by decide +kernel⟩
theorem zc_X9_loavesFrom : zCv yX9_loavesFrom cX9_loavesFrom 5 (some .int) RX9 2 := ⟨zm_4_73, zm_1_10, zm_4_72, zm_0_23, rfl, by decide, by decide, by decide +kernel⟩
theorem zc_X9_allLoaves : zCv yX9_allLoaves cX9_allLoaves 1 (some .int) RX9 0 := ⟨zm_4_69, zm_1_10, zm_4_68, zm_0_22, rfl, by decide, by decide, by decide +kernel⟩
theorem zc_X9_stale : zCv yX9_stale cX9_stale 1 (some .int) RX9 0 := ⟨zm_4_99, zm_1_10, zm_4_98, zm_0_28, rfl, by decide, by decide, by decide +kernel⟩
theorem zc_X9_stores : zCv yX9_stores cX9_stores 5 none RX9 1 := ⟨zm_4_65, zm_1_10, zm_4_64, zm_0_21, rfl, by decide, by decide, by decide +kernel⟩
theorem zc_X9_comesHome : zCv yX9_comesHome cX9_comesHome 3 none RX9 1 := ⟨zm_4_80, zm_1_10, zm_4_79, zm_0_24, rfl, by decide, by decide, by decide +kernel⟩
theorem zc_X9_comesOn : zCv yX9_comesOn cX9_comesOn 3 none RX9 1 := ⟨zm_4_61, zm_1_10, zm_4_60, zm_0_20, rfl, by decide, by decide, by decide +kernel⟩
theorem zc_X9_takes : zCv yX9_takes cX9_takes 7 none RX9 3 := ⟨zm_4_95, zm_1_10, zm_4_94, zm_0_27, rfl, by decide, by decide, by decide +kernel⟩
theorem zc_X9_isThere : zCv yX9_isThere cX9_isThere 3 (some .boolean) RX9 2 := ⟨zm_4_84, zm_1_10, zm_4_83, zm_0_25, rfl, by decide, by decide, by decide +kernel⟩
theorem zc_X9_wants : zCs yX9_wants cX9_wants 1 (some .int) 1 := ⟨zm_4_91, zm_1_10, zm_4_90, by decide, by decide, by decide +kernel⟩
theorem zc_X9_eats : zCv yX9_eats cX9_eats 8 none RX9 1 := ⟨zm_4_88, zm_1_10, zm_4_87, zm_0_26, rfl, by decide, by decide, by decide +kernel⟩
theorem zc_X9_goes : zCv yX9_goes cX9_goes 3 none RX9 1 := ⟨zm_4_45, zm_1_10, zm_4_44, zm_0_17, rfl, by decide, by decide, by decide +kernel⟩
theorem zc_X9_ends : zCv yX9_ends cX9_ends 4 none RX9 0 := ⟨zm_4_57, zm_1_10, zm_4_56, zm_0_19, rfl, by decide, by decide, by decide +kernel⟩
theorem zc_X9_endsFor : zCv yX9_endsFor cX9_endsFor 4 (some .int) RX9 1 := ⟨zm_4_53, zm_1_10, zm_4_52, zm_0_18, rfl, by decide, by decide, by decide +kernel⟩
theorem zc_X9_mule : zCv yX9_mule cX9_mule 5 (some .int) RX9 2 := ⟨zm_3_226, zm_1_10, zm_3_224, zm_3_225, rfl, by decide, by decide, by decide +kernel⟩
theorem zc_X9_whyNot : zCv yX9_whyNot cX9_whyNot 3 (some .int) RX9 2 := ⟨zm_4_11, zm_1_10, zm_4_10, zm_0_13, rfl, by decide, by decide, by decide +kernel⟩
theorem zc_X9_send : zCv yX9_send cX9_send 3 (some .int) RX9 2 := ⟨zm_4_3, zm_1_10, zm_4_1, zm_4_2, rfl, by decide, by decide, by decide +kernel⟩
theorem zc_X9_rest : zCv yX9_rest cX9_rest 3 (some .int) RX9 1 := ⟨zm_4_20, zm_1_10, zm_4_18, zm_4_19, rfl, by decide, by decide, by decide +kernel⟩
theorem zc_X9_pay : zCv yX9_pay cX9_pay 2 (some .int) RX9 1 := ⟨zm_4_24, zm_1_10, zm_4_22, zm_4_23, rfl, by decide, by decide, by decide +kernel⟩
theorem zc_X9_group : zCv yX9_group cX9_group 6 (some .int) RX9 3 := ⟨zm_4_28, zm_1_10, zm_4_26, zm_4_27, rfl, by decide, by decide, by decide +kernel⟩
theorem zc_X9_off : zCv yX9_off cX9_off 3 (some .int) RX9 1 := ⟨zm_4_32, zm_1_10, zm_4_30, zm_4_31, rfl, by decide, by decide, by decide +kernel⟩
theorem zc_X9_end : zCv yX9_end cX9_end 2 (some .int) RX9 1 := ⟨zm_4_49, zm_1_10, zm_4_47, zm_4_48, rfl, by decide, by decide, by decide +kernel⟩
theorem zc_X9_maySet : zCs yX9_maySet cX9_maySet 2 (some .boolean) 2 := ⟨zm_4_106, zm_1_10, zm_4_105, by decide, by decide, by decide +kernel⟩
theorem zc_X9_set : zCv yX9_set cX9_set 4 (some .int) RX9 2 := ⟨zm_4_103, zm_1_10, zm_4_101, zm_4_102, rfl, by decide, by decide, by decide +kernel⟩
theorem zc_X9_muleOf : zCv yX9_muleOf cX9_muleOf 3 (some .int) RX9 2 := ⟨zm_4_110, zm_1_10, zm_4_108, zm_4_109, rfl, by decide, by decide, by decide +kernel⟩
theorem zc_X9_groupOf : zCv yX9_groupOf cX9_groupOf 4 (some .int) RX9 2 := ⟨zm_4_114, zm_1_10, zm_4_112, zm_4_113, rfl, by decide, by decide, by decide +kernel⟩
theorem zc_X9_number : zCv yX9_number cX9_number 2 (some .int) RX9 1 := ⟨zm_4_118, zm_1_10, zm_4_116, zm_4_117, rfl, by decide, by decide, by decide +kernel⟩
theorem zc_X9_loaves : zCv yX9_loaves cX9_loaves 2 (some .int) RX9 1 := ⟨zm_4_122, zm_1_10, zm_4_120, zm_4_121, rfl, by decide, by decide, by decide +kernel⟩
theorem zc_X9_why : zCv yX9_why cX9_why 3 (some .int) RX9 2 := ⟨zm_4_126, zm_1_10, zm_4_124, zm_4_125, rfl, by decide, by decide, by decide +kernel⟩
theorem zc_X9_wanted : zCv yX9_wanted cX9_wanted 4 (some .int) RX9 1 := ⟨zm_4_130, zm_1_10, zm_4_128, zm_4_129, rfl, by decide, by decide, by decide +kernel⟩
theorem zc_X9_hungry : zCv yX9_hungry cX9_hungry 3 (some .int) RX9 0 := ⟨zm_4_134, zm_1_10, zm_4_132, zm_4_133, rfl, by decide, by decide, by decide +kernel⟩
theorem zc_X9_nextMule : zCv yX9_nextMule cX9_nextMule 4 (some .int) RX9 0 := ⟨zm_4_145, zm_1_10, zm_4_144, zm_0_29, rfl, by decide, by decide, by decide +kernel⟩
theorem zc_X9_next : zCv yX9_next cX9_next 4 (some .int) RX9 1 := ⟨zm_4_141, zm_1_10, zm_4_139, zm_4_140, rfl, by decide, by decide, by decide +kernel⟩
theorem zc_X9_would : zCv yX9_would cX9_would 5 (some .int) RX9 2 := ⟨zm_4_149, zm_1_10, zm_4_147, zm_4_148, rfl, by decide, by decide, by decide +kernel⟩
theorem zc_X9_mean : zCv yX9_mean cX9_mean 4 (some .int) RX9 0 := ⟨zm_4_153, zm_1_10, zm_4_151, zm_4_152, rfl, by decide, by decide, by decide +kernel⟩
theorem zc_X9_onTheWay : zCv yX9_onTheWay cX9_onTheWay 3 (some .int) RX9 0 := ⟨zm_4_171, zm_1_10, zm_4_170, zm_0_30, rfl, by decide, by decide, by decide +kernel⟩
theorem zc_X9_count : zCv yX9_count cX9_count 2 (some .int) RX9 1 := ⟨zm_4_167, zm_1_10, zm_4_165, zm_4_166, rfl, by decide, by decide, by decide +kernel⟩
theorem zc_X9_undo : zCv yX9_undo cX9_undo 2 (some .int) RX9 0 := ⟨zm_4_175, zm_1_10, zm_4_173, zm_4_174, rfl, by decide, by decide, by decide +kernel⟩
theorem zc_X9_type : zCv yX9_type cX9_type 2 (some .int) RX9 1 := ⟨zm_4_179, zm_1_10, zm_4_177, zm_4_178, rfl, by decide, by decide, by decide +kernel⟩
theorem zc_X9_clearText : zCv yX9_clearText cX9_clearText 2 (some .int) RX9 0 := ⟨zm_4_183, zm_1_10, zm_4_181, zm_4_182, rfl, by decide, by decide, by decide +kernel⟩
theorem zc_X9_isAt : zCv yX9_isAt cX9_isAt 3 (some .boolean) RX9 2 := ⟨zm_4_199, zm_1_10, zm_4_198, zm_0_33, rfl, by decide, by decide, by decide +kernel⟩
theorem zc_X9_sign : zCv yX9_sign cX9_sign 3 (some .boolean) RX9 1 := ⟨zm_4_210, zm_1_10, zm_4_209, zm_0_35, rfl, by decide, by decide, by decide +kernel⟩
theorem zc_X9_numbered : zCv yX9_numbered cX9_numbered 3 (some .boolean) RX9 1 := ⟨zm_4_206, zm_1_10, zm_4_205, zm_0_34, rfl, by decide, by decide, by decide +kernel⟩
theorem zc_X9_numbersOf : zCs yX9_numbersOf cX9_numbersOf 1 (some .int) 1 := ⟨zm_4_202, zm_1_10, zm_4_201, by decide, by decide, by decide +kernel⟩
theorem zc_X9_reads : zCv yX9_reads cX9_reads 4 (some .boolean) RX9 0 := ⟨zm_4_195, zm_1_10, zm_4_194, zm_0_32, rfl, by decide, by decide, by decide +kernel⟩
theorem zc_X9_calls : zCv yX9_calls cX9_calls 1 (some .int) RX9 0 := ⟨zm_4_214, zm_1_10, zm_4_213, zm_0_36, rfl, by decide, by decide, by decide +kernel⟩
theorem zc_X9_plays : zCv yX9_plays cX9_plays 4 (some .boolean) RX9 0 := ⟨zm_4_191, zm_1_10, zm_4_190, zm_0_31, rfl, by decide, by decide, by decide +kernel⟩
theorem zc_X9_fault : zCv yX9_fault cX9_fault 3 (some .int) RX9 1 := ⟨zm_4_187, zm_1_10, zm_4_185, zm_4_186, rfl, by decide, by decide, by decide +kernel⟩
theorem zc_X9_play : zCv yX9_play cX9_play 2 (some .int) RX9 0 := ⟨zm_4_223, zm_1_10, zm_4_221, zm_4_222, rfl, by decide, by decide, by decide +kernel⟩
theorem zc_Jxf58ca_isNaN_12338 : zCs yJxf58ca_isNaN_12338 cJxf58ca_isNaN_12338 1 (some .boolean) 1 := ⟨zm_4_159, zm_1_12, zm_4_158, by decide, by decide, by decide +kernel⟩
theorem zc_Jxf58ca_floatToIntBits_5c35a : zCs yJxf58ca_floatToIntBits_5c35a cJxf58ca_floatToIntBits_5c35a 1 (some .int) 1 := ⟨zm_4_156, zm_1_12, zm_4_155, by decide, by decide, by decide +kernel⟩
theorem zc_J9_min_7cf53 : zCs yJ9_min_7cf53 cJ9_min_7cf53 2 (some .int) 2 := ⟨zm_2_194, zm_1_11, zm_2_193, by decide, by decide, by decide +kernel⟩
def eMuleL (v : Nat → Int32) : List Value := [.int (v 0), .int (v 1), .int (v 2), .int (v 3), .int (v 4), .int (v 5), .int (v 6), .int (v 7), .int (v 8)]
abbrev eMule (v : Nat → Int32) : va_E := .inr (4, eMuleL v)
theorem eMule_set (v : Nat → Int32) (x : Int32) : ∀ i, i < 9 → (eMuleL v).set i (.int x) = eMuleL (upd v i x)
  | 0, _ => rfl
  | 1, _ => rfl
  | 2, _ => rfl
  | 3, _ => rfl
  | 4, _ => rfl
  | 5, _ => rfl
  | 6, _ => rfl
  | 7, _ => rfl
  | 8, _ => rfl
  | i + 9, h => absurd h (by omega)
theorem eMule_congr {u v : Nat → Int32} (h : ∀ i, i < 9 → u i = v i) : eMule u = eMule v := by
  simp only [eMule, eMuleL, h 0 (by decide), h 1 (by decide), h 2 (by decide), h 3 (by decide), h 4 (by decide), h 5 (by decide), h 6 (by decide), h 7 (by decide), h 8 (by decide)]
def eGroupL (v : Nat → Int32) : List Value := [.int (v 0), .int (v 1), .int (v 2), .int (v 3), .int (v 4), .int (v 5)]
abbrev eGroup (v : Nat → Int32) : va_E := .inr (0, eGroupL v)
theorem eGroup_set (v : Nat → Int32) (x : Int32) : ∀ i, i < 6 → (eGroupL v).set i (.int x) = eGroupL (upd v i x)
  | 0, _ => rfl
  | 1, _ => rfl
  | 2, _ => rfl
  | 3, _ => rfl
  | 4, _ => rfl
  | 5, _ => rfl
  | i + 6, h => absurd h (by omega)
theorem eGroup_congr {u v : Nat → Int32} (h : ∀ i, i < 6 → u i = v i) : eGroup u = eGroup v := by
  simp only [eGroup, eGroupL, h 0 (by decide), h 1 (by decide), h 2 (by decide), h 3 (by decide), h 4 (by decide), h 5 (by decide)]
def eLedgerL (v : Nat → Int32) : List Value := [.int (v 0), .int (v 1), .int (v 2), .int (v 3), .int (v 4), .int (v 5), .int (v 6), .int (v 7), .int (v 8), .int (v 9)]
abbrev eLedger (v : Nat → Int32) : va_E := .inr (3, eLedgerL v)
theorem eLedger_set (v : Nat → Int32) (x : Int32) : ∀ i, i < 10 → (eLedgerL v).set i (.int x) = eLedgerL (upd v i x)
  | 0, _ => rfl
  | 1, _ => rfl
  | 2, _ => rfl
  | 3, _ => rfl
  | 4, _ => rfl
  | 5, _ => rfl
  | 6, _ => rfl
  | 7, _ => rfl
  | 8, _ => rfl
  | 9, _ => rfl
  | i + 10, h => absurd h (by omega)
theorem eLedger_congr {u v : Nat → Int32} (h : ∀ i, i < 10 → u i = v i) : eLedger u = eLedger v := by
  simp only [eLedger, eLedgerL, h 0 (by decide), h 1 (by decide), h 2 (by decide), h 3 (by decide), h 4 (by decide), h 5 (by decide), h 6 (by decide), h 7 (by decide), h 8 (by decide), h 9 (by decide)]
def eSettL (v : Nat → Int32) : List Value := [.int (v 0), .int (v 1), .int (v 2), .int (v 3)]
abbrev eSett (v : Nat → Int32) : va_E := .inr (6, eSettL v)
theorem eSett_set (v : Nat → Int32) (x : Int32) : ∀ i, i < 4 → (eSettL v).set i (.int x) = eSettL (upd v i x)
  | 0, _ => rfl
  | 1, _ => rfl
  | 2, _ => rfl
  | 3, _ => rfl
  | i + 4, h => absurd h (by omega)
theorem eSett_congr {u v : Nat → Int32} (h : ∀ i, i < 4 → u i = v i) : eSett u = eSett v := by
  simp only [eSett, eSettL, h 0 (by decide), h 1 (by decide), h 2 (by decide), h 3 (by decide)]
theorem va_up_up {α : Type} {f : Nat → α} {k : Nat} {v u : α} : va_up (va_up f k v) k u = va_up f k u := by
  funext j
  unfold va_up
  by_cases h : j = k
  · rw [if_pos h, if_pos h]
  · rw [if_neg h, if_neg h, if_neg h]
/-- one less, from 0 on: -1 -/
def zpr : Nat → Int32
  | 0 => -1
  | n + 1 => nI n
theorem zinc1 (n : Nat) : nI n + Int32.ofInt 1 = nI (n + 1) := (nI_succ n).symm
theorem zdec1 : ∀ n : Nat, nI n + Int32.ofInt (-1) = zpr n
  | 0 => by decide
  | n + 1 => by
    show nI (n + 1) + Int32.ofInt (-1) = nI n
    rw [nI_succ, show Int32.ofInt (-1) = (-1 : Int32) by decide, Int32.add_assoc, show (1 : Int32) + (-1) = 0 by decide, Int32.add_zero]
theorem zupw {P : Nat → Prop} {B : Nat} (h0 : P 0) (hs : ∀ n, n < B → P n → P (n + 1)) : P B := by
  have h : ∀ n, n ≤ B → P n := by
    intro n
    induction n with
    | zero => exact fun _ => h0
    | succ n ih => exact fun h => hs n (by omega) (ih (by omega))
  exact h B (Nat.le_refl B)
/-- a loop's numbers: from 0 up, n times -/
def zfold {α : Type} (g : Nat → α → α) (x : α) : Nat → α
  | 0 => x
  | n + 1 => g n (zfold g x n)
theorem zr_fcmp {l : Launch} {D : va_G} {cy : Nat → ClassId} {own : String} {cc : ByteArray} {nL : Nat} {R : Room} {nm : String} {G : zJ} {κ : zκ} {f : zF} {ls : List (Nat × Value)} {pc : Nat} {st : List Value} (X : zX l D cy own cc nL R nm G) {x y : UInt32} {op : CmpOp} (d : decode cc pc = .ok (.fcmp op, 1)) (k : G κ f ls (pc + 1) (.int (Op.cmpValue (FP.fcmp x y) op) :: st)) : G κ f ls pc (.float y :: .float x :: st) := by
  obtain ⟨p, e, s, m, args, below, meth, c, Q, A, rfl, hx, hb, hml, hnm, hown, hts, hA, hK⟩ := X
  intro H locs arr hP hI hAl hS hl
  exact lv_fcmp hx hb d (k H locs arr hP hI hAl hS hl)
def eHutL (w : zW) (b : Nat) (v : Nat → Int32) : List Value := [.ref (w.2 (b + 1)), .ref (w.2 (b + 2)), .ref (w.2 (b + 3)), .ref (w.2 (b + 5)), .ref (w.2 (b + 6)), .int (v 0), .int (v 1), .int (v 2), .int (v 3), .int (v 4)]
abbrev eHut (w : zW) (b : Nat) (v : Nat → Int32) : va_E := .inr (2, eHutL w b v)
theorem eHut_set (w : zW) (b : Nat) (v : Nat → Int32) (x : Int32) : ∀ i, i < 5 → (eHutL w b v).set (5 + i) (.int x) = eHutL w b (upd v i x)
  | 0, _ => rfl
  | 1, _ => rfl
  | 2, _ => rfl
  | 3, _ => rfl
  | 4, _ => rfl
  | i + 5, h => absurd h (by omega)
abbrev eInts (cy : Nat → ClassId) (n : Nat) (a : Nat → Int32) : va_E := .inl (cy 0, n, .inl a)
abbrev eChars (cy : Nat → ClassId) (n : Nat) (a : Nat → Int32) : va_E := .inl (cy 1, n, .inl a)
abbrev eRefs (cy : Nat → ClassId) (b n : Nat) (a : Nat → Option Nat) : va_E := .inl (cy b, n, .inr (.inr (.inr (.inr a))))
/-- what a hut's cells hold: by their places (0 itself, 1 the row of mules, 2 the row of groups, 3 the shelf, 4 its row, 5 the ledger, 6 the settings, 7 to 10 the mules, 11 to 20 the groups); σ: the numbers, in the order of the reference's row; γ: which group object stands at a place -/
def zHut (w : zW) (cy : Nat → ClassId) (b : Nat) (γ : Nat → Nat) (σ : Nat → Int32) (o : Nat) : va_E := match o with
  | 0 => eHut w b σ
  | 1 => eRefs cy 2 4 (fun k => some (w.2 (b + (7 + k))))
  | 2 => eRefs cy 3 10 (fun k => some (w.2 (b + (11 + γ k))))
  | 3 => .inr (7, [.ref (w.2 (b + 4))])
  | 4 => eInts cy 21 (fun k => σ (115 + k))
  | 5 => eLedger (fun i => σ (5 + i))
  | 6 => eSett (fun i => σ (15 + i))
  | o + 7 => if o < 4 then eMule (fun i => σ (19 + 9 * o + i)) else eGroup (fun i => σ (55 + 6 * (o - 4) + i))
/-- the world f, but for the hut at b -/
def zPut (f : zF) (b : Nat) (h : Nat → va_E) : zF := fun t => if b ≤ t ∧ t < b + 21 then h (t - b) else f t
theorem zPut_in {f : zF} {b : Nat} {h : Nat → va_E} {o : Nat} (ho : o < 21) : zPut f b h (b + o) = h o := by
  unfold zPut
  rw [if_pos (by omega), Nat.add_sub_cancel_left]
theorem zPut_out {f : zF} {b : Nat} {h : Nat → va_E} {t : Nat} (ht : t < b ∨ b + 21 ≤ t) : zPut f b h t = f t := by
  unfold zPut
  rw [if_neg (by omega)]
theorem zPut_put {f : zF} {b : Nat} {h h' : Nat → va_E} : zPut (zPut f b h) b h' = zPut f b h' := by
  funext t
  unfold zPut
  split <;> rfl
theorem zPut_self {f : zF} {b : Nat} {h : Nat → va_E} (hh : ∀ o, o < 21 → f (b + o) = h o) : zPut f b h = f := by
  funext t
  unfold zPut
  split
  · rename_i q
    rw [← hh (t - b) (by omega)]
    congr 1
    omega
  · rfl
theorem zPut_up {f : zF} {b o : Nat} {h h' : Nat → va_E} {e : va_E} (ho : o < 21) (he : e = h' o) (hr : ∀ i, i < 21 → i ≠ o → h i = h' i) : va_up (zPut f b h) (b + o) e = zPut f b h' := by
  funext t
  unfold va_up zPut
  by_cases h1 : t = b + o
  · rw [if_pos h1, if_pos (by omega), he, h1, Nat.add_sub_cancel_left]
  · rw [if_neg h1]
    by_cases h2 : b ≤ t ∧ t < b + 21
    · rw [if_pos h2, if_pos h2]
      exact hr (t - b) (by omega) (by omega)
    · rw [if_neg h2, if_neg h2]
/-- a stretch of numbers -/
def setR (σ : Nat → Int32) (a n : Nat) (v : Nat → Int32) : Nat → Int32 := fun i => if a ≤ i ∧ i < a + n then v (i - a) else σ i
theorem setR_in {σ : Nat → Int32} {a n : Nat} {v : Nat → Int32} {i : Nat} (h : i < n) : setR σ a n v (a + i) = v i := by
  unfold setR
  rw [if_pos (by omega), Nat.add_sub_cancel_left]
theorem setR_out {σ : Nat → Int32} {a n : Nat} {v : Nat → Int32} {i : Nat} (h : i < a ∨ a + n ≤ i) : setR σ a n v i = σ i := by
  unfold setR
  rw [if_neg (by omega)]
theorem upd_ne {σ : Nat → Int32} {k i : Nat} {x : Int32} (h : i ≠ k) : upd σ k x i = σ i := by
  unfold upd
  rw [if_neg h]
theorem upd_eq {σ : Nat → Int32} {k : Nat} {x : Int32} : upd σ k x k = x := by
  unfold upd
  rw [if_pos rfl]
theorem upd_at {σ : Nat → Int32} {a k i : Nat} {x : Int32} : upd (fun j => σ (a + j)) k x i = upd σ (a + k) x (a + i) := by
  unfold upd
  by_cases h : i = k
  · rw [if_pos h, if_pos (by omega)]
  · rw [if_neg h, if_neg (by omega)]
section ZH
variable {w : zW} {cy : Nat → ClassId} {b : Nat} {γ γ' : Nat → Nat} {σ σ' : Nat → Int32} {f : zF}
theorem zHut_mule {k : Nat} (hk : k < 4) : zHut w cy b γ σ (7 + k) = eMule (fun i => σ (19 + 9 * k + i)) := by
  rw [Nat.add_comm 7 k]
  show (if k < 4 then _ else _) = _
  rw [if_pos hk]
theorem zHut_group {k : Nat} : zHut w cy b γ σ (11 + k) = eGroup (fun i => σ (55 + 6 * k + i)) := by
  rw [show 11 + k = (k + 4) + 7 by omega]
  show (if k + 4 < 4 then eMule (fun i => σ (19 + 9 * (k + 4) + i)) else eGroup (fun i => σ (55 + 6 * (k + 4 - 4) + i))) = _
  rw [if_neg (by omega), show k + 4 - 4 = k by omega]
/-- two huts hold the same at a place, where the numbers are the same -/
theorem zHut_same {o : Nat} (ho : o < 21) (h0 : o = 0 → ∀ i, i < 5 → σ i = σ' i) (h2 : o = 2 → γ = γ') (h4 : o = 4 → (fun k => σ (115 + k)) = (fun k => σ' (115 + k))) (h5 : o = 5 → ∀ i, i < 10 → σ (5 + i) = σ' (5 + i)) (h6 : o = 6 → ∀ i, i < 4 → σ (15 + i) = σ' (15 + i)) (h7 : ∀ k, k < 4 → o = 7 + k → ∀ i, i < 9 → σ (19 + 9 * k + i) = σ' (19 + 9 * k + i)) (h8 : ∀ k, k < 10 → o = 11 + k → ∀ i, i < 6 → σ (55 + 6 * k + i) = σ' (55 + 6 * k + i)) : zHut w cy b γ σ o = zHut w cy b γ' σ' o := by
  match o, ho with
  | 0, _ =>
    show eHut w b σ = eHut w b σ'
    simp only [eHut, eHutL, h0 rfl 0 (by decide), h0 rfl 1 (by decide), h0 rfl 2 (by decide), h0 rfl 3 (by decide), h0 rfl 4 (by decide)]
  | 1, _ => rfl
  | 2, _ => rw [h2 rfl]; rfl
  | 3, _ => rfl
  | 4, _ =>
    show eInts cy 21 (fun k => σ (115 + k)) = eInts cy 21 (fun k => σ' (115 + k))
    rw [h4 rfl]
  | 5, _ => exact eLedger_congr (h5 rfl)
  | 6, _ => exact eSett_congr (h6 rfl)
  | o + 7, ho =>
    by_cases hk : o < 4
    · rw [Nat.add_comm o 7, zHut_mule hk, zHut_mule hk]
      exact eMule_congr (h7 o hk (by omega))
    · rw [show o + 7 = 11 + (o - 4) by omega, zHut_group, zHut_group]
      exact eGroup_congr (h8 (o - 4) (by omega) (by omega))
/-- the shelf's row, and what lies behind it -/
def setA (σ : Nat → Int32) (a : Nat → Int32) : Nat → Int32 := fun i => if 115 ≤ i then a (i - 115) else σ i
theorem setA_lo {σ a : Nat → Int32} {i : Nat} (h : i < 115) : setA σ a i = σ i := by
  unfold setA
  rw [if_neg (by omega)]
theorem setA_hi {σ a : Nat → Int32} {i : Nat} : setA σ a (115 + i) = a i := by
  unfold setA
  rw [if_pos (by omega), Nat.add_sub_cancel_left]
theorem zu_hut {i : Nat} {x : Int32} (hi : i < 5) : va_up (zPut f b (zHut w cy b γ σ)) b (eHut w b (upd σ i x)) = zPut f b (zHut w cy b γ (upd σ i x)) := by
  refine zPut_up (o := 0) (by decide) rfl (fun o ho hne => zHut_same ho (fun e => absurd e hne) (fun _ => rfl) (fun _ => funext fun k => (upd_ne (by omega)).symm) (fun _ j hj => (upd_ne (by omega)).symm) (fun _ j hj => (upd_ne (by omega)).symm) (fun k hk e j hj => (upd_ne (by omega)).symm) (fun k hk e j hj => (upd_ne (by omega)).symm))
theorem zu_ledger {i : Nat} {x : Int32} (hi : i < 10) : va_up (zPut f b (zHut w cy b γ σ)) (b + 5) (eLedger (upd (fun j => σ (5 + j)) i x)) = zPut f b (zHut w cy b γ (upd σ (5 + i) x)) := by
  refine zPut_up (o := 5) (by decide) (eLedger_congr (fun j _ => upd_at)) (fun o ho hne => zHut_same ho (fun _ j hj => ?_) (fun _ => rfl) (fun _ => funext fun k => ?_) (fun e => absurd e hne) (fun _ j hj => ?_) (fun k hk e j hj => ?_) (fun k hk e j hj => ?_)) <;> exact (upd_ne (by omega)).symm
theorem zu_sett {i : Nat} {x : Int32} (hi : i < 4) : va_up (zPut f b (zHut w cy b γ σ)) (b + 6) (eSett (upd (fun j => σ (15 + j)) i x)) = zPut f b (zHut w cy b γ (upd σ (15 + i) x)) := by
  refine zPut_up (o := 6) (by decide) (eSett_congr (fun j _ => upd_at)) (fun o ho hne => zHut_same ho (fun _ j hj => ?_) (fun _ => rfl) (fun _ => funext fun k => ?_) (fun _ j hj => ?_) (fun e => absurd e hne) (fun k hk e j hj => ?_) (fun k hk e j hj => ?_)) <;> exact (upd_ne (by omega)).symm
theorem zu_muleF {k i : Nat} {x : Int32} (hk : k < 4) (hi : i < 9) : va_up (zPut f b (zHut w cy b γ σ)) (b + (7 + k)) (eMule (upd (fun j => σ (19 + 9 * k + j)) i x)) = zPut f b (zHut w cy b γ (upd σ (19 + 9 * k + i) x)) := by
  refine zPut_up (o := 7 + k) (by omega) ((eMule_congr (fun j _ => upd_at)).trans (zHut_mule hk).symm) (fun o ho hne => zHut_same ho (fun _ j hj => ?_) (fun _ => rfl) (fun _ => funext fun k => ?_) (fun _ j hj => ?_) (fun _ j hj => ?_) (fun k hk e j hj => ?_) (fun k hk e j hj => ?_)) <;> exact (upd_ne (by omega)).symm
theorem zu_groupF {k i : Nat} {x : Int32} (hk : k < 10) (hi : i < 6) : va_up (zPut f b (zHut w cy b γ σ)) (b + (11 + k)) (eGroup (upd (fun j => σ (55 + 6 * k + j)) i x)) = zPut f b (zHut w cy b γ (upd σ (55 + 6 * k + i) x)) := by
  refine zPut_up (o := 11 + k) (by omega) ((eGroup_congr (fun j _ => upd_at)).trans zHut_group.symm) (fun o ho hne => zHut_same ho (fun _ j hj => ?_) (fun _ => rfl) (fun _ => funext fun k => ?_) (fun _ j hj => ?_) (fun _ j hj => ?_) (fun k hk e j hj => ?_) (fun k hk e j hj => ?_)) <;> exact (upd_ne (by omega)).symm
theorem zu_mule {k : Nat} {v : Nat → Int32} (hk : k < 4) : va_up (zPut f b (zHut w cy b γ σ)) (b + (7 + k)) (eMule v) = zPut f b (zHut w cy b γ (setR σ (19 + 9 * k) 9 v)) := by
  refine zPut_up (o := 7 + k) (by omega) ((eMule_congr (fun j hj => (setR_in hj).symm)).trans (zHut_mule hk).symm) (fun o ho hne => zHut_same ho (fun _ j hj => ?_) (fun _ => rfl) (fun _ => funext fun k => ?_) (fun _ j hj => ?_) (fun _ j hj => ?_) (fun k hk e j hj => ?_) (fun k hk e j hj => ?_)) <;> exact (setR_out (by omega)).symm
theorem zu_group {k : Nat} {v : Nat → Int32} (hk : k < 10) : va_up (zPut f b (zHut w cy b γ σ)) (b + (11 + k)) (eGroup v) = zPut f b (zHut w cy b γ (setR σ (55 + 6 * k) 6 v)) := by
  refine zPut_up (o := 11 + k) (by omega) ((eGroup_congr (fun j hj => (setR_in hj).symm)).trans zHut_group.symm) (fun o ho hne => zHut_same ho (fun _ j hj => ?_) (fun _ => rfl) (fun _ => funext fun k => ?_) (fun _ j hj => ?_) (fun _ j hj => ?_) (fun k hk e j hj => ?_) (fun k hk e j hj => ?_)) <;> exact (setR_out (by omega)).symm
theorem zu_ledgerA {v : Nat → Int32} : va_up (zPut f b (zHut w cy b γ σ)) (b + 5) (eLedger v) = zPut f b (zHut w cy b γ (setR σ 5 10 v)) := by
  refine zPut_up (o := 5) (by decide) (eLedger_congr (fun j hj => (setR_in hj).symm)) (fun o ho hne => zHut_same ho (fun _ j hj => ?_) (fun _ => rfl) (fun _ => funext fun k => ?_) (fun e => absurd e hne) (fun _ j hj => ?_) (fun k hk e j hj => ?_) (fun k hk e j hj => ?_)) <;> exact (setR_out (by omega)).symm
theorem zu_settA {v : Nat → Int32} : va_up (zPut f b (zHut w cy b γ σ)) (b + 6) (eSett v) = zPut f b (zHut w cy b γ (setR σ 15 4 v)) := by
  refine zPut_up (o := 6) (by decide) (eSett_congr (fun j hj => (setR_in hj).symm)) (fun o ho hne => zHut_same ho (fun _ j hj => ?_) (fun _ => rfl) (fun _ => funext fun k => ?_) (fun _ j hj => ?_) (fun e => absurd e hne) (fun k hk e j hj => ?_) (fun k hk e j hj => ?_)) <;> exact (setR_out (by omega)).symm
theorem zu_shelf {a : Nat → Int32} : va_up (zPut f b (zHut w cy b γ σ)) (b + 4) (eInts cy 21 a) = zPut f b (zHut w cy b γ (setA σ a)) := by
  refine zPut_up (o := 4) (by decide) (congrArg (eInts cy 21) (funext fun k => setA_hi.symm)) (fun o ho hne => zHut_same ho (fun _ j hj => ?_) (fun _ => rfl) (fun e => absurd e hne) (fun _ j hj => ?_) (fun _ j hj => ?_) (fun k hk e j hj => ?_) (fun k hk e j hj => ?_)) <;> exact (setA_lo (by omega)).symm
theorem zu_groups : va_up (zPut f b (zHut w cy b γ σ)) (b + 2) (eRefs cy 3 10 (fun k => some (w.2 (b + (11 + γ' k))))) = zPut f b (zHut w cy b γ' σ) :=
  zPut_up (o := 2) (by decide) rfl (fun o ho hne => zHut_same ho (fun _ j hj => rfl) (fun e => absurd e hne) (fun _ => rfl) (fun _ j hj => rfl) (fun _ j hj => rfl) (fun k hk e j hj => rfl) (fun k hk e j hj => rfl))
end ZH
theorem zjoin {G : zJ} {κ : zκ} {f f2 : zF} {ls ls2 : List (Nat × Value)} {pc : Nat} {st st2 : List Value} (h : f2 = f) (hl : ls2 = ls) (hs : st2 = st) (k : G κ f2 ls2 pc st2) : G κ f ls pc st := h ▸ hl ▸ hs ▸ k
theorem zpr_of (n : Nat) : nI n - 1 = zpr n := by
  cases n with
  | zero => decide
  | succ n => exact nI_pred n
theorem zcw {G : zJ} {κ : zκ} {f f2 : zF} {ls : List (Nat × Value)} {pc : Nat} {st : List Value} (h : f = f2) (k : G κ f2 ls pc st) : G κ f ls pc st := h ▸ k
