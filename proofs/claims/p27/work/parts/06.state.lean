def zCv (y : MethodName) (cc : ByteArray) (nL : Nat) (ret : Option FieldType) (C : String) (n : Nat) : Prop := Cond.code y cc nL ret ∈ zTb ∧ Cond.initialized y.cls ∈ zTb ∧ Cond.instanceMethod y ∈ zTb ∧ Cond.selects C y y ∈ zTb ∧ y.cls = C ∧ y.cls ≠ "java/lang/invoke/MethodHandle" ∧ y.cls ≠ "java/lang/invoke/VarHandle" ∧ (parseMethodDescriptor y.desc).map (fun d => d.parameters.length) = some n
def zCs (y : MethodName) (cc : ByteArray) (nL : Nat) (ret : Option FieldType) (n : Nat) : Prop := Cond.code y cc nL ret ∈ zTb ∧ Cond.initialized y.cls ∈ zTb ∧ Cond.static y ∈ zTb ∧ y.cls ≠ "java/lang/invoke/MethodHandle" ∧ y.cls ≠ "java/lang/invoke/VarHandle" ∧ (parseMethodDescriptor y.desc).map (fun d => d.parameters.length) = some n
def zCi (y : MethodName) (cc : ByteArray) (nL n : Nat) : Prop := Cond.code y cc nL none ∈ zTb ∧ Cond.initialized y.cls ∈ zTb ∧ Cond.instanceMethod y ∈ zTb ∧ y.name = "<init>" ∧ y.cls ≠ "java/lang/invoke/MethodHandle" ∧ y.cls ≠ "java/lang/invoke/VarHandle" ∧ (parseMethodDescriptor y.desc).map (fun d => d.parameters.length) = some n
/-- a contract with one answer and one world behind it; nothing is made -/
def zSd (l : Launch) (D : va_G) (cy : Nat → ClassId) (y : MethodName) (cc : ByteArray) (nL : Nat) (ret : Option FieldType) (fr lo : Nat) (av : List Value) (w : zW) (f : zF) (r : Option Value) (f' : zF) : Prop :=
  zM l D cy y cc nL ret { frames := fr, cells := 0, slots := 0, locals := lo } av w f (fun r0 w' g => w' = w ∧ r0 = r ∧ g = f')
/-- a contract with what is so behind it; nothing is made -/
def zSp (l : Launch) (D : va_G) (cy : Nat → ClassId) (y : MethodName) (cc : ByteArray) (nL : Nat) (ret : Option FieldType) (fr lo : Nat) (av : List Value) (w : zW) (f : zF) (post : Option Value → zF → Prop) : Prop :=
  zM l D cy y cc nL ret { frames := fr, cells := 0, slots := 0, locals := lo } av w f (fun r0 w' g => w' = w ∧ post r0 g)
def zEd (cc : ByteArray) (ret : Option FieldType) (w : zW) (r : Option Value) (f' : zF) (G : zJ) : Prop := zE cc ret w 0 0 (fun r0 w' g => w' = w ∧ r0 = r ∧ g = f') G
section ZS
variable {l : Launch} {D : va_G} {cy : Nat → ClassId} {own : String} {cc : ByteArray} {nL : Nat} {R : Room} {nm : String} {G : zJ} {κ : zκ} {f f' : zF} {ls ls' : List (Nat × Value)} {pc : Nat} {st st' : List Value}
variable {y : MethodName} {ret : Option FieldType} {fr lo : Nat} {av : List Value} {w : zW} {r : Option Value}
theorem zSd.intro (hy : plainName y.cls = true) (hn : (lg_sl av).length ≤ nL)
    (body : ∀ G : zJ, zX l D cy y.cls cc nL { frames := fr, cells := 0, slots := 0, locals := lo } y.name G → zE cc ret w 0 0 (fun r0 w' g => w' = w ∧ r0 = r ∧ g = f') G → G (w, 0, 0) f (lv_args 0 av) 0 []) : zSd l D cy y cc nL ret fr lo av w f r f' := zM.intro hy hn body
theorem zSp.intro {post : Option Value → zF → Prop} (hy : plainName y.cls = true) (hn : (lg_sl av).length ≤ nL)
    (body : ∀ G : zJ, zX l D cy y.cls cc nL { frames := fr, cells := 0, slots := 0, locals := lo } y.name G → zE cc ret w 0 0 (fun r0 w' g => w' = w ∧ post r0 g) G → G (w, 0, 0) f (lv_args 0 av) 0 []) : zSp l D cy y cc nL ret fr lo av w f post := zM.intro hy hn body
theorem zSd.sp {post : Option Value → zF → Prop} (h : zSd l D cy y cc nL ret fr lo av w f r f') (hp : post r f') : zSp l D cy y cc nL ret fr lo av w f post :=
  zM.post h (fun r0 w' g ⟨a, b, c⟩ => ⟨a, by rw [b, c]; exact hp⟩)
theorem zSd.eq {r2 : Option Value} {f2 : zF} (h : zSd l D cy y cc nL ret fr lo av w f r f') (h1 : r = r2) (h2 : f' = f2) : zSd l D cy y cc nL ret fr lo av w f r2 f2 := h1 ▸ h2 ▸ h
theorem zSd.eq0 {f2 : zF} (h : zSd l D cy y cc nL ret fr lo av w f r f') (h2 : f = f2) : zSd l D cy y cc nL ret fr lo av w f2 r f' := h2 ▸ h
theorem zret_i {v v' : Int32} (E : zE cc ret w 0 0 (fun r0 w' g => w' = w ∧ r0 = some (.int v') ∧ g = f') G) (hr : ret = some .int) (d : decode cc pc = .ok (.ireturn, 1)) (hv : v = v') (hf : f = f') : G (w, 0, 0) f ls pc [.int v] :=
  E.1 (w, 0, 0) f ls pc v (Or.inl hr) d (Nat.le_refl _) (Nat.le_refl _) ⟨Nat.le_refl _, fun _ _ => rfl⟩ ⟨rfl, by rw [hv], hf⟩
theorem zret_z {v v' : Int32} (E : zE cc ret w 0 0 (fun r0 w' g => w' = w ∧ r0 = some (.int v') ∧ g = f') G) (hr : ret = some .boolean) (h01 : v = 0 ∨ v = 1) (d : decode cc pc = .ok (.ireturn, 1)) (hv : v = v') (hf : f = f') : G (w, 0, 0) f ls pc [.int v] :=
  E.1 (w, 0, 0) f ls pc v (Or.inr ⟨hr, h01⟩) d (Nat.le_refl _) (Nat.le_refl _) ⟨Nat.le_refl _, fun _ _ => rfl⟩ ⟨rfl, by rw [hv], hf⟩
theorem zret_v (E : zE cc ret w 0 0 (fun r0 w' g => w' = w ∧ r0 = none ∧ g = f') G) (hr : ret = none) (d : decode cc pc = .ok (.return_, 1)) (hf : f = f') : G (w, 0, 0) f ls pc [] :=
  E.2.1 (w, 0, 0) f ls pc hr d (Nat.le_refl _) (Nat.le_refl _) ⟨Nat.le_refl _, fun _ _ => rfl⟩ ⟨rfl, rfl, hf⟩
theorem zret_a {v v' : Value} (E : zE cc ret w 0 0 (fun r0 w' g => w' = w ∧ r0 = some v' ∧ g = f') G) (hr : ∃ n, ret = some (.object n)) (hv9 : v = .null ∨ ∃ a, v = .ref a) (d : decode cc pc = .ok (.areturn, 1)) (hv : v = v') (hf : f = f') : G (w, 0, 0) f ls pc [v] :=
  E.2.2 (w, 0, 0) f ls pc v hr hv9 d (Nat.le_refl _) (Nat.le_refl _) ⟨Nat.le_refl _, fun _ _ => rfl⟩ ⟨rfl, by rw [hv], hf⟩
theorem zretp_i {post : Option Value → zF → Prop} {v : Int32} (E : zE cc ret w 0 0 (fun r0 w' g => w' = w ∧ post r0 g) G) (hr : ret = some .int) (d : decode cc pc = .ok (.ireturn, 1)) (hp : post (some (.int v)) f) : G (w, 0, 0) f ls pc [.int v] :=
  E.1 (w, 0, 0) f ls pc v (Or.inl hr) d (Nat.le_refl _) (Nat.le_refl _) ⟨Nat.le_refl _, fun _ _ => rfl⟩ ⟨rfl, hp⟩
theorem zretp_z {post : Option Value → zF → Prop} {v : Int32} (E : zE cc ret w 0 0 (fun r0 w' g => w' = w ∧ post r0 g) G) (hr : ret = some .boolean) (h01 : v = 0 ∨ v = 1) (d : decode cc pc = .ok (.ireturn, 1)) (hp : post (some (.int v)) f) : G (w, 0, 0) f ls pc [.int v] :=
  E.1 (w, 0, 0) f ls pc v (Or.inr ⟨hr, h01⟩) d (Nat.le_refl _) (Nat.le_refl _) ⟨Nat.le_refl _, fun _ _ => rfl⟩ ⟨rfl, hp⟩
theorem zretp_v {post : Option Value → zF → Prop} (E : zE cc ret w 0 0 (fun r0 w' g => w' = w ∧ post r0 g) G) (hr : ret = none) (d : decode cc pc = .ok (.return_, 1)) (hp : post none f) : G (w, 0, 0) f ls pc [] :=
  E.2.1 (w, 0, 0) f ls pc hr d (Nat.le_refl _) (Nat.le_refl _) ⟨Nat.le_refl _, fun _ _ => rfl⟩ ⟨rfl, hp⟩
theorem zcast {f2 : zF} {ls2 : List (Nat × Value)} (hf : f = f2) (hl : ls = ls2) (k : G κ f2 ls2 pc st) : G κ f ls pc st := hf ▸ hl ▸ k
theorem zdown {P : Nat → Prop} {B : Nat} (hB : P B) (hs : ∀ n, n < B → P (n + 1) → P n) : ∀ n, n ≤ B → P n := by
  intro n hn
  obtain ⟨k, hk⟩ : ∃ k, k = B - n := ⟨_, rfl⟩
  induction k generalizing n with
  | zero => rw [show n = B by omega]; exact hB
  | succ k ih => exact hs n (by omega) (ih (n + 1) (by omega) (by omega))
variable {yc : ByteArray} {yL n index : Nat} {As rest : List Value}
theorem zr_cV (X : zX l D cy own cc nL R nm G) {C : String} {ci : Nat} {q9 : vw_C} {fs : List Value} (hy : zCv y yc yL ret C n) (t : Nat) (ht : t < κ.1.1) (hf : f t = .inr (ci, fs)) (hci : vwCl[ci]? = some q9) (hC : q9.1 = C) (hM : zSd l D cy y yc yL ret fr lo (.ref (κ.1.2 t) :: As) κ.1 f r f') (hr : fr + 1 ≤ R.frames ∧ 8 + (yL + 11) + lo ≤ R.locals) (hk : κ.2.1 ≤ R.cells ∧ κ.2.2 ≤ R.slots) (hn : As.length = n) (hW : (rest.map fun v => v.category).sum ≤ 8) (hlink : Cond.methodLink own index y ∈ zTb) (hst : st = As.reverse ++ .ref (κ.1.2 t) :: rest) (d : decode cc pc = .ok (.invokevirtual index, 3)) (hst' : r.toList ++ rest = st') (k : G κ f' ls (pc + 3) st') : G κ f ls pc st := by
  obtain ⟨h1, h2, h3, h4, h5⟩ := hy
  refine zr_callV X t ht hf hci hC hM h5 h1 h2 ⟨hr.1, hr.2, hk⟩ hn hW hlink h3 h4 hst d (fun r0 w' g hq => ?_)
  obtain ⟨rfl, rfl, rfl⟩ := hq
  rw [hst']
  exact k
theorem zr_cS (X : zX l D cy own cc nL R nm G) (hy : zCs y yc yL ret n) (hM : zSd l D cy y yc yL ret fr lo As κ.1 f r f') (hr : fr + 1 ≤ R.frames ∧ 8 + (yL + 11) + lo ≤ R.locals) (hk : κ.2.1 ≤ R.cells ∧ κ.2.2 ≤ R.slots) (hn : As.length = n) (hW : (rest.map fun v => v.category).sum ≤ 8) (hlink : Cond.methodLink own index y ∈ zTb) (hst : st = As.reverse ++ rest) (d : decode cc pc = .ok (.invokestatic index, 3)) (hst' : r.toList ++ rest = st') (k : G κ f' ls (pc + 3) st') : G κ f ls pc st := by
  obtain ⟨h1, h2, h3, h5⟩ := hy
  refine zr_callS X hM h5 h1 h2 ⟨hr.1, hr.2, hk⟩ hn hW hlink h3 hst d (fun r0 w' g hq => ?_)
  obtain ⟨rfl, rfl, rfl⟩ := hq
  rw [hst']
  exact k
theorem zr_cSN (X : zX l D cy own cc nL R nm G) {host : String} (hy : zCs y yc yL ret n) (hM : zSd l D cy y yc yL ret fr lo As κ.1 f r f') (hr : fr + 1 ≤ R.frames ∧ 8 + (yL + 11) + lo ≤ R.locals) (hk : κ.2.1 ≤ R.cells ∧ κ.2.2 ≤ R.slots) (hn : As.length = n) (hW : (rest.map fun v => v.category).sum ≤ 8) (hlink : Cond.methodLinkNest own index y host ∈ zNests) (hst : st = As.reverse ++ rest) (d : decode cc pc = .ok (.invokestatic index, 3)) (hst' : r.toList ++ rest = st') (k : G κ f' ls (pc + 3) st') : G κ f ls pc st := by
  obtain ⟨h1, h2, h3, h5⟩ := hy
  refine zr_callSN X hM h5 h1 h2 ⟨hr.1, hr.2, hk⟩ hn hW hlink h3 hst d (fun r0 w' g hq => ?_)
  obtain ⟨rfl, rfl, rfl⟩ := hq
  rw [hst']
  exact k
theorem zr_cVp (X : zX l D cy own cc nL R nm G) {post : Option Value → zF → Prop} {C : String} {ci : Nat} {q9 : vw_C} {fs : List Value} (hy : zCv y yc yL ret C n) (t : Nat) (ht : t < κ.1.1) (hf : f t = .inr (ci, fs)) (hci : vwCl[ci]? = some q9) (hC : q9.1 = C) (hM : zSp l D cy y yc yL ret fr lo (.ref (κ.1.2 t) :: As) κ.1 f post) (hr : fr + 1 ≤ R.frames ∧ 8 + (yL + 11) + lo ≤ R.locals) (hk : κ.2.1 ≤ R.cells ∧ κ.2.2 ≤ R.slots) (hn : As.length = n) (hW : (rest.map fun v => v.category).sum ≤ 8) (hlink : Cond.methodLink own index y ∈ zTb) (hst : st = As.reverse ++ .ref (κ.1.2 t) :: rest) (d : decode cc pc = .ok (.invokevirtual index, 3)) (k : ∀ (r : Option Value) (f' : zF), post r f' → G κ f' ls (pc + 3) (r.toList ++ rest)) : G κ f ls pc st := by
  obtain ⟨h1, h2, h3, h4, h5⟩ := hy
  refine zr_callV X t ht hf hci hC hM h5 h1 h2 ⟨hr.1, hr.2, hk⟩ hn hW hlink h3 h4 hst d (fun r0 w' g hq => ?_)
  obtain ⟨rfl, hp⟩ := hq
  exact k r0 g hp
end ZS
theorem zfd_RX7_9 : zFd RX7 9 7 0 := ⟨_, _, _, _, rfl, zin_X7, by decide, zm_1_35, rfl⟩
theorem zfd_RX3_7 : zFd RX3 7 3 0 := ⟨_, _, _, _, rfl, zin_X3, by decide, zm_1_46, rfl⟩
theorem zfd_RX3_13 : zFd RX3 13 3 1 := ⟨_, _, _, _, rfl, zin_X3, by decide, zm_1_48, rfl⟩
theorem zfd_RX3_16 : zFd RX3 16 3 2 := ⟨_, _, _, _, rfl, zin_X3, by decide, zm_1_50, rfl⟩
theorem zfd_RX3_19 : zFd RX3 19 3 3 := ⟨_, _, _, _, rfl, zin_X3, by decide, zm_1_52, rfl⟩
theorem zfd_RX3_22 : zFd RX3 22 3 4 := ⟨_, _, _, _, rfl, zin_X3, by decide, zm_1_54, rfl⟩
theorem zfd_RX3_25 : zFd RX3 25 3 5 := ⟨_, _, _, _, rfl, zin_X3, by decide, zm_1_56, rfl⟩
theorem zfd_RX3_28 : zFd RX3 28 3 6 := ⟨_, _, _, _, rfl, zin_X3, by decide, zm_1_58, rfl⟩
theorem zfd_RX3_31 : zFd RX3 31 3 7 := ⟨_, _, _, _, rfl, zin_X3, by decide, zm_1_60, rfl⟩
theorem zfd_RX3_34 : zFd RX3 34 3 8 := ⟨_, _, _, _, rfl, zin_X3, by decide, zm_1_62, rfl⟩
theorem zfd_RX3_37 : zFd RX3 37 3 9 := ⟨_, _, _, _, rfl, zin_X3, by decide, zm_1_64, rfl⟩
theorem zfd_RX6_9 : zFd RX6 9 6 0 := ⟨_, _, _, _, rfl, zin_X6, by decide, zm_1_93, rfl⟩
theorem zfd_RX6_15 : zFd RX6 15 6 1 := ⟨_, _, _, _, rfl, zin_X6, by decide, zm_1_95, rfl⟩
theorem zfd_RX6_18 : zFd RX6 18 6 2 := ⟨_, _, _, _, rfl, zin_X6, by decide, zm_1_97, rfl⟩
theorem zfd_RX6_21 : zFd RX6 21 6 3 := ⟨_, _, _, _, rfl, zin_X6, by decide, zm_1_99, rfl⟩
theorem zfd_RX4_9 : zFd RX4 9 4 0 := ⟨_, _, _, _, rfl, zin_X4, by decide, zm_1_115, rfl⟩
theorem zfd_RX4_15 : zFd RX4 15 4 1 := ⟨_, _, _, _, rfl, zin_X4, by decide, zm_1_117, rfl⟩
theorem zfd_RX4_18 : zFd RX4 18 4 2 := ⟨_, _, _, _, rfl, zin_X4, by decide, zm_1_118, rfl⟩
theorem zfd_RX4_21 : zFd RX4 21 4 3 := ⟨_, _, _, _, rfl, zin_X4, by decide, zm_1_120, rfl⟩
theorem zfd_RX4_24 : zFd RX4 24 4 4 := ⟨_, _, _, _, rfl, zin_X4, by decide, zm_1_121, rfl⟩
theorem zfd_RX4_27 : zFd RX4 27 4 5 := ⟨_, _, _, _, rfl, zin_X4, by decide, zm_1_123, rfl⟩
theorem zfd_RX4_30 : zFd RX4 30 4 6 := ⟨_, _, _, _, rfl, zin_X4, by decide, zm_1_125, rfl⟩
theorem zfd_RX4_33 : zFd RX4 33 4 7 := ⟨_, _, _, _, rfl, zin_X4, by decide, zm_1_127, rfl⟩
theorem zfd_RX4_36 : zFd RX4 36 4 8 := ⟨_, _, _, _, rfl, zin_X4, by decide, zm_1_128, rfl⟩
theorem zfd_RX0_9 : zFd RX0 9 0 0 := ⟨_, _, _, _, rfl, zin_X0, by decide, zm_1_153, rfl⟩
theorem zfd_RX0_15 : zFd RX0 15 0 1 := ⟨_, _, _, _, rfl, zin_X0, by decide, zm_1_156, rfl⟩
theorem zfd_RX0_18 : zFd RX0 18 0 2 := ⟨_, _, _, _, rfl, zin_X0, by decide, zm_1_158, rfl⟩
theorem zfd_RX0_21 : zFd RX0 21 0 3 := ⟨_, _, _, _, rfl, zin_X0, by decide, zm_1_159, rfl⟩
theorem zfd_RX0_24 : zFd RX0 24 0 4 := ⟨_, _, _, _, rfl, zin_X0, by decide, zm_1_160, rfl⟩
theorem zfd_RX0_27 : zFd RX0 27 0 5 := ⟨_, _, _, _, rfl, zin_X0, by decide, zm_1_162, rfl⟩
theorem zfd_RX2_11 : zFd RX2 11 2 0 := ⟨_, _, _, _, rfl, zin_X2, by decide, zm_1_177, rfl⟩
theorem zfd_RX2_19 : zFd RX2 19 2 1 := ⟨_, _, _, _, rfl, zin_X2, by decide, zm_1_178, rfl⟩
theorem zfd_RX2_26 : zFd RX2 26 2 2 := ⟨_, _, _, _, rfl, zin_X2, by decide, zm_1_179, rfl⟩
theorem zfd_RX2_33 : zFd RX2 33 2 3 := ⟨_, _, _, _, rfl, zin_X2, by decide, zm_1_181, rfl⟩
theorem zfd_RX2_40 : zFd RX2 40 2 4 := ⟨_, _, _, _, rfl, zin_X2, by decide, zm_1_182, rfl⟩
theorem zfd_RX2_50 : zFd RX2 50 2 5 := ⟨_, _, _, _, rfl, zin_X2, by decide, zm_1_184, rfl⟩
theorem zfd_RX2_53 : zFd RX2 53 2 6 := ⟨_, _, _, _, rfl, zin_X2, by decide, zm_1_185, rfl⟩
theorem zfd_RX2_56 : zFd RX2 56 2 7 := ⟨_, _, _, _, rfl, zin_X2, by decide, zm_1_186, rfl⟩
theorem zfd_RX2_59 : zFd RX2 59 2 8 := ⟨_, _, _, _, rfl, zin_X2, by decide, zm_1_187, rfl⟩
theorem zfd_RX2_44 : zFd RX2 44 2 9 := ⟨_, _, _, _, rfl, zin_X2, by decide, zm_1_189, rfl⟩
theorem zfd_RX1_11 : zFd RX1 11 1 0 := ⟨_, _, _, _, rfl, zin_X1, by decide, zm_1_220, rfl⟩
theorem zfd_RX1_18 : zFd RX1 18 1 1 := ⟨_, _, _, _, rfl, zin_X1, by decide, zm_1_221, rfl⟩
theorem zfd_RX5_9 : zFd RX5 9 5 0 := ⟨_, _, _, _, rfl, zin_X5, by decide, zm_1_234, rfl⟩
theorem zfd_RX5_15 : zFd RX5 15 5 1 := ⟨_, _, _, _, rfl, zin_X5, by decide, zm_1_235, rfl⟩
theorem zfd_RX8_10 : zFd RX8 10 8 0 := ⟨_, _, _, _, rfl, zin_X8, by decide, zm_2_13, rfl⟩
theorem zfd_RX8_16 : zFd RX8 16 8 1 := ⟨_, _, _, _, rfl, zin_X8, by decide, zm_2_14, rfl⟩
theorem zfd_RX8_22 : zFd RX8 22 8 2 := ⟨_, _, _, _, rfl, zin_X8, by decide, zm_2_15, rfl⟩
theorem zfd_RX8_29 : zFd RX8 29 8 3 := ⟨_, _, _, _, rfl, zin_X8, by decide, zm_2_16, rfl⟩
theorem zfn_RX2_128 : zFn RX2 128 3 0 := ⟨_, _, _, _, _, rfl, zin_X3, by decide, List.mem_of_getElem? (i := 0) rfl, rfl⟩
theorem zfn_RX2_105 : zFn RX2 105 3 1 := ⟨_, _, _, _, _, rfl, zin_X3, by decide, List.mem_of_getElem? (i := 1) rfl, rfl⟩
theorem zfn_RX2_122 : zFn RX2 122 3 2 := ⟨_, _, _, _, _, rfl, zin_X3, by decide, List.mem_of_getElem? (i := 2) rfl, rfl⟩
theorem zfn_RX2_145 : zFn RX2 145 3 3 := ⟨_, _, _, _, _, rfl, zin_X3, by decide, List.mem_of_getElem? (i := 3) rfl, rfl⟩
theorem zfn_RX2_171 : zFn RX2 171 3 4 := ⟨_, _, _, _, _, rfl, zin_X3, by decide, List.mem_of_getElem? (i := 4) rfl, rfl⟩
theorem zfn_RX2_197 : zFn RX2 197 3 5 := ⟨_, _, _, _, _, rfl, zin_X3, by decide, List.mem_of_getElem? (i := 5) rfl, rfl⟩
theorem zfn_RX2_154 : zFn RX2 154 3 6 := ⟨_, _, _, _, _, rfl, zin_X3, by decide, List.mem_of_getElem? (i := 6) rfl, rfl⟩
theorem zfn_RX2_213 : zFn RX2 213 3 7 := ⟨_, _, _, _, _, rfl, zin_X3, by decide, List.mem_of_getElem? (i := 7) rfl, rfl⟩
theorem zfn_RX2_220 : zFn RX2 220 3 8 := ⟨_, _, _, _, _, rfl, zin_X3, by decide, List.mem_of_getElem? (i := 8) rfl, rfl⟩
theorem zfn_RX2_131 : zFn RX2 131 3 9 := ⟨_, _, _, _, _, rfl, zin_X3, by decide, List.mem_of_getElem? (i := 9) rfl, rfl⟩
theorem zfn_RX2_108 : zFn RX2 108 6 0 := ⟨_, _, _, _, _, rfl, zin_X6, by decide, List.mem_of_getElem? (i := 10) rfl, rfl⟩
theorem zfn_RX2_111 : zFn RX2 111 6 1 := ⟨_, _, _, _, _, rfl, zin_X6, by decide, List.mem_of_getElem? (i := 11) rfl, rfl⟩
theorem zfn_RX2_203 : zFn RX2 203 6 2 := ⟨_, _, _, _, _, rfl, zin_X6, by decide, List.mem_of_getElem? (i := 12) rfl, rfl⟩
theorem zfn_RX2_151 : zFn RX2 151 6 3 := ⟨_, _, _, _, _, rfl, zin_X6, by decide, List.mem_of_getElem? (i := 13) rfl, rfl⟩
theorem zfn_RX2_102 : zFn RX2 102 4 0 := ⟨_, _, _, _, _, rfl, zin_X4, by decide, List.mem_of_getElem? (i := 14) rfl, rfl⟩
theorem zfn_RX2_99 : zFn RX2 99 4 2 := ⟨_, _, _, _, _, rfl, zin_X4, by decide, List.mem_of_getElem? (i := 15) rfl, rfl⟩
theorem zfn_RX2_227 : zFn RX2 227 4 4 := ⟨_, _, _, _, _, rfl, zin_X4, by decide, List.mem_of_getElem? (i := 16) rfl, rfl⟩
theorem zfn_RX2_183 : zFn RX2 183 4 5 := ⟨_, _, _, _, _, rfl, zin_X4, by decide, List.mem_of_getElem? (i := 17) rfl, rfl⟩
theorem zfn_RX2_125 : zFn RX2 125 4 6 := ⟨_, _, _, _, _, rfl, zin_X4, by decide, List.mem_of_getElem? (i := 18) rfl, rfl⟩
theorem zfn_RX2_86 : zFn RX2 86 0 0 := ⟨_, _, _, _, _, rfl, zin_X0, by decide, List.mem_of_getElem? (i := 19) rfl, rfl⟩
theorem zfn_RX8_99 : zFn RX8 99 0 0 := ⟨_, _, _, _, _, rfl, zin_X0, by decide, List.mem_of_getElem? (i := 20) rfl, rfl⟩
theorem zfn_RX2_214 : zFn RX2 214 0 1 := ⟨_, _, _, _, _, rfl, zin_X0, by decide, List.mem_of_getElem? (i := 21) rfl, rfl⟩
theorem zfn_RX2_217 : zFn RX2 217 0 4 := ⟨_, _, _, _, _, rfl, zin_X0, by decide, List.mem_of_getElem? (i := 22) rfl, rfl⟩
theorem zfn_RX2_210 : zFn RX2 210 0 5 := ⟨_, _, _, _, _, rfl, zin_X0, by decide, List.mem_of_getElem? (i := 23) rfl, rfl⟩
theorem zfn_RX8_106 : zFn RX8 106 2 2 := ⟨_, _, _, _, _, rfl, zin_X2, by decide, List.mem_of_getElem? (i := 24) rfl, rfl⟩
theorem zfn_RX8_64 : zFn RX8 64 2 4 := ⟨_, _, _, _, _, rfl, zin_X2, by decide, List.mem_of_getElem? (i := 25) rfl, rfl⟩
theorem zfn_RX8_90 : zFn RX8 90 2 8 := ⟨_, _, _, _, _, rfl, zin_X2, by decide, List.mem_of_getElem? (i := 26) rfl, rfl⟩
theorem zfn_RX8_164 : zFn RX8 164 1 1 := ⟨_, _, _, _, _, rfl, zin_X1, by decide, List.mem_of_getElem? (i := 27) rfl, rfl⟩
theorem zfn_RX8_167 : zFn RX8 167 5 2 := ⟨_, _, _, _, _, rfl, zin_X5, by decide, List.mem_of_getElem? (i := 28) rfl, rfl⟩
theorem zty_0_0 : zTy 0 0 false RX0 .int := ⟨_, _, _, _, rfl, tyX0_ok, nmX0, rfl, fun _ => rfl, by decide +kernel⟩
theorem zty_0_1 : zTy 0 1 false RX0 .int := ⟨_, _, _, _, rfl, tyX0_ok, nmX0, rfl, fun _ => rfl, by decide +kernel⟩
theorem zty_0_2 : zTy 0 2 false RX0 .int := ⟨_, _, _, _, rfl, tyX0_ok, nmX0, rfl, fun _ => rfl, by decide +kernel⟩
theorem zty_0_3 : zTy 0 3 false RX0 .int := ⟨_, _, _, _, rfl, tyX0_ok, nmX0, rfl, fun _ => rfl, by decide +kernel⟩
theorem zty_0_4 : zTy 0 4 false RX0 .int := ⟨_, _, _, _, rfl, tyX0_ok, nmX0, rfl, fun _ => rfl, by decide +kernel⟩
theorem zty_0_5 : zTy 0 5 false RX0 .int := ⟨_, _, _, _, rfl, tyX0_ok, nmX0, rfl, fun _ => rfl, by decide +kernel⟩
theorem zty_1_0 : zTy 1 0 true RX1 (.array (.object "HutLoaves$Hut")) := ⟨_, _, _, _, rfl, tyX1_ok, nmX1, rfl, fun _ => rfl, by decide +kernel⟩
theorem zty_1_1 : zTy 1 1 false RX1 .int := ⟨_, _, _, _, rfl, tyX1_ok, nmX1, rfl, fun _ => rfl, by decide +kernel⟩
theorem zty_2_0 : zTy 2 0 true RX2 (.array (.object "HutLoaves$Mule")) := ⟨_, _, _, _, rfl, tyX2_ok, nmX2, rfl, fun _ => rfl, by decide +kernel⟩
theorem zty_2_1 : zTy 2 1 true RX2 (.array (.object "HutLoaves$Group")) := ⟨_, _, _, _, rfl, tyX2_ok, nmX2, rfl, fun _ => rfl, by decide +kernel⟩
theorem zty_2_2 : zTy 2 2 true RX2 (.object "HutLoaves$Shelf") := ⟨_, _, _, _, rfl, tyX2_ok, nmX2, rfl, fun _ => rfl, by decide +kernel⟩
theorem zty_2_3 : zTy 2 3 true RX2 (.object "HutLoaves$Ledger") := ⟨_, _, _, _, rfl, tyX2_ok, nmX2, rfl, fun _ => rfl, by decide +kernel⟩
theorem zty_2_4 : zTy 2 4 true RX2 (.object "HutLoaves$Settings") := ⟨_, _, _, _, rfl, tyX2_ok, nmX2, rfl, fun _ => rfl, by decide +kernel⟩
theorem zty_2_5 : zTy 2 5 false RX2 .int := ⟨_, _, _, _, rfl, tyX2_ok, nmX2, rfl, fun _ => rfl, by decide +kernel⟩
theorem zty_2_6 : zTy 2 6 false RX2 .int := ⟨_, _, _, _, rfl, tyX2_ok, nmX2, rfl, fun _ => rfl, by decide +kernel⟩
theorem zty_2_7 : zTy 2 7 false RX2 .int := ⟨_, _, _, _, rfl, tyX2_ok, nmX2, rfl, fun _ => rfl, by decide +kernel⟩
theorem zty_2_8 : zTy 2 8 false RX2 .int := ⟨_, _, _, _, rfl, tyX2_ok, nmX2, rfl, fun _ => rfl, by decide +kernel⟩
theorem zty_2_9 : zTy 2 9 false RX2 .int := ⟨_, _, _, _, rfl, tyX2_ok, nmX2, rfl, fun _ => rfl, by decide +kernel⟩
theorem zty_3_0 : zTy 3 0 false RX3 .int := ⟨_, _, _, _, rfl, tyX3_ok, nmX3, rfl, fun _ => rfl, by decide +kernel⟩
theorem zty_3_1 : zTy 3 1 false RX3 .int := ⟨_, _, _, _, rfl, tyX3_ok, nmX3, rfl, fun _ => rfl, by decide +kernel⟩
theorem zty_3_2 : zTy 3 2 false RX3 .int := ⟨_, _, _, _, rfl, tyX3_ok, nmX3, rfl, fun _ => rfl, by decide +kernel⟩
theorem zty_3_3 : zTy 3 3 false RX3 .int := ⟨_, _, _, _, rfl, tyX3_ok, nmX3, rfl, fun _ => rfl, by decide +kernel⟩
theorem zty_3_4 : zTy 3 4 false RX3 .int := ⟨_, _, _, _, rfl, tyX3_ok, nmX3, rfl, fun _ => rfl, by decide +kernel⟩
theorem zty_3_5 : zTy 3 5 false RX3 .int := ⟨_, _, _, _, rfl, tyX3_ok, nmX3, rfl, fun _ => rfl, by decide +kernel⟩
theorem zty_3_6 : zTy 3 6 false RX3 .int := ⟨_, _, _, _, rfl, tyX3_ok, nmX3, rfl, fun _ => rfl, by decide +kernel⟩
theorem zty_3_7 : zTy 3 7 false RX3 .int := ⟨_, _, _, _, rfl, tyX3_ok, nmX3, rfl, fun _ => rfl, by decide +kernel⟩
theorem zty_3_8 : zTy 3 8 false RX3 .int := ⟨_, _, _, _, rfl, tyX3_ok, nmX3, rfl, fun _ => rfl, by decide +kernel⟩
theorem zty_3_9 : zTy 3 9 false RX3 .int := ⟨_, _, _, _, rfl, tyX3_ok, nmX3, rfl, fun _ => rfl, by decide +kernel⟩
theorem zty_4_0 : zTy 4 0 false RX4 .int := ⟨_, _, _, _, rfl, tyX4_ok, nmX4, rfl, fun _ => rfl, by decide +kernel⟩
theorem zty_4_1 : zTy 4 1 false RX4 .int := ⟨_, _, _, _, rfl, tyX4_ok, nmX4, rfl, fun _ => rfl, by decide +kernel⟩
theorem zty_4_2 : zTy 4 2 false RX4 .int := ⟨_, _, _, _, rfl, tyX4_ok, nmX4, rfl, fun _ => rfl, by decide +kernel⟩
theorem zty_4_3 : zTy 4 3 false RX4 .int := ⟨_, _, _, _, rfl, tyX4_ok, nmX4, rfl, fun _ => rfl, by decide +kernel⟩
theorem zty_4_4 : zTy 4 4 false RX4 .int := ⟨_, _, _, _, rfl, tyX4_ok, nmX4, rfl, fun _ => rfl, by decide +kernel⟩
theorem zty_4_5 : zTy 4 5 false RX4 .int := ⟨_, _, _, _, rfl, tyX4_ok, nmX4, rfl, fun _ => rfl, by decide +kernel⟩
theorem zty_4_6 : zTy 4 6 false RX4 .int := ⟨_, _, _, _, rfl, tyX4_ok, nmX4, rfl, fun _ => rfl, by decide +kernel⟩
theorem zty_4_7 : zTy 4 7 false RX4 .int := ⟨_, _, _, _, rfl, tyX4_ok, nmX4, rfl, fun _ => rfl, by decide +kernel⟩
theorem zty_4_8 : zTy 4 8 false RX4 .int := ⟨_, _, _, _, rfl, tyX4_ok, nmX4, rfl, fun _ => rfl, by decide +kernel⟩
theorem zty_5_0 : zTy 5 0 true RX5 (.array .char) := ⟨_, _, _, _, rfl, tyX5_ok, nmX5, rfl, fun _ => rfl, by decide +kernel⟩
theorem zty_5_1 : zTy 5 1 true RX5 (.array .int) := ⟨_, _, _, _, rfl, tyX5_ok, nmX5, rfl, fun _ => rfl, by decide +kernel⟩
theorem zty_5_2 : zTy 5 2 false RX5 .int := ⟨_, _, _, _, rfl, tyX5_ok, nmX5, rfl, fun _ => rfl, by decide +kernel⟩
theorem zty_5_3 : zTy 5 3 false RX5 .int := ⟨_, _, _, _, rfl, tyX5_ok, nmX5, rfl, fun _ => rfl, by decide +kernel⟩
theorem zty_5_4 : zTy 5 4 false RX5 .int := ⟨_, _, _, _, rfl, tyX5_ok, nmX5, rfl, fun _ => rfl, by decide +kernel⟩
theorem zty_5_5 : zTy 5 5 false RX5 .int := ⟨_, _, _, _, rfl, tyX5_ok, nmX5, rfl, fun _ => rfl, by decide +kernel⟩
theorem zty_5_6 : zTy 5 6 false RX5 .int := ⟨_, _, _, _, rfl, tyX5_ok, nmX5, rfl, fun _ => rfl, by decide +kernel⟩
theorem zty_6_0 : zTy 6 0 false RX6 .int := ⟨_, _, _, _, rfl, tyX6_ok, nmX6, rfl, fun _ => rfl, by decide +kernel⟩
theorem zty_6_1 : zTy 6 1 false RX6 .int := ⟨_, _, _, _, rfl, tyX6_ok, nmX6, rfl, fun _ => rfl, by decide +kernel⟩
theorem zty_6_2 : zTy 6 2 false RX6 .int := ⟨_, _, _, _, rfl, tyX6_ok, nmX6, rfl, fun _ => rfl, by decide +kernel⟩
theorem zty_6_3 : zTy 6 3 false RX6 .int := ⟨_, _, _, _, rfl, tyX6_ok, nmX6, rfl, fun _ => rfl, by decide +kernel⟩
theorem zty_7_0 : zTy 7 0 true RX7 (.array .int) := ⟨_, _, _, _, rfl, tyX7_ok, nmX7, rfl, fun _ => rfl, by decide +kernel⟩
theorem zty_8_0 : zTy 8 0 true RX8 (.object "HutLoaves$Hut") := ⟨_, _, _, _, rfl, tyX8_ok, nmX8, rfl, fun _ => rfl, by decide +kernel⟩
theorem zty_8_1 : zTy 8 1 true RX8 (.object "HutLoaves$Hut") := ⟨_, _, _, _, rfl, tyX8_ok, nmX8, rfl, fun _ => rfl, by decide +kernel⟩
theorem zty_8_2 : zTy 8 2 true RX8 (.object "HutLoaves$History") := ⟨_, _, _, _, rfl, tyX8_ok, nmX8, rfl, fun _ => rfl, by decide +kernel⟩
theorem zty_8_3 : zTy 8 3 true RX8 (.object "HutLoaves$Orders") := ⟨_, _, _, _, rfl, tyX8_ok, nmX8, rfl, fun _ => rfl, by decide +kernel⟩
theorem zc_X0_init : zCi yX0_init cX0_init 1 0 := ⟨zm_1_151, zm_1_7, zm_1_150, rfl, by decide, by decide, by decide +kernel⟩
theorem zc_X0_copyFrom : zCv yX0_copyFrom cX0_copyFrom 2 none RX0 1 := ⟨zm_2_101, zm_1_7, zm_2_99, zm_2_100, rfl, by decide, by decide, by decide +kernel⟩
theorem zc_X0_begin : zCv yX0_begin cX0_begin 5 none RX0 4 := ⟨zm_2_166, zm_1_7, zm_2_164, zm_2_165, rfl, by decide, by decide, by decide +kernel⟩
theorem zc_X0_loavesADay : zCv yX0_loavesADay cX0_loavesADay 1 (some .int) RX0 0 := ⟨zm_2_236, zm_1_7, zm_2_234, zm_2_235, rfl, by decide, by decide, by decide +kernel⟩
theorem zc_X0_isThereOn : zCv yX0_isThereOn cX0_isThereOn 2 (some .boolean) RX0 1 := ⟨zm_2_228, zm_1_7, zm_2_226, zm_2_227, rfl, by decide, by decide, by decide +kernel⟩
theorem zc_X0_isGoneBy : zCv yX0_isGoneBy cX0_isGoneBy 2 (some .boolean) RX0 1 := ⟨zm_3_8, zm_1_7, zm_3_6, zm_3_7, rfl, by decide, by decide, by decide +kernel⟩
theorem zc_X0_tell : zCv yX0_tell cX0_tell 3 (some .int) RX0 2 := ⟨zm_3_73, zm_1_7, zm_3_71, zm_3_72, rfl, by decide, by decide, by decide +kernel⟩
theorem zc_X1_init : zCi yX1_init cX1_init 2 0 := ⟨zm_1_215, zm_1_8, zm_1_214, rfl, by decide, by decide, by decide +kernel⟩
theorem zc_X1_keep : zCv yX1_keep cX1_keep 3 none RX1 1 := ⟨zm_2_118, zm_1_8, zm_2_116, zm_2_117, rfl, by decide, by decide, by decide +kernel⟩
theorem zc_X1_dropOldest : zCv yX1_dropOldest cX1_dropOldest 3 none RX1 0 := ⟨zm_2_122, zm_1_8, zm_2_121, zm_0_1, rfl, by decide, by decide, by decide +kernel⟩
theorem zc_X2_init : zCi yX2_init cX2_init 2 0 := ⟨zm_1_23, zm_1_2, zm_1_22, rfl, by decide, by decide, by decide +kernel⟩
theorem zc_X2_copyFrom : zCv yX2_copyFrom cX2_copyFrom 5 none RX2 1 := ⟨zm_2_77, zm_1_2, zm_2_75, zm_2_76, rfl, by decide, by decide, by decide +kernel⟩
theorem zc_X2_muleAt : zCv yX2_muleAt cX2_muleAt 2 (some (.object "HutLoaves$Mule")) RX2 1 := ⟨zm_2_45, zm_1_2, zm_2_43, zm_2_44, rfl, by decide, by decide, by decide +kernel⟩
theorem zc_X2_groupAt : zCv yX2_groupAt cX2_groupAt 2 (some (.object "HutLoaves$Group")) RX2 1 := ⟨zm_2_97, zm_1_2, zm_2_95, zm_2_96, rfl, by decide, by decide, by decide +kernel⟩
theorem zc_X2_placeOfGroup : zCv yX2_placeOfGroup cX2_placeOfGroup 4 (some .int) RX2 1 := ⟨zm_2_178, zm_1_2, zm_2_176, zm_2_177, rfl, by decide, by decide, by decide +kernel⟩
theorem zc_X2_addMule : zCv yX2_addMule cX2_addMule 5 (some .int) RX2 2 := ⟨zm_2_105, zm_1_2, zm_2_103, zm_2_104, rfl, by decide, by decide, by decide +kernel⟩
theorem zc_X2_whyNot : zCv yX2_whyNot cX2_whyNot 4 (some .int) RX2 2 := ⟨zm_2_136, zm_1_2, zm_2_134, zm_2_135, rfl, by decide, by decide, by decide +kernel⟩
theorem zc_X2_sendMule : zCv yX2_sendMule cX2_sendMule 5 (some .int) RX2 2 := ⟨zm_2_132, zm_1_2, zm_2_130, zm_2_131, rfl, by decide, by decide, by decide +kernel⟩
theorem zc_X2_restMule : zCv yX2_restMule cX2_restMule 4 (some .int) RX2 1 := ⟨zm_2_150, zm_1_2, zm_2_148, zm_2_149, rfl, by decide, by decide, by decide +kernel⟩
theorem zc_X2_payBaker : zCv yX2_payBaker cX2_payBaker 2 (some .int) RX2 1 := ⟨zm_2_193, zm_1_2, zm_2_191, zm_2_192, rfl, by decide, by decide, by decide +kernel⟩
theorem zc_X2_bookGroup : zCv yX2_bookGroup cX2_bookGroup 6 (some .int) RX2 3 := ⟨zm_2_162, zm_1_2, zm_2_160, zm_2_161, rfl, by decide, by decide, by decide +kernel⟩
theorem zc_X2_callOff : zCv yX2_callOff cX2_callOff 3 (some .int) RX2 1 := ⟨zm_2_174, zm_1_2, zm_2_172, zm_2_173, rfl, by decide, by decide, by decide +kernel⟩
theorem zc_X2_removeGroup : zCv yX2_removeGroup cX2_removeGroup 4 none RX2 1 := ⟨zm_2_182, zm_1_2, zm_2_181, zm_0_2, rfl, by decide, by decide, by decide +kernel⟩
theorem zc_X2_endDays : zCv yX2_endDays cX2_endDays 4 (some .int) RX2 1 := ⟨zm_2_201, zm_1_2, zm_2_199, zm_2_200, rfl, by decide, by decide, by decide +kernel⟩
theorem zc_X2_endDay : zCv yX2_endDay cX2_endDay 4 none RX2 0 := ⟨zm_2_205, zm_1_2, zm_2_203, zm_2_204, rfl, by decide, by decide, by decide +kernel⟩
theorem zc_X2_unload : zCv yX2_unload cX2_unload 5 none RX2 1 := ⟨zm_2_213, zm_1_2, zm_2_212, zm_0_3, rfl, by decide, by decide, by decide +kernel⟩
theorem zc_X2_feed : zCv yX2_feed cX2_feed 9 none RX2 1 := ⟨zm_2_232, zm_1_2, zm_2_231, zm_0_4, rfl, by decide, by decide, by decide +kernel⟩
theorem zc_X2_loavesOnTheirWayUp : zCv yX2_loavesOnTheirWayUp cX2_loavesOnTheirWayUp 4 (some .int) RX2 0 := ⟨zm_2_41, zm_1_2, zm_2_39, zm_2_40, rfl, by decide, by decide, by decide +kernel⟩
theorem zc_X2_tell : zCv yX2_tell cX2_tell 2 (some .int) RX2 1 := ⟨zm_2_33, zm_1_2, zm_2_31, zm_2_32, rfl, by decide, by decide, by decide +kernel⟩
theorem zc_X3_init : zCi yX3_init cX3_init 1 0 := ⟨zm_1_44, zm_1_4, zm_1_43, rfl, by decide, by decide, by decide +kernel⟩
theorem zc_X3_copyFrom : zCv yX3_copyFrom cX3_copyFrom 2 none RX3 1 := ⟨zm_2_85, zm_1_4, zm_2_83, zm_2_84, rfl, by decide, by decide, by decide +kernel⟩
theorem zc_X4_init : zCi yX4_init cX4_init 1 0 := ⟨zm_1_113, zm_1_6, zm_1_112, rfl, by decide, by decide, by decide +kernel⟩
theorem zc_X4_copyFrom : zCv yX4_copyFrom cX4_copyFrom 2 none RX4 1 := ⟨zm_2_93, zm_1_6, zm_2_91, zm_2_92, rfl, by decide, by decide, by decide +kernel⟩
theorem zc_X4_begin : zCv yX4_begin cX4_begin 3 none RX4 2 := ⟨zm_2_110, zm_1_6, zm_2_108, zm_2_109, rfl, by decide, by decide, by decide +kernel⟩
theorem zc_X4_leave : zCv yX4_leave cX4_leave 3 none RX4 2 := ⟨zm_2_141, zm_1_6, zm_2_139, zm_2_140, rfl, by decide, by decide, by decide +kernel⟩
theorem zc_X4_comeOn : zCv yX4_comeOn cX4_comeOn 2 (some .boolean) RX4 1 := ⟨zm_2_209, zm_1_6, zm_2_207, zm_2_208, rfl, by decide, by decide, by decide +kernel⟩
theorem zc_X4_unload : zCv yX4_unload cX4_unload 2 (some .int) RX4 0 := ⟨zm_2_217, zm_1_6, zm_2_215, zm_2_216, rfl, by decide, by decide, by decide +kernel⟩
theorem zc_X4_tell : zCv yX4_tell cX4_tell 2 (some .int) RX4 1 := ⟨zm_3_53, zm_1_6, zm_3_51, zm_3_52, rfl, by decide, by decide, by decide +kernel⟩
theorem zc_X5_init : zCi yX5_init cX5_init 1 0 := ⟨zm_1_232, zm_1_9, zm_1_231, rfl, by decide, by decide, by decide +kernel⟩
theorem zc_X6_init : zCi yX6_init cX6_init 1 0 := ⟨zm_1_91, zm_1_5, zm_1_90, rfl, by decide, by decide, by decide +kernel⟩
theorem zc_X6_copyFrom : zCv yX6_copyFrom cX6_copyFrom 2 none RX6 1 := ⟨zm_2_89, zm_1_5, zm_2_87, zm_2_88, rfl, by decide, by decide, by decide +kernel⟩
theorem zc_X6_tell : zCv yX6_tell cX6_tell 2 (some .int) RX6 1 := ⟨zm_2_52, zm_1_5, zm_2_50, zm_2_51, rfl, by decide, by decide, by decide +kernel⟩
theorem zc_X6_change : zCv yX6_change cX6_change 4 (some .int) RX6 2 := ⟨zm_3_31, zm_1_5, zm_3_29, zm_3_30, rfl, by decide, by decide, by decide +kernel⟩
theorem zc_X7_init : zCi yX7_init cX7_init 1 0 := ⟨zm_1_33, zm_1_3, zm_1_32, rfl, by decide, by decide, by decide +kernel⟩
theorem zc_X7_copyFrom : zCv yX7_copyFrom cX7_copyFrom 3 none RX7 1 := ⟨zm_2_81, zm_1_3, zm_2_79, zm_2_80, rfl, by decide, by decide, by decide +kernel⟩
theorem zc_X7_howMany : zCv yX7_howMany cX7_howMany 5 (some .int) RX7 2 := ⟨zm_2_37, zm_1_3, zm_2_35, zm_2_36, rfl, by decide, by decide, by decide +kernel⟩
theorem zc_X7_store : zCv yX7_store cX7_store 3 none RX7 2 := ⟨zm_2_224, zm_1_3, zm_2_222, zm_2_223, rfl, by decide, by decide, by decide +kernel⟩
theorem zc_X7_take : zCv yX7_take cX7_take 7 (some .int) RX7 3 := ⟨zm_3_0, zm_1_3, zm_2_238, zm_2_239, rfl, by decide, by decide, by decide +kernel⟩
theorem zc_X7_growOlder : zCv yX7_growOlder cX7_growOlder 4 (some .int) RX7 0 := ⟨zm_3_4, zm_1_3, zm_3_2, zm_3_3, rfl, by decide, by decide, by decide +kernel⟩
theorem zc_X8_init : zCi yX8_init cX8_init 1 0 := ⟨zm_1_15, zm_1_1, zm_1_14, rfl, by decide, by decide, by decide +kernel⟩
theorem zc_X8_mule : zCv yX8_mule cX8_mule 3 (some .int) RX8 2 := ⟨zm_2_73, zm_1_1, zm_2_71, zm_2_72, rfl, by decide, by decide, by decide +kernel⟩
theorem zc_X8_send : zCv yX8_send cX8_send 3 (some .int) RX8 2 := ⟨zm_2_128, zm_1_1, zm_2_126, zm_2_127, rfl, by decide, by decide, by decide +kernel⟩
theorem zc_X8_rest : zCv yX8_rest cX8_rest 2 (some .int) RX8 1 := ⟨zm_2_146, zm_1_1, zm_2_144, zm_2_145, rfl, by decide, by decide, by decide +kernel⟩
theorem zc_X8_pay : zCv yX8_pay cX8_pay 2 (some .int) RX8 1 := ⟨zm_2_189, zm_1_1, zm_2_187, zm_2_188, rfl, by decide, by decide, by decide +kernel⟩
theorem zc_X8_group : zCv yX8_group cX8_group 4 (some .int) RX8 3 := ⟨zm_2_158, zm_1_1, zm_2_156, zm_2_157, rfl, by decide, by decide, by decide +kernel⟩
theorem zc_X8_off : zCv yX8_off cX8_off 2 (some .int) RX8 1 := ⟨zm_2_170, zm_1_1, zm_2_168, zm_2_169, rfl, by decide, by decide, by decide +kernel⟩
theorem zc_X8_end : zCv yX8_end cX8_end 2 (some .int) RX8 1 := ⟨zm_2_197, zm_1_1, zm_2_195, zm_2_196, rfl, by decide, by decide, by decide +kernel⟩
theorem zc_X8_set : zCv yX8_set cX8_set 3 (some .int) RX8 2 := ⟨zm_3_27, zm_1_1, zm_3_25, zm_3_26, rfl, by decide, by decide, by decide +kernel⟩
theorem zc_X8_muleOf : zCv yX8_muleOf cX8_muleOf 4 (some .int) RX8 2 := ⟨zm_3_47, zm_1_1, zm_3_45, zm_3_46, rfl, by decide, by decide, by decide +kernel⟩
theorem zc_X8_groupOf : zCv yX8_groupOf cX8_groupOf 4 (some .int) RX8 2 := ⟨zm_3_68, zm_1_1, zm_3_66, zm_3_67, rfl, by decide, by decide, by decide +kernel⟩
theorem zc_X8_number : zCv yX8_number cX8_number 3 (some .int) RX8 1 := ⟨zm_3_61, zm_1_1, zm_3_59, zm_3_60, rfl, by decide, by decide, by decide +kernel⟩
theorem zc_X8_loaves : zCv yX8_loaves cX8_loaves 2 (some .int) RX8 1 := ⟨zm_3_80, zm_1_1, zm_3_78, zm_3_79, rfl, by decide, by decide, by decide +kernel⟩
theorem zc_X8_count : zCv yX8_count cX8_count 2 (some .int) RX8 1 := ⟨zm_2_29, zm_1_1, zm_2_27, zm_2_28, rfl, by decide, by decide, by decide +kernel⟩
theorem zc_X8_takeOver : zCv yX8_takeOver cX8_takeOver 2 (some .int) RX8 1 := ⟨zm_2_114, zm_1_1, zm_2_113, zm_0_0, rfl, by decide, by decide, by decide +kernel⟩
theorem zc_X8_isWithin : zCs yX8_isWithin cX8_isWithin 3 (some .boolean) 3 := ⟨zm_2_48, zm_1_1, zm_2_47, by decide, by decide, by decide +kernel⟩
theorem zc_J9_min_7cf53 : zCs yJ9_min_7cf53 cJ9_min_7cf53 2 (some .int) 2 := ⟨zm_2_220, zm_1_10, zm_2_219, by decide, by decide, by decide +kernel⟩
theorem zc_L_cell : zCs yL_cell cL_cell 2 (some .int) 2 := ⟨zm_2_57, zm_1_0, zm_2_56, by decide, by decide, by decide +kernel⟩
theorem zc_L_low : zCs yL_low cL_low 2 (some .int) 2 := ⟨zm_2_61, zm_1_0, zm_2_60, by decide, by decide, by decide +kernel⟩
theorem zc_L_sum : zCs yL_sum cL_sum 5 (some .int) 3 := ⟨zm_3_17, zm_1_0, zm_3_16, by decide, by decide, by decide +kernel⟩
theorem zc_L_comes : zCs yL_comes cL_comes 8 none 4 := ⟨zm_3_14, zm_1_0, zm_3_13, by decide, by decide, by decide +kernel⟩
theorem zc_L_takes : zCs yL_takes cL_takes 5 (some .boolean) 4 := ⟨zm_3_23, zm_1_0, zm_3_22, by decide, by decide, by decide +kernel⟩
theorem zc_L_eats : zCs yL_eats cL_eats 7 none 4 := ⟨zm_3_20, zm_1_0, zm_3_19, by decide, by decide, by decide +kernel⟩
theorem zc_L_goes : zCs yL_goes cL_goes 4 none 3 := ⟨zm_2_185, zm_1_0, zm_2_184, by decide, by decide, by decide +kernel⟩
theorem zc_L_day : zCs yL_day cL_day 6 none 4 := ⟨zm_3_11, zm_1_0, zm_3_10, by decide, by decide, by decide +kernel⟩
theorem zc_L_why : zCs yL_why cL_why 4 (some .int) 4 := ⟨zm_2_154, zm_1_0, zm_2_153, by decide, by decide, by decide +kernel⟩
theorem zc_L_mules : zCs yL_mules cL_mules 8 (some .boolean) 5 := ⟨zm_2_69, zm_1_0, zm_2_68, by decide, by decide, by decide +kernel⟩
theorem zc_L_acts : zCs yL_acts cL_acts 12 (some .boolean) 6 := ⟨zm_2_65, zm_1_0, zm_2_64, by decide, by decide, by decide +kernel⟩
theorem zc_L_areMules : zCs yL_areMules cL_areMules 7 (some .boolean) 3 := ⟨zm_3_43, zm_1_0, zm_3_42, by decide, by decide, by decide +kernel⟩
theorem zc_L_areGroups : zCs yL_areGroups cL_areGroups 7 (some .boolean) 3 := ⟨zm_3_57, zm_1_0, zm_3_56, by decide, by decide, by decide +kernel⟩
theorem zc_L_isSo : zCs yL_isSo cL_isSo 7 (some .boolean) 5 := ⟨zm_3_40, zm_1_0, zm_3_39, by decide, by decide, by decide +kernel⟩
def eMuleL (v : Nat → Int32) : List Value := [.int (v 0), .int (v 1), .int (v 2), .int (v 3), .int (v 4), .int (v 5), .int (v 6), .int (v 7), .int (v 8)]
abbrev eMule (v : Nat → Int32) : va_E := .inr (4, eMuleL v)
theorem eMule_set (v : Nat → Int32) (x : Int32) : ∀ i, i < 9 → (eMuleL v).set i (.int x) = eMuleL (upd v i x)
  | 0, _ => rfl
  | 1, _ => rfl
  | 2, _ => rfl
  | 3, _ => rfl
  | 4, _ => rfl
  | 5, _ => rfl
  | 6, _ => rfl
  | 7, _ => rfl
  | 8, _ => rfl
  | i + 9, h => absurd h (by omega)
theorem eMule_congr {u v : Nat → Int32} (h : ∀ i, i < 9 → u i = v i) : eMule u = eMule v := by
  simp only [eMule, eMuleL, h 0 (by decide), h 1 (by decide), h 2 (by decide), h 3 (by decide), h 4 (by decide), h 5 (by decide), h 6 (by decide), h 7 (by decide), h 8 (by decide)]
def eGroupL (v : Nat → Int32) : List Value := [.int (v 0), .int (v 1), .int (v 2), .int (v 3), .int (v 4), .int (v 5)]
abbrev eGroup (v : Nat → Int32) : va_E := .inr (0, eGroupL v)
theorem eGroup_set (v : Nat → Int32) (x : Int32) : ∀ i, i < 6 → (eGroupL v).set i (.int x) = eGroupL (upd v i x)
  | 0, _ => rfl
  | 1, _ => rfl
  | 2, _ => rfl
  | 3, _ => rfl
  | 4, _ => rfl
  | 5, _ => rfl
  | i + 6, h => absurd h (by omega)
theorem eGroup_congr {u v : Nat → Int32} (h : ∀ i, i < 6 → u i = v i) : eGroup u = eGroup v := by
  simp only [eGroup, eGroupL, h 0 (by decide), h 1 (by decide), h 2 (by decide), h 3 (by decide), h 4 (by decide), h 5 (by decide)]
def eLedgerL (v : Nat → Int32) : List Value := [.int (v 0), .int (v 1), .int (v 2), .int (v 3), .int (v 4), .int (v 5), .int (v 6), .int (v 7), .int (v 8), .int (v 9)]
abbrev eLedger (v : Nat → Int32) : va_E := .inr (3, eLedgerL v)
theorem eLedger_set (v : Nat → Int32) (x : Int32) : ∀ i, i < 10 → (eLedgerL v).set i (.int x) = eLedgerL (upd v i x)
  | 0, _ => rfl
  | 1, _ => rfl
  | 2, _ => rfl
  | 3, _ => rfl
  | 4, _ => rfl
  | 5, _ => rfl
  | 6, _ => rfl
  | 7, _ => rfl
  | 8, _ => rfl
  | 9, _ => rfl
  | i + 10, h => absurd h (by omega)
theorem eLedger_congr {u v : Nat → Int32} (h : ∀ i, i < 10 → u i = v i) : eLedger u = eLedger v := by
  simp only [eLedger, eLedgerL, h 0 (by decide), h 1 (by decide), h 2 (by decide), h 3 (by decide), h 4 (by decide), h 5 (by decide), h 6 (by decide), h 7 (by decide), h 8 (by decide), h 9 (by decide)]
def eSettL (v : Nat → Int32) : List Value := [.int (v 0), .int (v 1), .int (v 2), .int (v 3)]
abbrev eSett (v : Nat → Int32) : va_E := .inr (6, eSettL v)
theorem eSett_set (v : Nat → Int32) (x : Int32) : ∀ i, i < 4 → (eSettL v).set i (.int x) = eSettL (upd v i x)
  | 0, _ => rfl
  | 1, _ => rfl
  | 2, _ => rfl
  | 3, _ => rfl
  | i + 4, h => absurd h (by omega)
theorem eSett_congr {u v : Nat → Int32} (h : ∀ i, i < 4 → u i = v i) : eSett u = eSett v := by
  simp only [eSett, eSettL, h 0 (by decide), h 1 (by decide), h 2 (by decide), h 3 (by decide)]
theorem va_up_up {α : Type} {f : Nat → α} {k : Nat} {v u : α} : va_up (va_up f k v) k u = va_up f k u := by
  funext j
  unfold va_up
  by_cases h : j = k
  · rw [if_pos h, if_pos h]
  · rw [if_neg h, if_neg h, if_neg h]
/-- one less, from 0 on: -1 -/
def zpr : Nat → Int32
  | 0 => -1
  | n + 1 => nI n
theorem zinc1 (n : Nat) : nI n + Int32.ofInt 1 = nI (n + 1) := (nI_succ n).symm
theorem zdec1 : ∀ n : Nat, nI n + Int32.ofInt (-1) = zpr n
  | 0 => by decide
  | n + 1 => by
    show nI (n + 1) + Int32.ofInt (-1) = nI n
    rw [nI_succ, show Int32.ofInt (-1) = (-1 : Int32) by decide, Int32.add_assoc, show (1 : Int32) + (-1) = 0 by decide, Int32.add_zero]
theorem zupw {P : Nat → Prop} {B : Nat} (h0 : P 0) (hs : ∀ n, n < B → P n → P (n + 1)) : P B := by
  have h : ∀ n, n ≤ B → P n := by
    intro n
    induction n with
    | zero => exact fun _ => h0
    | succ n ih => exact fun h => hs n (by omega) (ih (by omega))
  exact h B (Nat.le_refl B)
/-- a loop's numbers: from 0 up, n times -/
def zfold {α : Type} (g : Nat → α → α) (x : α) : Nat → α
  | 0 => x
  | n + 1 => g n (zfold g x n)
theorem zr_fcmp {l : Launch} {D : va_G} {cy : Nat → ClassId} {own : String} {cc : ByteArray} {nL : Nat} {R : Room} {nm : String} {G : zJ} {κ : zκ} {f : zF} {ls : List (Nat × Value)} {pc : Nat} {st : List Value} (X : zX l D cy own cc nL R nm G) {x y : UInt32} {op : CmpOp} (d : decode cc pc = .ok (.fcmp op, 1)) (k : G κ f ls (pc + 1) (.int (Op.cmpValue (FP.fcmp x y) op) :: st)) : G κ f ls pc (.float y :: .float x :: st) := by
  obtain ⟨p, e, s, m, args, below, meth, c, Q, A, rfl, hx, hb, hml, hnm, hown, hts, hA, hK⟩ := X
  intro H locs arr hP hI hAl hS hl
  exact lv_fcmp hx hb d (k H locs arr hP hI hAl hS hl)
def eHutL (w : zW) (b : Nat) (v : Nat → Int32) : List Value := [.ref (w.2 (b + 1)), .ref (w.2 (b + 2)), .ref (w.2 (b + 3)), .ref (w.2 (b + 5)), .ref (w.2 (b + 6)), .int (v 0), .int (v 1), .int (v 2), .int (v 3), .int (v 4)]
abbrev eHut (w : zW) (b : Nat) (v : Nat → Int32) : va_E := .inr (2, eHutL w b v)
theorem eHut_set (w : zW) (b : Nat) (v : Nat → Int32) (x : Int32) : ∀ i, i < 5 → (eHutL w b v).set (5 + i) (.int x) = eHutL w b (upd v i x)
  | 0, _ => rfl
  | 1, _ => rfl
  | 2, _ => rfl
  | 3, _ => rfl
  | 4, _ => rfl
  | i + 5, h => absurd h (by omega)
abbrev eInts (cy : Nat → ClassId) (n : Nat) (a : Nat → Int32) : va_E := .inl (cy 0, n, .inl a)
abbrev eChars (cy : Nat → ClassId) (n : Nat) (a : Nat → Int32) : va_E := .inl (cy 1, n, .inl a)
abbrev eRefs (cy : Nat → ClassId) (b n : Nat) (a : Nat → Option Nat) : va_E := .inl (cy b, n, .inr (.inr (.inr (.inr a))))
/-- what a hut's cells hold: by their places (0 itself, 1 the row of mules, 2 the row of groups, 3 the shelf, 4 its row, 5 the ledger, 6 the settings, 7 to 10 the mules, 11 to 20 the groups); σ: the numbers, in the order of the reference's row; γ: which group object stands at a place -/
def zHut (w : zW) (cy : Nat → ClassId) (b : Nat) (γ : Nat → Nat) (σ : Nat → Int32) (o : Nat) : va_E := match o with
  | 0 => eHut w b σ
  | 1 => eRefs cy 2 4 (fun k => some (w.2 (b + (7 + k))))
  | 2 => eRefs cy 3 10 (fun k => some (w.2 (b + (11 + γ k))))
  | 3 => .inr (7, [.ref (w.2 (b + 4))])
  | 4 => eInts cy 21 (fun k => σ (115 + k))
  | 5 => eLedger (fun i => σ (5 + i))
  | 6 => eSett (fun i => σ (15 + i))
  | o + 7 => if o < 4 then eMule (fun i => σ (19 + 9 * o + i)) else eGroup (fun i => σ (55 + 6 * (o - 4) + i))
/-- the world f, but for the hut at b -/
def zPut (f : zF) (b : Nat) (h : Nat → va_E) : zF := fun t => if b ≤ t ∧ t < b + 21 then h (t - b) else f t
theorem zPut_in {f : zF} {b : Nat} {h : Nat → va_E} {o : Nat} (ho : o < 21) : zPut f b h (b + o) = h o := by
  unfold zPut
  rw [if_pos (by omega), Nat.add_sub_cancel_left]
theorem zPut_out {f : zF} {b : Nat} {h : Nat → va_E} {t : Nat} (ht : t < b ∨ b + 21 ≤ t) : zPut f b h t = f t := by
  unfold zPut
  rw [if_neg (by omega)]
theorem zPut_put {f : zF} {b : Nat} {h h' : Nat → va_E} : zPut (zPut f b h) b h' = zPut f b h' := by
  funext t
  unfold zPut
  split <;> rfl
theorem zPut_self {f : zF} {b : Nat} {h : Nat → va_E} (hh : ∀ o, o < 21 → f (b + o) = h o) : zPut f b h = f := by
  funext t
  unfold zPut
  split
  · rename_i q
    rw [← hh (t - b) (by omega)]
    congr 1
    omega
  · rfl
theorem zPut_up {f : zF} {b o : Nat} {h h' : Nat → va_E} {e : va_E} (ho : o < 21) (he : e = h' o) (hr : ∀ i, i < 21 → i ≠ o → h i = h' i) : va_up (zPut f b h) (b + o) e = zPut f b h' := by
  funext t
  unfold va_up zPut
  by_cases h1 : t = b + o
  · rw [if_pos h1, if_pos (by omega), he, h1, Nat.add_sub_cancel_left]
  · rw [if_neg h1]
    by_cases h2 : b ≤ t ∧ t < b + 21
    · rw [if_pos h2, if_pos h2]
      exact hr (t - b) (by omega) (by omega)
    · rw [if_neg h2, if_neg h2]
/-- a stretch of numbers -/
def setR (σ : Nat → Int32) (a n : Nat) (v : Nat → Int32) : Nat → Int32 := fun i => if a ≤ i ∧ i < a + n then v (i - a) else σ i
theorem setR_in {σ : Nat → Int32} {a n : Nat} {v : Nat → Int32} {i : Nat} (h : i < n) : setR σ a n v (a + i) = v i := by
  unfold setR
  rw [if_pos (by omega), Nat.add_sub_cancel_left]
theorem setR_out {σ : Nat → Int32} {a n : Nat} {v : Nat → Int32} {i : Nat} (h : i < a ∨ a + n ≤ i) : setR σ a n v i = σ i := by
  unfold setR
  rw [if_neg (by omega)]
theorem upd_ne {σ : Nat → Int32} {k i : Nat} {x : Int32} (h : i ≠ k) : upd σ k x i = σ i := by
  unfold upd
  rw [if_neg h]
theorem upd_eq {σ : Nat → Int32} {k : Nat} {x : Int32} : upd σ k x k = x := by
  unfold upd
  rw [if_pos rfl]
theorem upd_at {σ : Nat → Int32} {a k i : Nat} {x : Int32} : upd (fun j => σ (a + j)) k x i = upd σ (a + k) x (a + i) := by
  unfold upd
  by_cases h : i = k
  · rw [if_pos h, if_pos (by omega)]
  · rw [if_neg h, if_neg (by omega)]
section ZH
variable {w : zW} {cy : Nat → ClassId} {b : Nat} {γ γ' : Nat → Nat} {σ σ' : Nat → Int32} {f : zF}
theorem zHut_mule {k : Nat} (hk : k < 4) : zHut w cy b γ σ (7 + k) = eMule (fun i => σ (19 + 9 * k + i)) := by
  rw [Nat.add_comm 7 k]
  show (if k < 4 then _ else _) = _
  rw [if_pos hk]
theorem zHut_group {k : Nat} : zHut w cy b γ σ (11 + k) = eGroup (fun i => σ (55 + 6 * k + i)) := by
  rw [show 11 + k = (k + 4) + 7 by omega]
  show (if k + 4 < 4 then eMule (fun i => σ (19 + 9 * (k + 4) + i)) else eGroup (fun i => σ (55 + 6 * (k + 4 - 4) + i))) = _
  rw [if_neg (by omega), show k + 4 - 4 = k by omega]
/-- two huts hold the same at a place, where the numbers are the same -/
theorem zHut_same {o : Nat} (ho : o < 21) (h0 : o = 0 → ∀ i, i < 5 → σ i = σ' i) (h2 : o = 2 → γ = γ') (h4 : o = 4 → (fun k => σ (115 + k)) = (fun k => σ' (115 + k))) (h5 : o = 5 → ∀ i, i < 10 → σ (5 + i) = σ' (5 + i)) (h6 : o = 6 → ∀ i, i < 4 → σ (15 + i) = σ' (15 + i)) (h7 : ∀ k, k < 4 → o = 7 + k → ∀ i, i < 9 → σ (19 + 9 * k + i) = σ' (19 + 9 * k + i)) (h8 : ∀ k, k < 10 → o = 11 + k → ∀ i, i < 6 → σ (55 + 6 * k + i) = σ' (55 + 6 * k + i)) : zHut w cy b γ σ o = zHut w cy b γ' σ' o := by
  match o, ho with
  | 0, _ =>
    show eHut w b σ = eHut w b σ'
    simp only [eHut, eHutL, h0 rfl 0 (by decide), h0 rfl 1 (by decide), h0 rfl 2 (by decide), h0 rfl 3 (by decide), h0 rfl 4 (by decide)]
  | 1, _ => rfl
  | 2, _ => rw [h2 rfl]; rfl
  | 3, _ => rfl
  | 4, _ =>
    show eInts cy 21 (fun k => σ (115 + k)) = eInts cy 21 (fun k => σ' (115 + k))
    rw [h4 rfl]
  | 5, _ => exact eLedger_congr (h5 rfl)
  | 6, _ => exact eSett_congr (h6 rfl)
  | o + 7, ho =>
    by_cases hk : o < 4
    · rw [Nat.add_comm o 7, zHut_mule hk, zHut_mule hk]
      exact eMule_congr (h7 o hk (by omega))
    · rw [show o + 7 = 11 + (o - 4) by omega, zHut_group, zHut_group]
      exact eGroup_congr (h8 (o - 4) (by omega) (by omega))
/-- the shelf's row, and what lies behind it -/
def setA (σ : Nat → Int32) (a : Nat → Int32) : Nat → Int32 := fun i => if 115 ≤ i then a (i - 115) else σ i
theorem setA_lo {σ a : Nat → Int32} {i : Nat} (h : i < 115) : setA σ a i = σ i := by
  unfold setA
  rw [if_neg (by omega)]
theorem setA_hi {σ a : Nat → Int32} {i : Nat} : setA σ a (115 + i) = a i := by
  unfold setA
  rw [if_pos (by omega), Nat.add_sub_cancel_left]
theorem zu_hut {i : Nat} {x : Int32} (hi : i < 5) : va_up (zPut f b (zHut w cy b γ σ)) b (eHut w b (upd σ i x)) = zPut f b (zHut w cy b γ (upd σ i x)) := by
  refine zPut_up (o := 0) (by decide) rfl (fun o ho hne => zHut_same ho (fun e => absurd e hne) (fun _ => rfl) (fun _ => funext fun k => (upd_ne (by omega)).symm) (fun _ j hj => (upd_ne (by omega)).symm) (fun _ j hj => (upd_ne (by omega)).symm) (fun k hk e j hj => (upd_ne (by omega)).symm) (fun k hk e j hj => (upd_ne (by omega)).symm))
theorem zu_ledger {i : Nat} {x : Int32} (hi : i < 10) : va_up (zPut f b (zHut w cy b γ σ)) (b + 5) (eLedger (upd (fun j => σ (5 + j)) i x)) = zPut f b (zHut w cy b γ (upd σ (5 + i) x)) := by
  refine zPut_up (o := 5) (by decide) (eLedger_congr (fun j _ => upd_at)) (fun o ho hne => zHut_same ho (fun _ j hj => ?_) (fun _ => rfl) (fun _ => funext fun k => ?_) (fun e => absurd e hne) (fun _ j hj => ?_) (fun k hk e j hj => ?_) (fun k hk e j hj => ?_)) <;> exact (upd_ne (by omega)).symm
theorem zu_sett {i : Nat} {x : Int32} (hi : i < 4) : va_up (zPut f b (zHut w cy b γ σ)) (b + 6) (eSett (upd (fun j => σ (15 + j)) i x)) = zPut f b (zHut w cy b γ (upd σ (15 + i) x)) := by
  refine zPut_up (o := 6) (by decide) (eSett_congr (fun j _ => upd_at)) (fun o ho hne => zHut_same ho (fun _ j hj => ?_) (fun _ => rfl) (fun _ => funext fun k => ?_) (fun _ j hj => ?_) (fun e => absurd e hne) (fun k hk e j hj => ?_) (fun k hk e j hj => ?_)) <;> exact (upd_ne (by omega)).symm
theorem zu_muleF {k i : Nat} {x : Int32} (hk : k < 4) (hi : i < 9) : va_up (zPut f b (zHut w cy b γ σ)) (b + (7 + k)) (eMule (upd (fun j => σ (19 + 9 * k + j)) i x)) = zPut f b (zHut w cy b γ (upd σ (19 + 9 * k + i) x)) := by
  refine zPut_up (o := 7 + k) (by omega) ((eMule_congr (fun j _ => upd_at)).trans (zHut_mule hk).symm) (fun o ho hne => zHut_same ho (fun _ j hj => ?_) (fun _ => rfl) (fun _ => funext fun k => ?_) (fun _ j hj => ?_) (fun _ j hj => ?_) (fun k hk e j hj => ?_) (fun k hk e j hj => ?_)) <;> exact (upd_ne (by omega)).symm
theorem zu_groupF {k i : Nat} {x : Int32} (hk : k < 10) (hi : i < 6) : va_up (zPut f b (zHut w cy b γ σ)) (b + (11 + k)) (eGroup (upd (fun j => σ (55 + 6 * k + j)) i x)) = zPut f b (zHut w cy b γ (upd σ (55 + 6 * k + i) x)) := by
  refine zPut_up (o := 11 + k) (by omega) ((eGroup_congr (fun j _ => upd_at)).trans zHut_group.symm) (fun o ho hne => zHut_same ho (fun _ j hj => ?_) (fun _ => rfl) (fun _ => funext fun k => ?_) (fun _ j hj => ?_) (fun _ j hj => ?_) (fun k hk e j hj => ?_) (fun k hk e j hj => ?_)) <;> exact (upd_ne (by omega)).symm
theorem zu_mule {k : Nat} {v : Nat → Int32} (hk : k < 4) : va_up (zPut f b (zHut w cy b γ σ)) (b + (7 + k)) (eMule v) = zPut f b (zHut w cy b γ (setR σ (19 + 9 * k) 9 v)) := by
  refine zPut_up (o := 7 + k) (by omega) ((eMule_congr (fun j hj => (setR_in hj).symm)).trans (zHut_mule hk).symm) (fun o ho hne => zHut_same ho (fun _ j hj => ?_) (fun _ => rfl) (fun _ => funext fun k => ?_) (fun _ j hj => ?_) (fun _ j hj => ?_) (fun k hk e j hj => ?_) (fun k hk e j hj => ?_)) <;> exact (setR_out (by omega)).symm
theorem zu_group {k : Nat} {v : Nat → Int32} (hk : k < 10) : va_up (zPut f b (zHut w cy b γ σ)) (b + (11 + k)) (eGroup v) = zPut f b (zHut w cy b γ (setR σ (55 + 6 * k) 6 v)) := by
  refine zPut_up (o := 11 + k) (by omega) ((eGroup_congr (fun j hj => (setR_in hj).symm)).trans zHut_group.symm) (fun o ho hne => zHut_same ho (fun _ j hj => ?_) (fun _ => rfl) (fun _ => funext fun k => ?_) (fun _ j hj => ?_) (fun _ j hj => ?_) (fun k hk e j hj => ?_) (fun k hk e j hj => ?_)) <;> exact (setR_out (by omega)).symm
theorem zu_ledgerA {v : Nat → Int32} : va_up (zPut f b (zHut w cy b γ σ)) (b + 5) (eLedger v) = zPut f b (zHut w cy b γ (setR σ 5 10 v)) := by
  refine zPut_up (o := 5) (by decide) (eLedger_congr (fun j hj => (setR_in hj).symm)) (fun o ho hne => zHut_same ho (fun _ j hj => ?_) (fun _ => rfl) (fun _ => funext fun k => ?_) (fun e => absurd e hne) (fun _ j hj => ?_) (fun k hk e j hj => ?_) (fun k hk e j hj => ?_)) <;> exact (setR_out (by omega)).symm
theorem zu_settA {v : Nat → Int32} : va_up (zPut f b (zHut w cy b γ σ)) (b + 6) (eSett v) = zPut f b (zHut w cy b γ (setR σ 15 4 v)) := by
  refine zPut_up (o := 6) (by decide) (eSett_congr (fun j hj => (setR_in hj).symm)) (fun o ho hne => zHut_same ho (fun _ j hj => ?_) (fun _ => rfl) (fun _ => funext fun k => ?_) (fun _ j hj => ?_) (fun e => absurd e hne) (fun k hk e j hj => ?_) (fun k hk e j hj => ?_)) <;> exact (setR_out (by omega)).symm
theorem zu_shelf {a : Nat → Int32} : va_up (zPut f b (zHut w cy b γ σ)) (b + 4) (eInts cy 21 a) = zPut f b (zHut w cy b γ (setA σ a)) := by
  refine zPut_up (o := 4) (by decide) (congrArg (eInts cy 21) (funext fun k => setA_hi.symm)) (fun o ho hne => zHut_same ho (fun _ j hj => ?_) (fun _ => rfl) (fun e => absurd e hne) (fun _ j hj => ?_) (fun _ j hj => ?_) (fun k hk e j hj => ?_) (fun k hk e j hj => ?_)) <;> exact (setA_lo (by omega)).symm
theorem zu_groups : va_up (zPut f b (zHut w cy b γ σ)) (b + 2) (eRefs cy 3 10 (fun k => some (w.2 (b + (11 + γ' k))))) = zPut f b (zHut w cy b γ' σ) :=
  zPut_up (o := 2) (by decide) rfl (fun o ho hne => zHut_same ho (fun _ j hj => rfl) (fun e => absurd e hne) (fun _ => rfl) (fun _ j hj => rfl) (fun _ j hj => rfl) (fun k hk e j hj => rfl) (fun k hk e j hj => rfl))
end ZH
theorem zjoin {G : zJ} {κ : zκ} {f f2 : zF} {ls ls2 : List (Nat × Value)} {pc : Nat} {st st2 : List Value} (h : f2 = f) (hl : ls2 = ls) (hs : st2 = st) (k : G κ f2 ls2 pc st2) : G κ f ls pc st := h ▸ hl ▸ hs ▸ k
theorem zpr_of (n : Nat) : nI n - 1 = zpr n := by
  cases n with
  | zero => decide
  | succ n => exact nI_pred n
theorem zcw {G : zJ} {κ : zκ} {f f2 : zF} {ls : List (Nat × Value)} {pc : Nat} {st : List Value} (h : f = f2) (k : G κ f2 ls pc st) : G κ f ls pc st := h ▸ k
