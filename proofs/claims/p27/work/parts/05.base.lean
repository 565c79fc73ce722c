/-! THE TAG WORLD: the cells of both systems are numbered (tags); the world is a map from tags to contents, the addresses are fixed; every contract speaks of the whole world -/
abbrev zW : Type := Nat × (Nat → Nat)
abbrev zκ : Type := zW × Nat × Nat
abbrev zF : Type := Nat → va_E
abbrev zJ : Type := zκ → zF → List (Nat × Value) → Nat → List Value → Prop
def zl (w : zW) (f : zF) : va_W := (List.range w.1).map (fun i => (w.2 i, f i))
theorem zl_get {w : zW} {f : zF} {i : Nat} (h : i < w.1) : (zl w f)[i]? = some (w.2 i, f i) := by
  simp [zl, h]
theorem zl_of {w : zW} {f : zF} {k : Nat} {q : Nat × va_E} (h : (zl w f)[k]? = some q) : k < w.1 ∧ q = (w.2 k, f k) := by
  have hl : k < w.1 := by
    have := (List.getElem?_eq_some_iff.mp h).1
    simpa [zl] using this
  rw [zl_get hl] at h
  exact ⟨hl, (Option.some.inj h).symm⟩
theorem zl_none {w : zW} {f : zF} {i : Nat} (h : ¬ i < w.1) : (zl w f)[i]? = none := by
  rw [List.getElem?_eq_none_iff]
  simp only [zl, List.length_map, List.length_range]
  omega
theorem zl_set {w : zW} {f : zF} {i : Nat} {e : va_E} (h : i < w.1) : (zl w f).set i (w.2 i, e) = zl w (va_up f i e) := by
  apply List.ext_getElem?
  intro j
  by_cases hj : j = i
  · subst hj
    rw [List.getElem?_set_self (by simpa [zl] using h), zl_get h, va_up_self]
  · rw [List.getElem?_set_ne (Ne.symm hj)]
    by_cases hl : j < w.1
    · rw [zl_get hl, zl_get hl, va_up_ne _ _ hj]
    · rw [zl_none hl, zl_none hl]
def zpush (w : zW) (q : Nat) : zW := (w.1 + 1, va_up w.2 w.1 q)
theorem zl_push {w : zW} {f : zF} {q : Nat} {e : va_E} : zl w f ++ [(q, e)] = zl (zpush w q) (va_up f w.1 e) := by
  apply List.ext_getElem?
  intro j
  by_cases hj : j < w.1
  · rw [List.getElem?_append_left (by simpa [zl] using hj), zl_get hj, zl_get (show j < (zpush w q).1 by show j < w.1 + 1; omega)]
    show some (w.2 j, f j) = some (va_up w.2 w.1 q j, va_up f w.1 e j)
    rw [va_up_ne _ _ (by omega), va_up_ne _ _ (by omega)]
  · rw [List.getElem?_append_right (by simpa [zl] using hj)]
    have hlen : (zl w f).length = w.1 := by simp [zl]
    rw [hlen]
    by_cases h2 : j = w.1
    · subst h2
      rw [Nat.sub_self, zl_get (show w.1 < (zpush w q).1 by show w.1 < w.1 + 1; omega)]
      show some (q, e) = some (va_up w.2 w.1 q w.1, va_up f w.1 e w.1)
      rw [va_up_self, va_up_self]
    · rw [zl_none (show ¬ j < (zpush w q).1 by show ¬ j < w.1 + 1; omega), List.getElem?_eq_none_iff]
      simp only [List.length_cons, List.length_nil]
      omega
def zIn (w : zW) : Prop := ∀ i j : Nat, i < w.1 → j < w.1 → w.2 i = w.2 j → i = j
def zAd (w : zW) (sz : Nat) : Nat → Prop := fun q => (∃ i, i < w.1 ∧ w.2 i = q) ∨ sz ≤ q
def zAll (w : zW) (A : Nat → Prop) : Prop := ∀ i, i < w.1 → A (w.2 i)
theorem zD_of {w : zW} {f : zF} {A : Nat → Prop} (h : zIn w) (hA : zAll w A) : va_D A (zl w f) := by
  refine ⟨fun i j p q hi hj e => ?_, fun k q hk => ?_⟩
  · obtain ⟨h1, rfl⟩ := zl_of hi
    obtain ⟨h2, rfl⟩ := zl_of hj
    exact h i j h1 h2 e
  · obtain ⟨h1, rfl⟩ := zl_of hk
    exact hA k h1
theorem zIn_push {D : va_G} {w : zW} {f : zF} {H : Heap} {q : Nat} (h : zIn w) (hP : va_P D vwCl (zl w f) H) (hq : q = H.size) : zIn (zpush w q) := by
  have lt : ∀ i, i < w.1 → w.2 i < q := fun i hi => by
    have := (hP i _ (zl_get hi)).lt
    omega
  intro i j hi hj e
  have hi : i < w.1 + 1 := hi
  have hj : j < w.1 + 1 := hj
  have e : va_up w.2 w.1 q i = va_up w.2 w.1 q j := e
  by_cases h1 : i = w.1 <;> by_cases h2 : j = w.1
  · omega
  · rw [h1, va_up_self, va_up_ne _ _ h2] at e
    have := lt j (by omega)
    omega
  · rw [h2, va_up_self, va_up_ne _ _ h1] at e
    have := lt i (by omega)
    omega
  · rw [va_up_ne _ _ h1, va_up_ne _ _ h2] at e
    exact h i j (by omega) (by omega) e
theorem zAll_push {w : zW} {A : Nat → Prop} {q : Nat} (h : zAll w A) (hq : A q) : zAll (zpush w q) A := by
  intro i hi
  have hi : i < w.1 + 1 := hi
  show A (va_up w.2 w.1 q i)
  by_cases h1 : i = w.1
  · rw [h1, va_up_self]; exact hq
  · rw [va_up_ne _ _ h1]; exact h i (by omega)
/-! the tables: classes of arrays, nest mates' links, two static rows -/
def zNests : List Cond := [.fieldLinkNest "HutLoaves$Hut" 128 "HutLoaves$Ledger" "money" "I" "HutLoaves",
  .fieldLinkNest "HutLoaves$Hut" 105 "HutLoaves$Ledger" "debt" "I" "HutLoaves",
  .fieldLinkNest "HutLoaves$Hut" 122 "HutLoaves$Ledger" "baked" "I" "HutLoaves",
  .fieldLinkNest "HutLoaves$Hut" 145 "HutLoaves$Ledger" "eaten" "I" "HutLoaves",
  .fieldLinkNest "HutLoaves$Hut" 171 "HutLoaves$Ledger" "thrownAway" "I" "HutLoaves",
  .fieldLinkNest "HutLoaves$Hut" 197 "HutLoaves$Ledger" "lost" "I" "HutLoaves",
  .fieldLinkNest "HutLoaves$Hut" 154 "HutLoaves$Ledger" "snowDays" "I" "HutLoaves",
  .fieldLinkNest "HutLoaves$Hut" 213 "HutLoaves$Ledger" "hungryDays" "I" "HutLoaves",
  .fieldLinkNest "HutLoaves$Hut" 220 "HutLoaves$Ledger" "paidByGroups" "I" "HutLoaves",
  .fieldLinkNest "HutLoaves$Hut" 131 "HutLoaves$Ledger" "paidToBaker" "I" "HutLoaves",
  .fieldLinkNest "HutLoaves$Hut" 108 "HutLoaves$Settings" "price" "I" "HutLoaves",
  .fieldLinkNest "HutLoaves$Hut" 111 "HutLoaves$Settings" "credit" "I" "HutLoaves",
  .fieldLinkNest "HutLoaves$Hut" 203 "HutLoaves$Settings" "freshDays" "I" "HutLoaves",
  .fieldLinkNest "HutLoaves$Hut" 151 "HutLoaves$Settings" "snow" "I" "HutLoaves",
  .fieldLinkNest "HutLoaves$Hut" 102 "HutLoaves$Mule" "load" "I" "HutLoaves",
  .fieldLinkNest "HutLoaves$Hut" 99 "HutLoaves$Mule" "place" "I" "HutLoaves",
  .fieldLinkNest "HutLoaves$Hut" 227 "HutLoaves$Mule" "brings" "I" "HutLoaves",
  .fieldLinkNest "HutLoaves$Hut" 183 "HutLoaves$Mule" "bakedOn" "I" "HutLoaves",
  .fieldLinkNest "HutLoaves$Hut" 125 "HutLoaves$Mule" "sent" "I" "HutLoaves",
  .fieldLinkNest "HutLoaves$Hut" 86 "HutLoaves$Group" "number" "I" "HutLoaves",
  .fieldLinkNest "HutLoaves" 99 "HutLoaves$Group" "number" "I" "HutLoaves",
  .fieldLinkNest "HutLoaves$Hut" 214 "HutLoaves$Group" "persons" "I" "HutLoaves",
  .fieldLinkNest "HutLoaves$Hut" 217 "HutLoaves$Group" "paid" "I" "HutLoaves",
  .fieldLinkNest "HutLoaves$Hut" 210 "HutLoaves$Group" "hungryDays" "I" "HutLoaves",
  .fieldLinkNest "HutLoaves" 106 "HutLoaves$Hut" "shelf" "LHutLoaves$Shelf;" "HutLoaves",
  .fieldLinkNest "HutLoaves" 64 "HutLoaves$Hut" "settings" "LHutLoaves$Settings;" "HutLoaves",
  .fieldLinkNest "HutLoaves" 90 "HutLoaves$Hut" "day" "I" "HutLoaves",
  .fieldLinkNest "HutLoaves" 164 "HutLoaves$History" "size" "I" "HutLoaves",
  .fieldLinkNest "HutLoaves" 167 "HutLoaves$Orders" "length" "I" "HutLoaves",
  .fieldLinkNest "HutLoaves$Settings" 25 "HutLoaves" "LOWEST_VALUES" "[I" "HutLoaves",
  .fieldLinkNest "HutLoaves$Settings" 29 "HutLoaves" "HIGHEST_VALUES" "[I" "HutLoaves",
  .methodLinkNest "HutLoaves$Hut" 25 ⟨"HutLoaves$Shelf", "<init>", "()V"⟩ "HutLoaves",
  .methodLinkNest "HutLoaves$Hut" 32 ⟨"HutLoaves$Ledger", "<init>", "()V"⟩ "HutLoaves",
  .methodLinkNest "HutLoaves$Hut" 39 ⟨"HutLoaves$Settings", "<init>", "()V"⟩ "HutLoaves",
  .methodLinkNest "HutLoaves$Hut" 48 ⟨"HutLoaves$Mule", "<init>", "()V"⟩ "HutLoaves",
  .methodLinkNest "HutLoaves$Hut" 49 ⟨"HutLoaves$Group", "<init>", "()V"⟩ "HutLoaves",
  .methodLinkNest "HutLoaves" 28 ⟨"HutLoaves$Orders", "<init>", "()V"⟩ "HutLoaves",
  .methodLinkNest "HutLoaves$Hut" 89 ⟨"HutLoaves", "isWithin", "(III)Z"⟩ "HutLoaves",
  .methodLinkNest "HutLoaves$Settings" 32 ⟨"HutLoaves", "isWithin", "(III)Z"⟩ "HutLoaves"]

def zIsNest (c : Cond) : Bool := match c with
  | .fieldLinkNest _ _ _ _ _ _ => true
  | .methodLinkNest _ _ _ _ => true
  | _ => false
theorem zNests_ok : ∀ x ∈ zNests, zIsNest x = true := by decide +kernel
theorem zNw_warm {x : Cond} {s U : State} (hx : zIsNest x = true) (hW : s.WarmedH U.vm) (h : va_Nw x s) : va_Nw x U := by
  cases x <;> first | exact va_Nw.warmF hW h | exact va_Nw.warmM hW h | exact absurd hx (by simp [zIsNest])
theorem zNw_same {x : Cond} {u U : State} (hx : zIsNest x = true) (hv : u.vm = U.vm) (h : va_Nw x u) : va_Nw x U := by
  cases x <;> first | exact va_Nw.same rfl hv h | exact absurd hx (by simp [zIsNest])
def zLow : Nat → Value := fun k => match k with
  | 0 => .int 1
  | 1 => .int 10
  | _ => .int 0
def zHigh : Nat → Value := fun k => match k with
  | 0 => .int 9
  | 1 => .int 500
  | 2 => .int 15
  | _ => .int 90
def zSt (A : Nat → Prop) (U : State) (H : Heap) : Prop := ∃ tl th : Nat, va_Z "HutLoaves" "LOWEST_VALUES" "[I" (.ref tl) A U H ∧ va_T .int tl 4 zLow A U H ∧ va_Z "HutLoaves" "HIGHEST_VALUES" "[I" (.ref th) A U H ∧ va_T .int th 4 zHigh A U H
theorem zSt.go {A B : Nat → Prop} {u U : State} {H H1 : Heap} (h : zSt A u H) (hvm : u.vm.Alike U.vm) (hq : ∀ a : Nat, a < H.size → ¬ A a → H1[a]? = H[a]?) (hAB : ∀ q, B q → A q) : zSt B U H1 := by
  obtain ⟨tl, th, h1, h2, h3, h4⟩ := h
  exact ⟨tl, th, ((h1.moved hvm).kept hq).narrow hAB, ((h2.moved hvm).kept hq).narrow hAB, ((h3.moved hvm).kept hq).narrow hAB, ((h4.moved hvm).kept hq).narrow hAB⟩
def zWs (y : MethodName) (cc : ByteArray) (nL : Nat) (ret : Option FieldType) : List Cond := Cond.code y cc nL ret :: zTb
/-- the classes of arrays: ints, chars, mules, groups, huts -/
abbrev zT (cy : Nat → ClassId) : List (ClassId × FieldType) := [(cy 0, .int), (cy 1, .char), (cy 2, .object RX4), (cy 3, .object RX0), (cy 4, .object RX2)]
/-- what the machine knows at a state, with A the cells that may change -/
def zK (D : va_G) (cy : Nat → ClassId) (A : Nat → Prop) (U : State) : Prop := va_K D vwCl (zT cy) U ∧ (∀ x ∈ zNests, va_Nw x U) ∧ zSt A U U.heap ∧ va_AO RX4 U ∧ va_AO RX0 U ∧ va_AO RX2 U
/-! THE JUDGEMENT -/
def zG (p : Program) (l : Launch) (e : Env) (R : Room) (s : State) (m : MethodId) (args : Array Value) (below : List Frame) (meth : Method) (c : Code) (Q : State → Prop) (D : va_G) (nL : Nat) (A : Nat → Prop) : zJ :=
  fun κ f ls pc st => ∀ (H : Heap) (locs : List Loc) (arr : Array Slot), va_P D vwCl (zl κ.1 f) H → zIn κ.1 → zAll κ.1 A → va_S A s.heap H locs → lv_has arr nL ls → W p l e R s m args below meth c H locs κ.2.1 κ.2.2 Q (F0 m pc arr st)
/-- a walk's surroundings: what its rows need -/
def zX (l : Launch) (D : va_G) (cy : Nat → ClassId) (own : String) (cc : ByteArray) (nL : Nat) (R : Room) (nm : String) (G : zJ) : Prop :=
  ∃ (p : Program) (e : Env) (s : State) (m : MethodId) (args : Array Value) (below : List Frame) (meth : Method) (c : Code) (Q : State → Prop) (A : Nat → Prop),
    G = zG p l e R s m args below meth c Q D nL A ∧ p.tables.exec = Jvm.exec ∧ c.code = cc ∧ c.maxLocals = nL ∧ meth.name = nm ∧ s.vm.findClass own = some m.cls ∧ (∀ w ∈ zTb, w.before args s = true) ∧ (∀ q, s.heap.size ≤ q → A q) ∧ zK D cy A s
/-- a method's end -/
def zE (cc : ByteArray) (ret : Option FieldType) (w0 : zW) (mc ms : Nat) (post : Option Value → zW → zF → Prop) (G : zJ) : Prop :=
  (∀ (κ : zκ) (f : zF) (ls : List (Nat × Value)) (pc : Nat) (v : Int32), (ret = some .int ∨ (ret = some .boolean ∧ (v = 0 ∨ v = 1))) → decode cc pc = .ok (.ireturn, 1) → κ.2.1 ≤ mc → κ.2.2 ≤ ms → (w0.1 ≤ κ.1.1 ∧ ∀ i, i < w0.1 → κ.1.2 i = w0.2 i) → post (some (.int v)) κ.1 f → G κ f ls pc [.int v]) ∧
  (∀ (κ : zκ) (f : zF) (ls : List (Nat × Value)) (pc : Nat), ret = none → decode cc pc = .ok (.return_, 1) → κ.2.1 ≤ mc → κ.2.2 ≤ ms → (w0.1 ≤ κ.1.1 ∧ ∀ i, i < w0.1 → κ.1.2 i = w0.2 i) → post none κ.1 f → G κ f ls pc []) ∧
  (∀ (κ : zκ) (f : zF) (ls : List (Nat × Value)) (pc : Nat) (v : Value), (∃ n, ret = some (.object n)) → (v = .null ∨ ∃ a, v = .ref a) → decode cc pc = .ok (.areturn, 1) → κ.2.1 ≤ mc → κ.2.2 ≤ ms → (w0.1 ≤ κ.1.1 ∧ ∀ i, i < w0.1 → κ.1.2 i = w0.2 i) → post (some v) κ.1 f → G κ f ls pc [v])
/-- THE CONTRACT of a method over the whole world -/
def zQ (D : va_G) (w0 : zW) (sz : Nat) (post : Option Value → zW → zF → Prop) : Array Value → State → Outcome → State → Prop := fun _ st oc t =>
  (∃ (r : Option Value) (w' : zW) (f' : zF), oc = .returned r ∧ post r w' f' ∧ va_P D vwCl (zl w' f') t.heap ∧ zIn w' ∧ zAll w' (zAd w0 sz) ∧ w0.1 ≤ w'.1 ∧ ∀ i, i < w0.1 → w'.2 i = w0.2 i) ∧ va_F (zAd w0 sz) st t
def zPre (D : va_G) (cy : Nat → ClassId) (w : zW) (f : zF) (sz : Nat) (U : State) : Prop := U.heap.size = sz ∧ va_P D vwCl (zl w f) U.heap ∧ zIn w ∧ zK D cy (zAd w sz) U
def zM (l : Launch) (D : va_G) (cy : Nat → ClassId) (y : MethodName) (cc : ByteArray) (nL : Nat) (ret : Option FieldType) (R : Room) (av : List Value) (w : zW) (f : zF) (post : Option Value → zW → zF → Prop) : Prop :=
  ∀ sz : Nat, Met l y (zWs y cc nL ret) R (va_Pc av (zPre D cy w f sz)) (zQ D w sz post) R.cells R.slots (zAd w sz)
theorem zM.post {l : Launch} {D : va_G} {cy : Nat → ClassId} {y : MethodName} {cc : ByteArray} {nL : Nat} {ret : Option FieldType} {R : Room} {av : List Value} {w : zW} {f : zF} {post post' : Option Value → zW → zF → Prop} (h : zM l D cy y cc nL ret R av w f post) (hp : ∀ r w' f', post r w' f' → post' r w' f') : zM l D cy y cc nL ret R av w f post' := by
  intro sz p e ha hc hk s m args below hf happ hP hK
  obtain ⟨n, o, h1, h2, h3, ⟨⟨r, w', f', g1, g2, g3⟩, h4⟩, L, h5, h6⟩ := h sz p e ha hc hk s m args below hf happ hP hK
  exact ⟨n, o, h1, h2, h3, ⟨⟨r, w', f', g1, hp r w' f' g2, g3⟩, h4⟩, L, h5, h6⟩
section ZM
variable {l : Launch} {D : va_G} {cy : Nat → ClassId} {own : String} {cc : ByteArray} {nL : Nat} {R : Room} {nm : String} {G : zJ} {κ : zκ} {f : zF} {ls ls' : List (Nat × Value)} {pc : Nat} {st : List Value}
set_option maxHeartbeats 2000000 in
theorem zM.intro {y : MethodName} {av : List Value} {w : zW} {ret : Option FieldType} {post : Option Value → zW → zF → Prop} (hy : plainName y.cls = true) (hn : (lg_sl av).length ≤ nL)
    (body : ∀ G : zJ, zX l D cy y.cls cc nL R y.name G → zE cc ret w R.cells R.slots post G → G (w, 0, 0) f (lv_args 0 av) 0 []) : zM l D cy y cc nL ret R av w f post := by
  intro sz
  refine Met.ofW (cc := cc) (maxL := nL) (ret := ret) hy rfl ?_
  intro p e s m args below meth c s₁ B hml hv
  obtain ⟨rfl, hsz, hP, hI, hKK⟩ := hv
  subst hsz
  have hr := B.returns
  have hlocks := B.notSynchronized
  have hnm : meth.name = y.name := (name_of_methodNamed B.named B.method).1
  have hA : ∀ q, s.heap.size ≤ q → zAd w s.heap.size q := fun q h => Or.inr h
  have hall : zAll w (zAd w s.heap.size) := fun i hi => Or.inl ⟨i, hi, rfl⟩
  have X : zX l D cy y.cls cc nL R y.name (zG p l e R s m av.toArray below meth c (MQ below (zQ D w s.heap.size post) av.toArray s R.cells R.slots (zAd w s.heap.size)) D nL (zAd w s.heap.size)) :=
    ⟨p, e, s, m, av.toArray, below, meth, c, _, _, rfl, B.exec, B.bytes, hml, hnm, findClass_of_methodNamed B.named, fun w h => atoms_spec (ws := zWs y cc nL ret) B.pre w (List.mem_cons_of_mem _ h), hA, hKK⟩
  have fin : ∀ (κ : zκ) (f : zF) (H : Heap) (locs : List Loc) (r : Option Value), va_P D vwCl (zl κ.1 f) H → zIn κ.1 → zAll κ.1 (zAd w s.heap.size) → va_S (zAd w s.heap.size) s.heap H locs → (w.1 ≤ κ.1.1 ∧ ∀ i, i < w.1 → κ.1.2 i = w.2 i) → post r κ.1 f → ∀ t : State, t.heap = H → s.WarmedH t.vm → zQ D w s.heap.size post av.toArray s (.returned r) t := by
    intro κ f H locs r hP hI hAl hS hg hp t ht hW
    exact ⟨⟨r, κ.1, f, rfl, hp, by rw [ht]; exact hP, hI, hAl, hg.1, hg.2⟩, hS.F ht⟩
  have E : zE cc ret w R.cells R.slots post (zG p l e R s m av.toArray below meth c (MQ below (zQ D w s.heap.size post) av.toArray s R.cells R.slots (zAd w s.heap.size)) D nL (zAd w s.heap.size)) := by
    refine ⟨?_, ?_, ?_⟩
    · intro κ f ls pc v hret hd hc1 hc2 hg hp H locs arr hP hI hAl hS hl
      refine W.widen hc1 hc2 ?_
      rcases hret with h | ⟨h, h0⟩
      · exact W.zret (ty := .int) B.exec B.bytes (hr.trans h) rfl (fin κ f H locs _ hP hI hAl hS hg hp) hS.2.2 hd hlocks
      · refine W.zret (ty := .boolean) B.exec B.bytes (hr.trans h) ?_ (fin κ f H locs _ hP hI hAl hS hg hp) hS.2.2 hd hlocks
        rcases h0 with rfl | rfl <;> rfl
    · intro κ f ls pc hret hd hc1 hc2 hg hp H locs arr hP hI hAl hS hl
      refine W.widen hc1 hc2 ?_
      exact W.vret B.exec B.bytes (hr.trans hret) (fin κ f H locs _ hP hI hAl hS hg hp) hS.2.2 hd hlocks
    · intro κ f ls pc v hret hv hd hc1 hc2 hg hp H locs arr hP hI hAl hS hl
      refine W.widen hc1 hc2 ?_
      obtain ⟨n, hn⟩ := hret
      exact W.aret B.exec B.bytes (hr.trans hn) (Or.inl ⟨n, rfl⟩) hv (fin κ f H locs _ hP hI hAl hS hg hp) hS.2.2 hd hlocks
  have key := body _ X E s.heap [] _ hP hI hall va_S.rf (lv_entry av (n := nL) hn)
  rw [lg_entry_eq]
  exact key
end ZM
def zFd (own : String) (index ci k : Nat) : Prop := ∃ (C : String) (T : u_T) (N : Nat) (ref : String), vwCl[ci]? = some (C, T, N) ∧ (∀ w ∈ u_ws C T N, w ∈ zTb) ∧ k < N ∧ Cond.fieldLink own index ref (T k).2.1 (T k).2.2.1 ∈ zTb ∧ ref = (T k).1
def zFn (own : String) (index ci k : Nat) : Prop := ∃ (C : String) (T : u_T) (N : Nat) (ref host : String), vwCl[ci]? = some (C, T, N) ∧ (∀ w ∈ u_ws C T N, w ∈ zTb) ∧ k < N ∧ Cond.fieldLinkNest own index ref (T k).2.1 (T k).2.2.1 host ∈ zNests ∧ ref = (T k).1
def zTy (ci k : Nat) (fin : Bool) (own : String) (ty : FieldType) : Prop := ∃ (C : String) (T : u_T) (N : Nat) (ty0 : Nat → FieldType), vwCl[ci]? = some (C, T, N) ∧ (∀ k, k < N → parseFieldDescriptor (T k).2.2.1 = some (ty0 k)) ∧ (∀ a, a < N → ∀ b, b < N → a ≠ b → (T a).2.1 ≠ (T b).2.1) ∧ (T k).2.2.2 = fin ∧ (fin = true → (T k).1 = own) ∧ parseFieldDescriptor (T k).2.2.1 = some ty
/-- what a call needs of a contract: its own room in the caller's -/
def zRm (Rc R : Room) (nLc : Nat) (κ : zκ) : Prop := Rc.frames + 1 ≤ R.frames ∧ 8 + (nLc + 11) + Rc.locals ≤ R.locals ∧ κ.2.1 + Rc.cells ≤ R.cells ∧ κ.2.2 + Rc.slots ≤ R.slots
theorem zBlind {D : va_G} {cy : Nat → ClassId} {w : zW} {f : zF} {sz : Nat} {av : List Value} : FrameBlind (va_Pc av (zPre D cy w f sz)) := by
  intro a U g mk q
  obtain ⟨q0, q1, q2, q3, q4, q5, q6, q7, q8, q9⟩ := q
  have hvm : U.vm = (U.calling g mk a).vm := rfl
  exact ⟨q0, q1, q2, q3, va_K.moved (u := U) (U := U.calling g mk a) (Vm.Alike.refl U.vm) q4, fun x hx => zNw_same (zNests_ok x hx) hvm (q5 x hx), q6.go (Vm.Alike.refl U.vm) (fun _ _ _ => rfl) (fun _ h => h), va_AO.moved (u := U) (U := U.calling g mk a) (Vm.Alike.refl U.vm) q7, va_AO.moved (u := U) (U := U.calling g mk a) (Vm.Alike.refl U.vm) q8, va_AO.moved (u := U) (U := U.calling g mk a) (Vm.Alike.refl U.vm) q9⟩
theorem zSub {w : zW} {A : Nat → Prop} {H0 H : Heap} {locs : List Loc} (hAl : zAll w A) (hS : va_S A H0 H locs) (hA : ∀ q, H0.size ≤ q → A q) : ∀ q, zAd w H.size q → A q := by
  intro q h
  rcases h with ⟨i, h1, h2⟩ | h
  · exact h2 ▸ hAl i h1
  · exact hA q (Nat.le_trans hS.1 h)
theorem zPre_of {D : va_G} {cy : Nat → ClassId} {w : zW} {f : zF} {A : Nat → Prop} {s U : State} {H : Heap} {locs : List Loc} (hP : va_P D vwCl (zl w f) H) (hI : zIn w) (hAl : zAll w A) (hS : va_S A s.heap H locs) (hA : ∀ q, s.heap.size ≤ q → A q) (hK : zK D cy A s) (hU : U.heap = H) (hW : s.WarmedH U.vm) : zPre D cy w f H.size U := by
  obtain ⟨k1, k2, k3, k4, k5, k6⟩ := hK
  refine ⟨by rw [hU], by rw [hU]; exact hP, hI, va_K.moved hW.alike k1, fun x hx => zNw_warm (zNests_ok x hx) hW (k2 x hx), ?_, k4.moved hW.alike, k5.moved hW.alike, k6.moved hW.alike⟩
  rw [hU]
  exact k3.go hW.alike (fun a h1 h2 => hS.2.1 a h1 h2) (zSub hAl hS hA)
theorem zGood {c0 : Cond} {ws : List Cond} (h : ∀ x ∈ ws, x ∈ zTb) : GoodIn zTb ws := fun w hw => ⟨h w hw, good_of_word (zTb_good (h w hw))⟩
theorem zWs_in {y : MethodName} {cc : ByteArray} {nL : Nat} {ret : Option FieldType} (h : Cond.code y cc nL ret ∈ zTb) : ∀ x ∈ zWs y cc nL ret, x ∈ zTb := by
  intro x hx
  rcases List.mem_cons.mp hx with rfl | hx
  · exact h
  · exact hx
section ZC
variable {p : Program} {l : Launch} {e : Env} {R : Room} {s : State} {m : MethodId} {args : Array Value} {below : List Frame} {meth : Method} {c : Code} {H : Heap} {locs : List Loc} {cells slots mc ms : Nat} {Q : State → Prop} {D : va_G} {w : zW} {f : zF} {pc : Nat} {ls : Array Slot} {rest st0 : List Value} {a : Array Value} {A0 : Nat → Prop} {H0 : Heap} {free : Addr → Prop}
/-- behind a call: the whole world anew -/
theorem zCall {post : Option Value → zW → zF → Prop} (hr : va_Run p l e R s m args below meth c H locs cells slots mc ms (F0 m pc ls st0) rest (zQ D w H.size post a) free) (hS : va_S A0 H0 H locs) (hA : ∀ q, zAd w H.size q → A0 q) (hf : ∀ q, free q → A0 q)
    (kk : ∀ (r : Option Value) (w' : zW) (f' : zF) (H1 : Heap) (locs1 : List Loc), post r w' f' → va_P D vwCl (zl w' f') H1 → zIn w' → zAll w' A0 → w.1 ≤ w'.1 → (∀ i, i < w.1 → w'.2 i = w.2 i) → va_S A0 H0 H1 locs1 → W p l e R s m args below meth c H1 locs1 (cells + mc) (slots + ms) Q (F0 m (pc + 3) ls (r.toList ++ rest))) : W p l e R s m args below meth c H locs cells slots Q (F0 m pc ls st0) := by
  intro T hT X
  obtain ⟨v, st₀, t, T', L, h0, X', hL, e1, e2, ⟨⟨r, w', f', hv, hp, g1, g2, g3, g4, g5⟩, hz, hk⟩, st⟩ := hr T hT X
  cases hv
  rw [h0] at hz hk
  obtain ⟨t2, a1, b1⟩ := kk v w' f' T'.heap (locs ++ L) hp (by rw [e1]; exact g1) g2 (fun i hi => hA _ (g3 i hi)) g4 g5
    ⟨Nat.le_trans hS.1 (by rw [e1]; exact hz), fun q h1 h2 => by rw [e1, hk q (Nat.lt_of_lt_of_le h1 hS.1) (fun z => h2 (hA q z))]; exact hS.2.1 q h1 h2, fun q hq => by
      rcases List.mem_append.mp hq with h | h
      · exact hS.2.2 q h
      · exact hf _ (hL q h)⟩ T' rfl X'
  exact ⟨t2, st t2 a1, b1⟩
end ZC
theorem zw_min_static : Cond.static Lib.Math.min.name ∈ zTb := zt2 219 (by decide +kernel) (by decide +kernel)
theorem zw_min_init : Cond.initialized "java/lang/Math" ∈ zTb := zt1 10 (by decide +kernel) (by decide +kernel)
theorem zw_min_code : Cond.code Lib.Math.min.name Lib.Math.min.code 2 (some .int) ∈ zTb := zt2 220 (by decide +kernel) (by decide +kernel)
theorem zw_obj_inst : Cond.instanceMethod objectInit ∈ zTb := zt1 17 (by decide +kernel) (by decide +kernel)
theorem zw_obj_code : Cond.code objectInit ⟨#[0xb1]⟩ 1 none ∈ zTb := zt1 18 (by decide +kernel) (by decide +kernel)
section ZR
variable {l : Launch} {D : va_G} {cy : Nat → ClassId} {own : String} {cc : ByteArray} {nL : Nat} {R : Room} {nm : String} {G : zJ} {κ : zκ} {f : zF} {ls ls' : List (Nat × Value)} {pc : Nat} {st : List Value}
theorem zr_iconst (X : zX l D cy own cc nL R nm G) {n : Int} {v : Int32} (d : decode cc pc = .ok (.iconst n, 1)) (hv : Int32.ofInt n = v) (k : G κ f ls (pc + 1) (.int v :: st)) : G κ f ls pc (st) := by
  obtain ⟨p, e, s, m, args, below, meth, c, Q, A, rfl, hx, hb, hml, hnm, hown, hts, hA, hK⟩ := X
  intro H locs arr hP hI hAl hS hl
  exact lv_iconst hx hb d hv (k H locs arr hP hI hAl hS hl)
theorem zr_bipush (X : zX l D cy own cc nL R nm G) {n : Int} {v : Int32} (d : decode cc pc = .ok (.bipush n, 2)) (hv : (Int8.ofInt n).toInt32 = v) (k : G κ f ls (pc + 2) (.int v :: st)) : G κ f ls pc (st) := by
  obtain ⟨p, e, s, m, args, below, meth, c, Q, A, rfl, hx, hb, hml, hnm, hown, hts, hA, hK⟩ := X
  intro H locs arr hP hI hAl hS hl
  exact lv_bipush hx hb d hv (k H locs arr hP hI hAl hS hl)
theorem zr_sipush (X : zX l D cy own cc nL R nm G) {n : Int} {v : Int32} (d : decode cc pc = .ok (.sipush n, 3)) (hv : (Int16.ofInt n).toInt32 = v) (k : G κ f ls (pc + 3) (.int v :: st)) : G κ f ls pc (st) := by
  obtain ⟨p, e, s, m, args, below, meth, c, Q, A, rfl, hx, hb, hml, hnm, hown, hts, hA, hK⟩ := X
  intro H locs arr hP hI hAl hS hl
  exact lv_sipush hx hb d hv (k H locs arr hP hI hAl hS hl)
theorem zr_iload_n (X : zX l D cy own cc nL R nm G) {q : Fin 4} {i : Nat} {x : Int32} (j : Nat) (d : decode cc pc = .ok (.iload_n q, 1)) (hi : (q : Nat) = i) (h : ls[j]? = some (i, .int x)) (k : G κ f ls (pc + 1) (.int x :: st)) : G κ f ls pc (st) := by
  obtain ⟨p, e, s, m, args, below, meth, c, Q, A, rfl, hx, hb, hml, hnm, hown, hts, hA, hK⟩ := X
  intro H locs arr hP hI hAl hS hl
  exact lv_iload_n hx hb d hi (lv_at hl j h) (k H locs arr hP hI hAl hS hl)
theorem zr_iload (X : zX l D cy own cc nL R nm G) {i : Nat} {x : Int32} (j : Nat) (d : decode cc pc = .ok (.iload i, 2)) (h : ls[j]? = some (i, .int x)) (k : G κ f ls (pc + 2) (.int x :: st)) : G κ f ls pc (st) := by
  obtain ⟨p, e, s, m, args, below, meth, c, Q, A, rfl, hx, hb, hml, hnm, hown, hts, hA, hK⟩ := X
  intro H locs arr hP hI hAl hS hl
  exact lv_iload hx hb d (lv_at hl j h) (k H locs arr hP hI hAl hS hl)
theorem zr_aload_n (X : zX l D cy own cc nL R nm G) {q : Fin 4} {i : Nat} {x : Nat} (j : Nat) (d : decode cc pc = .ok (.aload_n q, 1)) (hi : (q : Nat) = i) (h : ls[j]? = some (i, .ref x)) (k : G κ f ls (pc + 1) (.ref x :: st)) : G κ f ls pc (st) := by
  obtain ⟨p, e, s, m, args, below, meth, c, Q, A, rfl, hx, hb, hml, hnm, hown, hts, hA, hK⟩ := X
  intro H locs arr hP hI hAl hS hl
  exact lv_aload_n hx hb d hi (lv_at hl j h) (k H locs arr hP hI hAl hS hl)
theorem zr_aload (X : zX l D cy own cc nL R nm G) {i : Nat} {x : Nat} (j : Nat) (d : decode cc pc = .ok (.aload i, 2)) (h : ls[j]? = some (i, .ref x)) (k : G κ f ls (pc + 2) (.ref x :: st)) : G κ f ls pc (st) := by
  obtain ⟨p, e, s, m, args, below, meth, c, Q, A, rfl, hx, hb, hml, hnm, hown, hts, hA, hK⟩ := X
  intro H locs arr hP hI hAl hS hl
  exact lv_aload hx hb d (lv_at hl j h) (k H locs arr hP hI hAl hS hl)
theorem zr_fload_n (X : zX l D cy own cc nL R nm G) {q : Fin 4} {i : Nat} {x : UInt32} (j : Nat) (d : decode cc pc = .ok (.fload_n q, 1)) (hi : (q : Nat) = i) (h : ls[j]? = some (i, .float x)) (k : G κ f ls (pc + 1) (.float x :: st)) : G κ f ls pc (st) := by
  obtain ⟨p, e, s, m, args, below, meth, c, Q, A, rfl, hx, hb, hml, hnm, hown, hts, hA, hK⟩ := X
  intro H locs arr hP hI hAl hS hl
  exact lv_fload_n hx hb d hi (lv_at hl j h) (k H locs arr hP hI hAl hS hl)
theorem zr_fload (X : zX l D cy own cc nL R nm G) {i : Nat} {x : UInt32} (j : Nat) (d : decode cc pc = .ok (.fload i, 2)) (h : ls[j]? = some (i, .float x)) (k : G κ f ls (pc + 2) (.float x :: st)) : G κ f ls pc (st) := by
  obtain ⟨p, e, s, m, args, below, meth, c, Q, A, rfl, hx, hb, hml, hnm, hown, hts, hA, hK⟩ := X
  intro H locs arr hP hI hAl hS hl
  exact lv_fload hx hb d (lv_at hl j h) (k H locs arr hP hI hAl hS hl)
theorem zr_aload_nN (X : zX l D cy own cc nL R nm G) {q : Fin 4} {i : Nat} (j : Nat) (d : decode cc pc = .ok (.aload_n q, 1)) (hi : (q : Nat) = i) (h : ls[j]? = some (i, .null)) (k : G κ f ls (pc + 1) (.null :: st)) : G κ f ls pc (st) := by
  obtain ⟨p, e, s, m, args, below, meth, c, Q, A, rfl, hx, hb, hml, hnm, hown, hts, hA, hK⟩ := X
  intro H locs arr hP hI hAl hS hl
  exact lv_aload_nN hx hb d hi (lv_at hl j h) (k H locs arr hP hI hAl hS hl)
theorem zr_aloadN (X : zX l D cy own cc nL R nm G) {i : Nat} (j : Nat) (d : decode cc pc = .ok (.aload i, 2)) (h : ls[j]? = some (i, .null)) (k : G κ f ls (pc + 2) (.null :: st)) : G κ f ls pc (st) := by
  obtain ⟨p, e, s, m, args, below, meth, c, Q, A, rfl, hx, hb, hml, hnm, hown, hts, hA, hK⟩ := X
  intro H locs arr hP hI hAl hS hl
  exact lv_aloadN hx hb d (lv_at hl j h) (k H locs arr hP hI hAl hS hl)
theorem zr_istore_n (X : zX l D cy own cc nL R nm G) {q : Fin 4} {i : Nat} {x : Int32} (d : decode cc pc = .ok (.istore_n q, 1)) (hi : (q : Nat) = i) (hn : i < nL) (h : (i, Value.int x) :: ls.filter (fun q => !(q.1 == i) && !(q.1 + 1 == i && q.2.category == 2)) = ls') (k : G κ f ls' (pc + 1) st) : G κ f ls pc (Value.int x :: st) := by
  obtain ⟨p, e, s, m, args, below, meth, c, Q, A, rfl, hx, hb, hml, hnm, hown, hts, hA, hK⟩ := X
  intro H locs arr hP hI hAl hS hl
  exact lv_istore_n hx hb d hi hl hn h (fun arr' hl' => k H locs arr' hP hI hAl hS hl')
theorem zr_istore (X : zX l D cy own cc nL R nm G) {i : Nat} {x : Int32} (d : decode cc pc = .ok (.istore i, 2)) (hn : i < nL) (h : (i, Value.int x) :: ls.filter (fun q => !(q.1 == i) && !(q.1 + 1 == i && q.2.category == 2)) = ls') (k : G κ f ls' (pc + 2) st) : G κ f ls pc (Value.int x :: st) := by
  obtain ⟨p, e, s, m, args, below, meth, c, Q, A, rfl, hx, hb, hml, hnm, hown, hts, hA, hK⟩ := X
  intro H locs arr hP hI hAl hS hl
  exact lv_istore hx hb d hl hn h (fun arr' hl' => k H locs arr' hP hI hAl hS hl')
theorem zr_astore_n (X : zX l D cy own cc nL R nm G) {q : Fin 4} {i : Nat} {x : Nat} (d : decode cc pc = .ok (.astore_n q, 1)) (hi : (q : Nat) = i) (hn : i < nL) (h : (i, Value.ref x) :: ls.filter (fun q => !(q.1 == i) && !(q.1 + 1 == i && q.2.category == 2)) = ls') (k : G κ f ls' (pc + 1) st) : G κ f ls pc (Value.ref x :: st) := by
  obtain ⟨p, e, s, m, args, below, meth, c, Q, A, rfl, hx, hb, hml, hnm, hown, hts, hA, hK⟩ := X
  intro H locs arr hP hI hAl hS hl
  exact lv_astore_n hx hb d hi hl hn h (fun arr' hl' => k H locs arr' hP hI hAl hS hl')
theorem zr_astore (X : zX l D cy own cc nL R nm G) {i : Nat} {x : Nat} (d : decode cc pc = .ok (.astore i, 2)) (hn : i < nL) (h : (i, Value.ref x) :: ls.filter (fun q => !(q.1 == i) && !(q.1 + 1 == i && q.2.category == 2)) = ls') (k : G κ f ls' (pc + 2) st) : G κ f ls pc (Value.ref x :: st) := by
  obtain ⟨p, e, s, m, args, below, meth, c, Q, A, rfl, hx, hb, hml, hnm, hown, hts, hA, hK⟩ := X
  intro H locs arr hP hI hAl hS hl
  exact lv_astore hx hb d hl hn h (fun arr' hl' => k H locs arr' hP hI hAl hS hl')
theorem zr_fstore_n (X : zX l D cy own cc nL R nm G) {q : Fin 4} {i : Nat} {x : UInt32} (d : decode cc pc = .ok (.fstore_n q, 1)) (hi : (q : Nat) = i) (hn : i < nL) (h : (i, Value.float x) :: ls.filter (fun q => !(q.1 == i) && !(q.1 + 1 == i && q.2.category == 2)) = ls') (k : G κ f ls' (pc + 1) st) : G κ f ls pc (Value.float x :: st) := by
  obtain ⟨p, e, s, m, args, below, meth, c, Q, A, rfl, hx, hb, hml, hnm, hown, hts, hA, hK⟩ := X
  intro H locs arr hP hI hAl hS hl
  exact lv_fstore_n hx hb d hi hl hn h (fun arr' hl' => k H locs arr' hP hI hAl hS hl')
theorem zr_fstore (X : zX l D cy own cc nL R nm G) {i : Nat} {x : UInt32} (d : decode cc pc = .ok (.fstore i, 2)) (hn : i < nL) (h : (i, Value.float x) :: ls.filter (fun q => !(q.1 == i) && !(q.1 + 1 == i && q.2.category == 2)) = ls') (k : G κ f ls' (pc + 2) st) : G κ f ls pc (Value.float x :: st) := by
  obtain ⟨p, e, s, m, args, below, meth, c, Q, A, rfl, hx, hb, hml, hnm, hown, hts, hA, hK⟩ := X
  intro H locs arr hP hI hAl hS hl
  exact lv_fstore hx hb d hl hn h (fun arr' hl' => k H locs arr' hP hI hAl hS hl')
theorem zr_astore_nN (X : zX l D cy own cc nL R nm G) {q : Fin 4} {i : Nat} (d : decode cc pc = .ok (.astore_n q, 1)) (hi : (q : Nat) = i) (hn : i < nL) (h : (i, Value.null) :: ls.filter (fun q => !(q.1 == i) && !(q.1 + 1 == i && q.2.category == 2)) = ls') (k : G κ f ls' (pc + 1) st) : G κ f ls pc (Value.null :: st) := by
  obtain ⟨p, e, s, m, args, below, meth, c, Q, A, rfl, hx, hb, hml, hnm, hown, hts, hA, hK⟩ := X
  intro H locs arr hP hI hAl hS hl
  exact lv_astore_nN hx hb d hi hl hn h (fun arr' hl' => k H locs arr' hP hI hAl hS hl')
theorem zr_astoreN (X : zX l D cy own cc nL R nm G) {i : Nat} (d : decode cc pc = .ok (.astore i, 2)) (hn : i < nL) (h : (i, Value.null) :: ls.filter (fun q => !(q.1 == i) && !(q.1 + 1 == i && q.2.category == 2)) = ls') (k : G κ f ls' (pc + 2) st) : G κ f ls pc (Value.null :: st) := by
  obtain ⟨p, e, s, m, args, below, meth, c, Q, A, rfl, hx, hb, hml, hnm, hown, hts, hA, hK⟩ := X
  intro H locs arr hP hI hAl hS hl
  exact lv_astoreN hx hb d hl hn h (fun arr' hl' => k H locs arr' hP hI hAl hS hl')
theorem zr_iinc (X : zX l D cy own cc nL R nm G) {i : Nat} {n : Int} {x v : Int32} (j : Nat) (d : decode cc pc = .ok (.iinc i n, 3)) (hj : ls[j]? = some (i, .int x)) (hv : x + Int32.ofInt n = v) (hn : i < nL) (h : (i, Value.int v) :: ls.filter (fun q => !(q.1 == i) && !(q.1 + 1 == i && q.2.category == 2)) = ls') (k : G κ f ls' (pc + 3) st) : G κ f ls pc (st) := by
  obtain ⟨p, e, s, m, args, below, meth, c, Q, A, rfl, hx, hb, hml, hnm, hown, hts, hA, hK⟩ := X
  intro H locs arr hP hI hAl hS hl
  exact lv_iinc hx hb d hl hj hv hn h (fun arr' hl' => k H locs arr' hP hI hAl hS hl')
theorem zr_iadd (X : zX l D cy own cc nL R nm G) {x y : Int32} (d : decode cc pc = .ok (.iadd, 1))  (k : G κ f ls (pc + 1) (.int (x + y) :: st)) : G κ f ls pc (.int y :: .int x :: st) := by
  obtain ⟨p, e, s, m, args, below, meth, c, Q, A, rfl, hx, hb, hml, hnm, hown, hts, hA, hK⟩ := X
  intro H locs arr hP hI hAl hS hl
  exact lv_iadd hx hb d (k H locs arr hP hI hAl hS hl)
theorem zr_isub (X : zX l D cy own cc nL R nm G) {x y : Int32} (d : decode cc pc = .ok (.isub, 1))  (k : G κ f ls (pc + 1) (.int (x - y) :: st)) : G κ f ls pc (.int y :: .int x :: st) := by
  obtain ⟨p, e, s, m, args, below, meth, c, Q, A, rfl, hx, hb, hml, hnm, hown, hts, hA, hK⟩ := X
  intro H locs arr hP hI hAl hS hl
  exact lv_isub hx hb d (k H locs arr hP hI hAl hS hl)
theorem zr_imul (X : zX l D cy own cc nL R nm G) {x y : Int32} (d : decode cc pc = .ok (.imul, 1))  (k : G κ f ls (pc + 1) (.int (x * y) :: st)) : G κ f ls pc (.int y :: .int x :: st) := by
  obtain ⟨p, e, s, m, args, below, meth, c, Q, A, rfl, hx, hb, hml, hnm, hown, hts, hA, hK⟩ := X
  intro H locs arr hP hI hAl hS hl
  exact lv_imul hx hb d (k H locs arr hP hI hAl hS hl)
theorem zr_iand (X : zX l D cy own cc nL R nm G) {x y : Int32} (d : decode cc pc = .ok (.iand, 1))  (k : G κ f ls (pc + 1) (.int (x &&& y) :: st)) : G κ f ls pc (.int y :: .int x :: st) := by
  obtain ⟨p, e, s, m, args, below, meth, c, Q, A, rfl, hx, hb, hml, hnm, hown, hts, hA, hK⟩ := X
  intro H locs arr hP hI hAl hS hl
  exact lv_iand hx hb d (k H locs arr hP hI hAl hS hl)
theorem zr_ior (X : zX l D cy own cc nL R nm G) {x y : Int32} (d : decode cc pc = .ok (.ior, 1))  (k : G κ f ls (pc + 1) (.int (x ||| y) :: st)) : G κ f ls pc (.int y :: .int x :: st) := by
  obtain ⟨p, e, s, m, args, below, meth, c, Q, A, rfl, hx, hb, hml, hnm, hown, hts, hA, hK⟩ := X
  intro H locs arr hP hI hAl hS hl
  exact lv_ior hx hb d (k H locs arr hP hI hAl hS hl)
theorem zr_ishl (X : zX l D cy own cc nL R nm G) {x y : Int32} (d : decode cc pc = .ok (.ishl, 1))  (k : G κ f ls (pc + 1) (.int (x <<< (y &&& 31)) :: st)) : G κ f ls pc (.int y :: .int x :: st) := by
  obtain ⟨p, e, s, m, args, below, meth, c, Q, A, rfl, hx, hb, hml, hnm, hown, hts, hA, hK⟩ := X
  intro H locs arr hP hI hAl hS hl
  exact lv_ishl hx hb d (k H locs arr hP hI hAl hS hl)
theorem zr_idiv (X : zX l D cy own cc nL R nm G) {x y : Int32} (d : decode cc pc = .ok (.idiv, 1)) (hne : ¬ y = 0) (k : G κ f ls (pc + 1) (.int (x / y) :: st)) : G κ f ls pc (.int y :: .int x :: st) := by
  obtain ⟨p, e, s, m, args, below, meth, c, Q, A, rfl, hx, hb, hml, hnm, hown, hts, hA, hK⟩ := X
  intro H locs arr hP hI hAl hS hl
  exact lv_idiv hx hb d hne (k H locs arr hP hI hAl hS hl)
theorem zr_irem (X : zX l D cy own cc nL R nm G) {x y : Int32} (d : decode cc pc = .ok (.irem, 1)) (hne : ¬ y = 0) (k : G κ f ls (pc + 1) (.int (x - x / y * y) :: st)) : G κ f ls pc (.int y :: .int x :: st) := by
  obtain ⟨p, e, s, m, args, below, meth, c, Q, A, rfl, hx, hb, hml, hnm, hown, hts, hA, hK⟩ := X
  intro H locs arr hP hI hAl hS hl
  exact lv_irem hx hb d hne (k H locs arr hP hI hAl hS hl)
theorem zr_ineg (X : zX l D cy own cc nL R nm G) {x : Int32} (d : decode cc pc = .ok (.ineg, 1))  (k : G κ f ls (pc + 1) (.int (-x) :: st)) : G κ f ls pc (.int x :: st) := by
  obtain ⟨p, e, s, m, args, below, meth, c, Q, A, rfl, hx, hb, hml, hnm, hown, hts, hA, hK⟩ := X
  intro H locs arr hP hI hAl hS hl
  exact lv_ineg hx hb d (k H locs arr hP hI hAl hS hl)
theorem zr_i2c (X : zX l D cy own cc nL R nm G) {x v : Int32} (d : decode cc pc = .ok (.i2c, 1)) (hv : (x.toUInt32 % 65536).toInt32 = v) (k : G κ f ls (pc + 1) (.int v :: st)) : G κ f ls pc (.int x :: st) := by
  obtain ⟨p, e, s, m, args, below, meth, c, Q, A, rfl, hx, hb, hml, hnm, hown, hts, hA, hK⟩ := X
  intro H locs arr hP hI hAl hS hl
  exact lv_i2c hx hb d hv (k H locs arr hP hI hAl hS hl)
theorem zr_i2f (X : zX l D cy own cc nL R nm G) {x : Int32} (d : decode cc pc = .ok (.i2f, 1))  (k : G κ f ls (pc + 1) (.float (FP.i2f x) :: st)) : G κ f ls pc (.int x :: st) := by
  obtain ⟨p, e, s, m, args, below, meth, c, Q, A, rfl, hx, hb, hml, hnm, hown, hts, hA, hK⟩ := X
  intro H locs arr hP hI hAl hS hl
  exact lv_i2f hx hb d (k H locs arr hP hI hAl hS hl)
theorem zr_f2i (X : zX l D cy own cc nL R nm G) {x : UInt32} (d : decode cc pc = .ok (.f2i, 1))  (k : G κ f ls (pc + 1) (.int (FP.f2i x) :: st)) : G κ f ls pc (.float x :: st) := by
  obtain ⟨p, e, s, m, args, below, meth, c, Q, A, rfl, hx, hb, hml, hnm, hown, hts, hA, hK⟩ := X
  intro H locs arr hP hI hAl hS hl
  exact lv_f2i hx hb d (k H locs arr hP hI hAl hS hl)
theorem zr_fconst0 (X : zX l D cy own cc nL R nm G)  (d : decode cc pc = .ok (.fconst 0, 1))  (k : G κ f ls (pc + 1) (.float FP.fconst0 :: st)) : G κ f ls pc (st) := by
  obtain ⟨p, e, s, m, args, below, meth, c, Q, A, rfl, hx, hb, hml, hnm, hown, hts, hA, hK⟩ := X
  intro H locs arr hP hI hAl hS hl
  exact lv_fconst0 hx hb d (k H locs arr hP hI hAl hS hl)
theorem zr_fconst1 (X : zX l D cy own cc nL R nm G)  (d : decode cc pc = .ok (.fconst 1, 1))  (k : G κ f ls (pc + 1) (.float FP.fconst1 :: st)) : G κ f ls pc (st) := by
  obtain ⟨p, e, s, m, args, below, meth, c, Q, A, rfl, hx, hb, hml, hnm, hown, hts, hA, hK⟩ := X
  intro H locs arr hP hI hAl hS hl
  exact lv_fconst1 hx hb d (k H locs arr hP hI hAl hS hl)
theorem zr_fconst2 (X : zX l D cy own cc nL R nm G)  (d : decode cc pc = .ok (.fconst 2, 1))  (k : G κ f ls (pc + 1) (.float FP.fconst2 :: st)) : G κ f ls pc (st) := by
  obtain ⟨p, e, s, m, args, below, meth, c, Q, A, rfl, hx, hb, hml, hnm, hown, hts, hA, hK⟩ := X
  intro H locs arr hP hI hAl hS hl
  exact lv_fconst2 hx hb d (k H locs arr hP hI hAl hS hl)
theorem zr_fsub (X : zX l D cy own cc nL R nm G) {x y : UInt32} (d : decode cc pc = .ok (.fsub, 1)) (hne : vf_n32 (FP.fsub x y)) (k : G κ f ls (pc + 1) (.float (FP.fsub x y) :: st)) : G κ f ls pc (.float y :: .float x :: st) := by
  obtain ⟨p, e, s, m, args, below, meth, c, Q, A, rfl, hx, hb, hml, hnm, hown, hts, hA, hK⟩ := X
  intro H locs arr hP hI hAl hS hl
  exact lv_fsub hx hb d hne (k H locs arr hP hI hAl hS hl)
theorem zr_fmul (X : zX l D cy own cc nL R nm G) {x y : UInt32} (d : decode cc pc = .ok (.fmul, 1)) (hne : vf_n32 (FP.fmul x y)) (k : G κ f ls (pc + 1) (.float (FP.fmul x y) :: st)) : G κ f ls pc (.float y :: .float x :: st) := by
  obtain ⟨p, e, s, m, args, below, meth, c, Q, A, rfl, hx, hb, hml, hnm, hown, hts, hA, hK⟩ := X
  intro H locs arr hP hI hAl hS hl
  exact lv_fmul hx hb d hne (k H locs arr hP hI hAl hS hl)
theorem zr_fdiv (X : zX l D cy own cc nL R nm G) {x y : UInt32} (d : decode cc pc = .ok (.fdiv, 1)) (hne : vf_n32 (FP.fdiv x y)) (k : G κ f ls (pc + 1) (.float (FP.fdiv x y) :: st)) : G κ f ls pc (.float y :: .float x :: st) := by
  obtain ⟨p, e, s, m, args, below, meth, c, Q, A, rfl, hx, hb, hml, hnm, hown, hts, hA, hK⟩ := X
  intro H locs arr hP hI hAl hS hl
  exact lv_fdiv hx hb d hne (k H locs arr hP hI hAl hS hl)
theorem zr_dup (X : zX l D cy own cc nL R nm G) {v : Value} (d : decode cc pc = .ok (.dup, 1)) (hc : v.category = 1) (k : G κ f ls (pc + 1) (v :: v :: st)) : G κ f ls pc (v :: st) := by
  obtain ⟨p, e, s, m, args, below, meth, c, Q, A, rfl, hx, hb, hml, hnm, hown, hts, hA, hK⟩ := X
  intro H locs arr hP hI hAl hS hl
  exact lv_dup hx hb d hc (k H locs arr hP hI hAl hS hl)
theorem zr_pop (X : zX l D cy own cc nL R nm G) {v : Value} (d : decode cc pc = .ok (.pop, 1)) (hc : v.category = 1) (k : G κ f ls (pc + 1) (st)) : G κ f ls pc (v :: st) := by
  obtain ⟨p, e, s, m, args, below, meth, c, Q, A, rfl, hx, hb, hml, hnm, hown, hts, hA, hK⟩ := X
  intro H locs arr hP hI hAl hS hl
  exact lv_pop hx hb d hc (k H locs arr hP hI hAl hS hl)
theorem zr_dup2 (X : zX l D cy own cc nL R nm G) {v u : Value} (d : decode cc pc = .ok (.dup2, 1)) (hc : v.category = 1) (hd : u.category = 1) (k : G κ f ls (pc + 1) (v :: u :: v :: u :: st)) : G κ f ls pc (v :: u :: st) := by
  obtain ⟨p, e, s, m, args, below, meth, c, Q, A, rfl, hx, hb, hml, hnm, hown, hts, hA, hK⟩ := X
  intro H locs arr hP hI hAl hS hl
  exact lv_dup2_11 hx hb d hc hd (k H locs arr hP hI hAl hS hl)
theorem zr_null (X : zX l D cy own cc nL R nm G)  (d : decode cc pc = .ok (.aconst_null, 1))  (k : G κ f ls (pc + 1) (.null :: st)) : G κ f ls pc (st) := by
  obtain ⟨p, e, s, m, args, below, meth, c, Q, A, rfl, hx, hb, hml, hnm, hown, hts, hA, hK⟩ := X
  intro H locs arr hP hI hAl hS hl
  exact lv_null hx hb d (k H locs arr hP hI hAl hS hl)
theorem zr_ifnull (X : zX l D cy own cc nL R nm G) {off : Int} {x : Nat} (d : decode cc pc = .ok (.ifnull off, 3))  (k : G κ f ls (pc + 3) (st)) : G κ f ls pc (.ref x :: st) := by
  obtain ⟨p, e, s, m, args, below, meth, c, Q, A, rfl, hx, hb, hml, hnm, hown, hts, hA, hK⟩ := X
  intro H locs arr hP hI hAl hS hl
  exact lv_ifnull hx hb d (k H locs arr hP hI hAl hS hl)
theorem zr_ifnonnullN (X : zX l D cy own cc nL R nm G) {off : Int} (d : decode cc pc = .ok (.ifnonnull off, 3))  (k : G κ f ls (pc + 3) (st)) : G κ f ls pc (.null :: st) := by
  obtain ⟨p, e, s, m, args, below, meth, c, Q, A, rfl, hx, hb, hml, hnm, hown, hts, hA, hK⟩ := X
  intro H locs arr hP hI hAl hS hl
  exact lv_ifnonnullN hx hb d (k H locs arr hP hI hAl hS hl)
theorem zr_ifnonnull (X : zX l D cy own cc nL R nm G) {off : Int} {tgt x : Nat} (d : decode cc pc = .ok (.ifnonnull off, 3)) (ht : (pc : Int) + off = (tgt : Int)) (k : G κ f ls tgt st) : G κ f ls pc (.ref x :: st) := by
  obtain ⟨p, e, s, m, args, below, meth, c, Q, A, rfl, hx, hb, hml, hnm, hown, hts, hA, hK⟩ := X
  intro H locs arr hP hI hAl hS hl
  exact lv_ifnonnull hx hb d ht (k H locs arr hP hI hAl hS hl)
theorem zr_ifnullN (X : zX l D cy own cc nL R nm G) {off : Int} {tgt : Nat} (d : decode cc pc = .ok (.ifnull off, 3)) (ht : (pc : Int) + off = (tgt : Int)) (k : G κ f ls tgt st) : G κ f ls pc (.null :: st) := by
  obtain ⟨p, e, s, m, args, below, meth, c, Q, A, rfl, hx, hb, hml, hnm, hown, hts, hA, hK⟩ := X
  intro H locs arr hP hI hAl hS hl
  exact lv_ifnullN hx hb d ht (k H locs arr hP hI hAl hS hl)
theorem zr_goto (X : zX l D cy own cc nL R nm G) {off : Int} {tgt : Nat} (d : decode cc pc = .ok (.goto off, 3)) (ht : (pc : Int) + off = (tgt : Int)) (k : G κ f ls tgt st) : G κ f ls pc (st) := by
  obtain ⟨p, e, s, m, args, below, meth, c, Q, A, rfl, hx, hb, hml, hnm, hown, hts, hA, hK⟩ := X
  intro H locs arr hP hI hAl hS hl
  exact lv_goto hx hb d ht (k H locs arr hP hI hAl hS hl)
theorem zr_if_eq (X : zX l D cy own cc nL R nm G) {x : Int32} {off : Int} {tgt : Nat} (d : decode cc pc = .ok (.ifCond .eq off, 3)) (ht : (pc : Int) + off = (tgt : Int)) (kt : x = 0 → G κ f ls tgt st) (kf : ¬ x = 0 → G κ f ls (pc + 3) st) : G κ f ls pc (.int x :: st) := by
  obtain ⟨p, e, s, m, args, below, meth, c, Q, A, rfl, hx, hb, hml, hnm, hown, hts, hA, hK⟩ := X
  intro H locs arr hP hI hAl hS hl
  exact lv_if_eq hx hb d ht (fun h => kt h H locs arr hP hI hAl hS hl) (fun h => kf h H locs arr hP hI hAl hS hl)
theorem zr_icmp_eq (X : zX l D cy own cc nL R nm G) {x y : Int32} {off : Int} {tgt : Nat} (d : decode cc pc = .ok (.if_icmp .eq off, 3)) (ht : (pc : Int) + off = (tgt : Int)) (kt : x = y → G κ f ls tgt st) (kf : ¬ x = y → G κ f ls (pc + 3) st) : G κ f ls pc (.int y :: .int x :: st) := by
  obtain ⟨p, e, s, m, args, below, meth, c, Q, A, rfl, hx, hb, hml, hnm, hown, hts, hA, hK⟩ := X
  intro H locs arr hP hI hAl hS hl
  exact lv_icmp_eq hx hb d ht (fun h => kt h H locs arr hP hI hAl hS hl) (fun h => kf h H locs arr hP hI hAl hS hl)
theorem zr_if_ne (X : zX l D cy own cc nL R nm G) {x : Int32} {off : Int} {tgt : Nat} (d : decode cc pc = .ok (.ifCond .ne off, 3)) (ht : (pc : Int) + off = (tgt : Int)) (kt : ¬ x = 0 → G κ f ls tgt st) (kf : x = 0 → G κ f ls (pc + 3) st) : G κ f ls pc (.int x :: st) := by
  obtain ⟨p, e, s, m, args, below, meth, c, Q, A, rfl, hx, hb, hml, hnm, hown, hts, hA, hK⟩ := X
  intro H locs arr hP hI hAl hS hl
  exact lv_if_ne hx hb d ht (fun h => kt h H locs arr hP hI hAl hS hl) (fun h => kf h H locs arr hP hI hAl hS hl)
theorem zr_icmp_ne (X : zX l D cy own cc nL R nm G) {x y : Int32} {off : Int} {tgt : Nat} (d : decode cc pc = .ok (.if_icmp .ne off, 3)) (ht : (pc : Int) + off = (tgt : Int)) (kt : ¬ x = y → G κ f ls tgt st) (kf : x = y → G κ f ls (pc + 3) st) : G κ f ls pc (.int y :: .int x :: st) := by
  obtain ⟨p, e, s, m, args, below, meth, c, Q, A, rfl, hx, hb, hml, hnm, hown, hts, hA, hK⟩ := X
  intro H locs arr hP hI hAl hS hl
  exact lv_icmp_ne hx hb d ht (fun h => kt h H locs arr hP hI hAl hS hl) (fun h => kf h H locs arr hP hI hAl hS hl)
theorem zr_if_lt (X : zX l D cy own cc nL R nm G) {x : Int32} {off : Int} {tgt : Nat} (d : decode cc pc = .ok (.ifCond .lt off, 3)) (ht : (pc : Int) + off = (tgt : Int)) (kt : x < 0 → G κ f ls tgt st) (kf : ¬ x < 0 → G κ f ls (pc + 3) st) : G κ f ls pc (.int x :: st) := by
  obtain ⟨p, e, s, m, args, below, meth, c, Q, A, rfl, hx, hb, hml, hnm, hown, hts, hA, hK⟩ := X
  intro H locs arr hP hI hAl hS hl
  exact lv_if_lt hx hb d ht (fun h => kt h H locs arr hP hI hAl hS hl) (fun h => kf h H locs arr hP hI hAl hS hl)
theorem zr_icmp_lt (X : zX l D cy own cc nL R nm G) {x y : Int32} {off : Int} {tgt : Nat} (d : decode cc pc = .ok (.if_icmp .lt off, 3)) (ht : (pc : Int) + off = (tgt : Int)) (kt : x < y → G κ f ls tgt st) (kf : ¬ x < y → G κ f ls (pc + 3) st) : G κ f ls pc (.int y :: .int x :: st) := by
  obtain ⟨p, e, s, m, args, below, meth, c, Q, A, rfl, hx, hb, hml, hnm, hown, hts, hA, hK⟩ := X
  intro H locs arr hP hI hAl hS hl
  exact lv_icmp_lt hx hb d ht (fun h => kt h H locs arr hP hI hAl hS hl) (fun h => kf h H locs arr hP hI hAl hS hl)
theorem zr_if_ge (X : zX l D cy own cc nL R nm G) {x : Int32} {off : Int} {tgt : Nat} (d : decode cc pc = .ok (.ifCond .ge off, 3)) (ht : (pc : Int) + off = (tgt : Int)) (kt : 0 ≤ x → G κ f ls tgt st) (kf : ¬ 0 ≤ x → G κ f ls (pc + 3) st) : G κ f ls pc (.int x :: st) := by
  obtain ⟨p, e, s, m, args, below, meth, c, Q, A, rfl, hx, hb, hml, hnm, hown, hts, hA, hK⟩ := X
  intro H locs arr hP hI hAl hS hl
  exact lv_if_ge hx hb d ht (fun h => kt h H locs arr hP hI hAl hS hl) (fun h => kf h H locs arr hP hI hAl hS hl)
theorem zr_icmp_ge (X : zX l D cy own cc nL R nm G) {x y : Int32} {off : Int} {tgt : Nat} (d : decode cc pc = .ok (.if_icmp .ge off, 3)) (ht : (pc : Int) + off = (tgt : Int)) (kt : y ≤ x → G κ f ls tgt st) (kf : ¬ y ≤ x → G κ f ls (pc + 3) st) : G κ f ls pc (.int y :: .int x :: st) := by
  obtain ⟨p, e, s, m, args, below, meth, c, Q, A, rfl, hx, hb, hml, hnm, hown, hts, hA, hK⟩ := X
  intro H locs arr hP hI hAl hS hl
  exact lv_icmp_ge hx hb d ht (fun h => kt h H locs arr hP hI hAl hS hl) (fun h => kf h H locs arr hP hI hAl hS hl)
theorem zr_if_gt (X : zX l D cy own cc nL R nm G) {x : Int32} {off : Int} {tgt : Nat} (d : decode cc pc = .ok (.ifCond .gt off, 3)) (ht : (pc : Int) + off = (tgt : Int)) (kt : 0 < x → G κ f ls tgt st) (kf : ¬ 0 < x → G κ f ls (pc + 3) st) : G κ f ls pc (.int x :: st) := by
  obtain ⟨p, e, s, m, args, below, meth, c, Q, A, rfl, hx, hb, hml, hnm, hown, hts, hA, hK⟩ := X
  intro H locs arr hP hI hAl hS hl
  exact lv_if_gt hx hb d ht (fun h => kt h H locs arr hP hI hAl hS hl) (fun h => kf h H locs arr hP hI hAl hS hl)
theorem zr_icmp_gt (X : zX l D cy own cc nL R nm G) {x y : Int32} {off : Int} {tgt : Nat} (d : decode cc pc = .ok (.if_icmp .gt off, 3)) (ht : (pc : Int) + off = (tgt : Int)) (kt : y < x → G κ f ls tgt st) (kf : ¬ y < x → G κ f ls (pc + 3) st) : G κ f ls pc (.int y :: .int x :: st) := by
  obtain ⟨p, e, s, m, args, below, meth, c, Q, A, rfl, hx, hb, hml, hnm, hown, hts, hA, hK⟩ := X
  intro H locs arr hP hI hAl hS hl
  exact lv_icmp_gt hx hb d ht (fun h => kt h H locs arr hP hI hAl hS hl) (fun h => kf h H locs arr hP hI hAl hS hl)
theorem zr_if_le (X : zX l D cy own cc nL R nm G) {x : Int32} {off : Int} {tgt : Nat} (d : decode cc pc = .ok (.ifCond .le off, 3)) (ht : (pc : Int) + off = (tgt : Int)) (kt : x ≤ 0 → G κ f ls tgt st) (kf : ¬ x ≤ 0 → G κ f ls (pc + 3) st) : G κ f ls pc (.int x :: st) := by
  obtain ⟨p, e, s, m, args, below, meth, c, Q, A, rfl, hx, hb, hml, hnm, hown, hts, hA, hK⟩ := X
  intro H locs arr hP hI hAl hS hl
  exact lv_if_le hx hb d ht (fun h => kt h H locs arr hP hI hAl hS hl) (fun h => kf h H locs arr hP hI hAl hS hl)
theorem zr_icmp_le (X : zX l D cy own cc nL R nm G) {x y : Int32} {off : Int} {tgt : Nat} (d : decode cc pc = .ok (.if_icmp .le off, 3)) (ht : (pc : Int) + off = (tgt : Int)) (kt : x ≤ y → G κ f ls tgt st) (kf : ¬ x ≤ y → G κ f ls (pc + 3) st) : G κ f ls pc (.int y :: .int x :: st) := by
  obtain ⟨p, e, s, m, args, below, meth, c, Q, A, rfl, hx, hb, hml, hnm, hown, hts, hA, hK⟩ := X
  intro H locs arr hP hI hAl hS hl
  exact lv_icmp_le hx hb d ht (fun h => kt h H locs arr hP hI hAl hS hl) (fun h => kf h H locs arr hP hI hAl hS hl)
theorem zr_lookup (X : zX l D cy own cc nL R nm G) {dflt : Int} {ps : Array (Int × Int)} {len : Nat} {x : Int32} {off : Int} {tgt : Nat} (d : decode cc pc = .ok (.lookupswitch dflt ps, len)) (hp : (ps.toList.zip (ps.toList.drop 1)).all (fun (a, next) => a.1 < next.1) = true) (ho : Op.lookupswitch.offset ps.toList dflt x.toInt = off) (ht : (pc : Int) + off = (tgt : Int)) (k : G κ f ls tgt st) : G κ f ls pc (.int x :: st) := by
  obtain ⟨p, e, s, m, args, below, meth, c, Q, A, rfl, hx, hb, hml, hnm, hown, hts, hA, hK⟩ := X
  intro H locs arr hP hI hAl hS hl
  exact lv_lookup hx hb d hp ho ht (k H locs arr hP hI hAl hS hl)
theorem zr_tableOut (X : zX l D cy own cc nL R nm G) {dflt lo hi : Int} {offs : Array Int} {len : Nat} {x : Int32} {tgt : Nat} (d : decode cc pc = .ok (.tableswitch dflt lo hi offs, len)) (h : x.toInt < lo ∨ hi < x.toInt) (ht : (pc : Int) + dflt = (tgt : Int)) (k : G κ f ls tgt st) : G κ f ls pc (.int x :: st) := by
  obtain ⟨p, e, s, m, args, below, meth, c, Q, A, rfl, hx, hb, hml, hnm, hown, hts, hA, hK⟩ := X
  intro H locs arr hP hI hAl hS hl
  exact lv_tableOut hx hb d h ht (k H locs arr hP hI hAl hS hl)
theorem zr_tableIn (X : zX l D cy own cc nL R nm G) {dflt lo hi : Int} {offs : Array Int} {len : Nat} {x : Int32} {off : Int} {tgt : Nat} (d : decode cc pc = .ok (.tableswitch dflt lo hi offs, len)) (h1 : ¬ x.toInt < lo) (h2 : ¬ hi < x.toInt) (ho : offs[(x.toInt - lo).toNat]? = some off) (ht : (pc : Int) + off = (tgt : Int)) (k : G κ f ls tgt st) : G κ f ls pc (.int x :: st) := by
  obtain ⟨p, e, s, m, args, below, meth, c, Q, A, rfl, hx, hb, hml, hnm, hown, hts, hA, hK⟩ := X
  intro H locs arr hP hI hAl hS hl
  exact lv_tableIn hx hb d h1 h2 ho ht (k H locs arr hP hI hAl hS hl)
theorem zr_ldc (X : zX l D cy own cc nL R nm G) {index : Nat} {v : Int32} (hc : Cond.constant own index v ∈ zTb) (d : decode cc pc = .ok (.ldc index, 2)) (k : G κ f ls (pc + 2) (.int v :: st)) : G κ f ls pc (st) := by
  obtain ⟨p, e, s, m, args, below, meth, c, Q, A, rfl, hx, hb, hml, hnm, hown, hts, hA, hK⟩ := X
  intro H locs arr hP hI hAl hS hl
  exact lv_ldc hx hb hown (hts _ hc) d (k H locs arr hP hI hAl hS hl)
theorem zr_ldcf (X : zX l D cy own cc nL R nm G) {index : Nat} {v : UInt32} (hc : Cond.constantFloat own index v ∈ zTb) (d : decode cc pc = .ok (.ldc index, 2)) (k : G κ f ls (pc + 2) (.float v :: st)) : G κ f ls pc (st) := by
  obtain ⟨p, e, s, m, args, below, meth, c, Q, A, rfl, hx, hb, hml, hnm, hown, hts, hA, hK⟩ := X
  intro H locs arr hP hI hAl hS hl
  exact lv_ldcf hx hb hown (hts _ hc) d (k H locs arr hP hI hAl hS hl)
theorem zr_get (X : zX l D cy own cc nL R nm G) {index ci i : Nat} (F : zFd own index ci i) (t : Nat) (ht : t < κ.1.1) {fs : List Value} (hf : f t = .inr (ci, fs)) {v : Value} (hv : fs[i]? = some v) (d : decode cc pc = .ok (.getfield index, 3)) (k : G κ f ls (pc + 3) (v :: st)) : G κ f ls pc (.ref (κ.1.2 t) :: st) := by
  obtain ⟨p, e, s, m, args, below, meth, c, Q, A, rfl, hx, hb, hml, hnm, hown, hts, hA, hK⟩ := X
  intro H locs arr hP hI hAl hS hl
  obtain ⟨C, T, N, ref, h1, h2, h3, h4, h5⟩ := F
  subst h5
  exact va_get (D := D) hx hb (fun w h => hts w h) h2 hown hK.1 hP t ((zl_get ht).trans (by rw [hf])) h1 i h3 (hts _ h4) (fun _ h9 => h9) hv d (k H locs arr hP hI hAl hS hl)
theorem zr_getN (X : zX l D cy own cc nL R nm G) {index ci i : Nat} (F : zFn own index ci i) (t : Nat) (ht : t < κ.1.1) {fs : List Value} (hf : f t = .inr (ci, fs)) {v : Value} (hv : fs[i]? = some v) (d : decode cc pc = .ok (.getfield index, 3)) (k : G κ f ls (pc + 3) (v :: st)) : G κ f ls pc (.ref (κ.1.2 t) :: st) := by
  obtain ⟨p, e, s, m, args, below, meth, c, Q, A, rfl, hx, hb, hml, hnm, hown, hts, hA, hK⟩ := X
  intro H locs arr hP hI hAl hS hl
  obtain ⟨C, T, N, ref, host, h1, h2, h3, h4, h5⟩ := F
  subst h5
  exact va_getN (D := D) hx hb (fun w h => hts w h) h2 hown hK.1 hP t ((zl_get ht).trans (by rw [hf])) h1 i h3 (va_Nw.use rfl (hK.2.1 _ h4)) (fun _ h9 => h9) hv d (k H locs arr hP hI hAl hS hl)
theorem zr_put (X : zX l D cy own cc nL R nm G) {index ci i : Nat} {ty : FieldType} {o9 : String} (F : zFd own index ci i) (F2 : zTy ci i false o9 ty) (t : Nat) (ht : t < κ.1.1) {fs fs' : List Value} (hf : f t = .inr (ci, fs)) {v : Value} (hn : narrow ty v = v) (hfit : fits ty v = true) (hl9 : i < fs.length) (hv : fs.set i v = fs') (d : decode cc pc = .ok (.putfield index, 3)) (k : G κ (va_up f t (.inr (ci, fs'))) ls (pc + 3) st) : G κ f ls pc (v :: .ref (κ.1.2 t) :: st) := by
  obtain ⟨p, e, s, m, args, below, meth, c, Q, A, rfl, hx, hb, hml, hnm, hown, hts, hA, hK⟩ := X
  intro H locs arr hP hI hAl hS hl
  obtain ⟨C, T, N, ref, h1, h2, h3, h4, h5⟩ := F
  obtain ⟨C', T', N', ty0, g1, g2, g3, g4, -, g5⟩ := F2
  cases h1.symm.trans g1
  subst h5
  subst hv
  exact va_put (D := D) hx hb (fun w h => hts w h) h2 ty0 g2 g3 hown hK.1 hP (zD_of hI hAl) hS t ((zl_get ht).trans (by rw [hf])) h1 i h3 (hts _ h4) (fun _ h9 => h9) g4 g5 hn hfit hl9 d (fun H1 locs1 hP1 _ hS1 => k H1 locs1 arr (by rw [zl_set ht] at hP1; exact hP1) hI hAl hS1 hl)
theorem zr_putN (X : zX l D cy own cc nL R nm G) {index ci i : Nat} {ty : FieldType} {o9 : String} (F : zFn own index ci i) (F2 : zTy ci i false o9 ty) (t : Nat) (ht : t < κ.1.1) {fs fs' : List Value} (hf : f t = .inr (ci, fs)) {v : Value} (hn : narrow ty v = v) (hfit : fits ty v = true) (hl9 : i < fs.length) (hv : fs.set i v = fs') (d : decode cc pc = .ok (.putfield index, 3)) (k : G κ (va_up f t (.inr (ci, fs'))) ls (pc + 3) st) : G κ f ls pc (v :: .ref (κ.1.2 t) :: st) := by
  obtain ⟨p, e, s, m, args, below, meth, c, Q, A, rfl, hx, hb, hml, hnm, hown, hts, hA, hK⟩ := X
  intro H locs arr hP hI hAl hS hl
  obtain ⟨C, T, N, ref, host, h1, h2, h3, h4, h5⟩ := F
  obtain ⟨C', T', N', ty0, g1, g2, g3, g4, -, g5⟩ := F2
  cases h1.symm.trans g1
  subst h5
  subst hv
  exact va_putN (D := D) hx hb (fun w h => hts w h) h2 ty0 g2 g3 hown hK.1 hP (zD_of hI hAl) hS t ((zl_get ht).trans (by rw [hf])) h1 i h3 (va_Nw.use rfl (hK.2.1 _ h4)) (fun _ h9 => h9) g4 g5 hn hfit hl9 d (fun H1 locs1 hP1 _ hS1 => k H1 locs1 arr (by rw [zl_set ht] at hP1; exact hP1) hI hAl hS1 hl)
theorem zr_putF (X : zX l D cy own cc nL R nm G) {index ci i : Nat} {ty : FieldType} (F : zFd own index ci i) (F2 : zTy ci i true own ty) (hinit : nm = "<init>") (t : Nat) (ht : t < κ.1.1) {fs fs' : List Value} (hf : f t = .inr (ci, fs)) {v : Value} (hn : narrow ty v = v) (hfit : fits ty v = true) (hl9 : i < fs.length) (hv : fs.set i v = fs') (d : decode cc pc = .ok (.putfield index, 3)) (k : G κ (va_up f t (.inr (ci, fs'))) ls (pc + 3) st) : G κ f ls pc (v :: .ref (κ.1.2 t) :: st) := by
  obtain ⟨p, e, s, m, args, below, meth, c, Q, A, rfl, hx, hb, hml, hnm, hown, hts, hA, hK⟩ := X
  intro H locs arr hP hI hAl hS hl
  obtain ⟨C, T, N, ref, h1, h2, h3, h4, h5⟩ := F
  obtain ⟨C', T', N', ty0, g1, g2, g3, g4, g6, g5⟩ := F2
  cases h1.symm.trans g1
  subst h5
  subst hv
  exact va_putF (D := D) hx hb (fun w h => hts w h) h2 ty0 g2 g3 hown hK.1 hP (zD_of hI hAl) hS t ((zl_get ht).trans (by rw [hf])) h1 i h3 (hts _ h4) (fun _ h9 => h9) g4 (hnm.trans hinit) (g6 rfl) g5 hn hfit hl9 d (fun H1 locs1 hP1 _ hS1 => k H1 locs1 arr (by rw [zl_set ht] at hP1; exact hP1) hI hAl hS1 hl)
theorem zr_iald (X : zX l D cy own cc nL R nm G) (t : Nat) (ht : t < κ.1.1) {n : Nat} {a : Nat → Int32} (hf : f t = .inl (cy 0, n, .inl a)) {i : Int32} (j : Nat) (hi : i = nI j) (hj : j < n) (hn : n < 2147483648) (d : decode cc pc = .ok (.iaload, 1)) (k : G κ f ls (pc + 1) (.int (a j) :: st)) : G κ f ls pc (.int i :: .ref (κ.1.2 t) :: st) := by
  obtain ⟨p, e, s, m, args, below, meth, c, Q, A, rfl, hx, hb, hml, hnm, hown, hts, hA, hK⟩ := X
  intro H locs arr hP hI hAl hS hl
  subst hi
  refine va_iald (D := D) hx hb hK.1 hP t 0 ((zl_get ht).trans (by rw [hf])) rfl (vp_in_nI hj hn) d ?_
  rw [nI_clamp (by omega)]
  exact k H locs arr hP hI hAl hS hl
theorem zr_cald (X : zX l D cy own cc nL R nm G) (t : Nat) (ht : t < κ.1.1) {n : Nat} {a : Nat → Int32} (hf : f t = .inl (cy 1, n, .inl a)) {i : Int32} (j : Nat) (hi : i = nI j) (hj : j < n) (hn : n < 2147483648) (d : decode cc pc = .ok (.caload, 1)) (k : G κ f ls (pc + 1) (.int (a j) :: st)) : G κ f ls pc (.int i :: .ref (κ.1.2 t) :: st) := by
  obtain ⟨p, e, s, m, args, below, meth, c, Q, A, rfl, hx, hb, hml, hnm, hown, hts, hA, hK⟩ := X
  intro H locs arr hP hI hAl hS hl
  subst hi
  refine va_cald (D := D) hx hb hK.1 hP t 1 ((zl_get ht).trans (by rw [hf])) rfl (vp_in_nI hj hn) d ?_
  rw [nI_clamp (by omega)]
  exact k H locs arr hP hI hAl hS hl
theorem zr_iast (X : zX l D cy own cc nL R nm G) (t : Nat) (ht : t < κ.1.1) {n : Nat} {a : Nat → Int32} (hf : f t = .inl (cy 0, n, .inl a)) {i x : Int32} (j : Nat) (hi : i = nI j) (hj : j < n) (hn : n < 2147483648) (d : decode cc pc = .ok (.iastore, 1)) (k : G κ (va_up f t (.inl (cy 0, n, .inl (upd a j x)))) ls (pc + 1) st) : G κ f ls pc (.int x :: .int i :: .ref (κ.1.2 t) :: st) := by
  obtain ⟨p, e, s, m, args, below, meth, c, Q, A, rfl, hx, hb, hml, hnm, hown, hts, hA, hK⟩ := X
  intro H locs arr hP hI hAl hS hl
  subst hi
  refine va_iast (D := D) hx hb hK.1 hP (zD_of hI hAl) hS t 0 ((zl_get ht).trans (by rw [hf])) rfl (vp_in_nI hj hn) d (fun H1 locs1 hP1 _ hS1 => ?_)
  rw [nI_clamp (by omega), zl_set ht] at hP1
  exact k H1 locs1 arr hP1 hI hAl hS1 hl
theorem zr_cast (X : zX l D cy own cc nL R nm G) (t : Nat) (ht : t < κ.1.1) {n : Nat} {a : Nat → Int32} (hf : f t = .inl (cy 1, n, .inl a)) {i x : Int32} (j : Nat) (hi : i = nI j) (hj : j < n) (hn : n < 2147483648) (d : decode cc pc = .ok (.castore, 1)) (k : G κ (va_up f t (.inl (cy 1, n, .inl (upd a j (vp_nar .char x))))) ls (pc + 1) st) : G κ f ls pc (.int x :: .int i :: .ref (κ.1.2 t) :: st) := by
  obtain ⟨p, e, s, m, args, below, meth, c, Q, A, rfl, hx, hb, hml, hnm, hown, hts, hA, hK⟩ := X
  intro H locs arr hP hI hAl hS hl
  subst hi
  refine va_cast (D := D) hx hb hK.1 hP (zD_of hI hAl) hS t 1 ((zl_get ht).trans (by rw [hf])) rfl (vp_in_nI hj hn) d (fun H1 locs1 hP1 _ hS1 => ?_)
  rw [nI_clamp (by omega), zl_set ht] at hP1
  exact k H1 locs1 arr hP1 hI hAl hS1 hl
theorem zr_aald (X : zX l D cy own cc nL R nm G) (t : Nat) (ht : t < κ.1.1) {b n : Nat} {C : String} (hb9 : (zT cy)[b]? = some (cy b, .object C)) {a : Nat → Option Nat} (hf : f t = .inl (cy b, n, .inr (.inr (.inr (.inr a))))) {i : Int32} (j : Nat) (hi : i = nI j) (hj : j < n) (hn : n < 2147483648) {v : Nat} (hv : a j = some v) (d : decode cc pc = .ok (.aaload, 1)) (k : G κ f ls (pc + 1) (.ref v :: st)) : G κ f ls pc (.int i :: .ref (κ.1.2 t) :: st) := by
  obtain ⟨p, e, s, m, args, below, meth, c, Q, A, rfl, hx, hb, hml, hnm, hown, hts, hA, hK⟩ := X
  intro H locs arr hP hI hAl hS hl
  subst hi
  refine va_aldq (D := D) hx hb hK.1 hP t b ((zl_get ht).trans (by rw [hf])) hb9 (vp_in_nI hj hn) d ?_
  rw [nI_clamp (by omega), hv]
  exact k H locs arr hP hI hAl hS hl
theorem zr_aast (X : zX l D cy own cc nL R nm G) (t : Nat) (ht : t < κ.1.1) {b n ci : Nat} {r : vw_C} (hb9 : (zT cy)[b]? = some (cy b, .object r.1)) (hc9 : vwCl[ci]? = some r) {a : Nat → Option Nat} (hf : f t = .inl (cy b, n, .inr (.inr (.inr (.inr a))))) {i : Int32} (j : Nat) (hi : i = nI j) (hj : j < n) (hn : n < 2147483648) (u : Nat) (hu : u < κ.1.1) {vs : List Value} (hv : f u = .inr (ci, vs)) (d : decode cc pc = .ok (.aastore, 1)) (k : G κ (va_up f t (.inl (cy b, n, .inr (.inr (.inr (.inr (va_up a j (some (κ.1.2 u)))))))) ) ls (pc + 1) st) : G κ f ls pc (.ref (κ.1.2 u) :: .int i :: .ref (κ.1.2 t) :: st) := by
  obtain ⟨p, e, s, m, args, below, meth, c, Q, A, rfl, hx, hb, hml, hnm, hown, hts, hA, hK⟩ := X
  intro H locs arr hP hI hAl hS hl
  subst hi
  refine va_astq (D := D) hx hb hK.1 hP (zD_of hI hAl) hS t b u ci ((zl_get ht).trans (by rw [hf])) hb9 ((zl_get hu).trans (by rw [hv])) hc9 (vp_in_nI hj hn) d (fun H1 locs1 hP1 _ hS1 => ?_)
  rw [nI_clamp (by omega), zl_set ht] at hP1
  exact k H1 locs1 arr hP1 hI hAl hS1 hl
theorem zr_alen (X : zX l D cy own cc nL R nm G) (t : Nat) (ht : t < κ.1.1) {b : Nat} {ty : FieldType} (hb9 : (zT cy)[b]? = some (cy b, ty)) {a : vp_A} (hf : f t = .inl (cy b, a)) {v : Int32} (hv : Int32.ofNat a.1 = v) (d : decode cc pc = .ok (.arraylength, 1)) (k : G κ f ls (pc + 1) (.int v :: st)) : G κ f ls pc (.ref (κ.1.2 t) :: st) := by
  obtain ⟨p, e, s, m, args, below, meth, c, Q, A, rfl, hx, hb, hml, hnm, hown, hts, hA, hK⟩ := X
  intro H locs arr hP hI hAl hS hl
  exact va_alen (D := D) hx hb hK.1 hP t b ((zl_get ht).trans (by rw [hf])) hb9 hv d (k H locs arr hP hI hAl hS hl)
theorem zr_min (X : zX l D cy own cc nL R nm G) {index : Nat} {x y : Int32} (hlink : Cond.methodLink own index Lib.Math.min.name ∈ zTb) (hfr : 1 ≤ R.frames) (hlo : (st.map fun v => v.category).sum + 13 ≤ R.locals) (hc : κ.2.1 ≤ R.cells) (hs : κ.2.2 ≤ R.slots) (d : decode cc pc = .ok (.invokestatic index, 3)) (k : G κ f ls (pc + 3) (.int (if y < x then y else x) :: st)) : G κ f ls pc (.int y :: .int x :: st) := by
  obtain ⟨p, e, s, m, args, below, meth, c, Q, A, rfl, hx, hb, hml, hnm, hown, hts, hA, hK⟩ := X
  intro H locs arr hP hI hAl hS hl
  exact va_mmin hx hb (by rw [hml]; exact hl.1.symm) hown (hts _ hlink) (hts _ zw_min_static) (hts _ zw_min_init) (hts _ zw_min_code) hfr hlo hc hs d (k H locs arr hP hI hAl hS hl)
theorem zr_loc (X : zX l D cy own cc nL R nm G) (is : List Nat) (h : lv_pick ls is = ls') (k : G κ f ls' pc st) : G κ f ls pc st := by
  obtain ⟨p, e, s, m, args, below, meth, c, Q, A, rfl, hx, hb, hml, hnm, hown, hts, hA, hK⟩ := X
  intro H locs arr hP hI hAl hS hl
  exact k H locs arr hP hI hAl hS (lv_sub hl is h)
theorem zr_objInit (X : zX l D cy own cc nL R nm G) {index : Nat} {x : Nat} (hlink : Cond.methodLink own index objectInit ∈ zTb) (hfr : 1 ≤ R.frames) (hlo : (st.map fun v => v.category).sum + 12 ≤ R.locals) (d : decode cc pc = .ok (.invokespecial index, 3)) (k : G κ f ls (pc + 3) st) : G κ f ls pc (.ref x :: st) := by
  obtain ⟨p, e, s, m, args, below, meth, c, Q, A, rfl, hx, hb, hml, hnm, hown, hts, hA, hK⟩ := X
  intro H locs arr hP hI hAl hS hl
  refine W.objInit hx hb hown (hts _ hlink) (hts _ zw_obj_inst) (hts _ zw_obj_code) rfl (by rw [hml]; exact hl.1) rfl d hfr (by show 2 * 0 + _ + 12 ≤ _; omega) ?_
  exact k H locs arr hP hI hAl hS hl
theorem zr_new (X : zX l D cy own cc nL R nm G) {index ci N : Nat} {C : String} {T : u_T} {ty0 : Nat → FieldType} {fs : List Value} (hc : vwCl[ci]? = some (C, T, N)) (h2 : ∀ w ∈ u_ws C T N, w ∈ zTb) (hty : ∀ k, k < N → parseFieldDescriptor (T k).2.2.1 = some (ty0 k)) (hcl : Cond.classLink own index C ∈ zTb) (hinst : Cond.instantiable C N ∈ zTb) (hini : Cond.initialized C ∈ zTb) (hfs : ∀ j, j < N → defaultValue (ty0 j) = vp_V fs j) (hcells : κ.2.1 + 1 ≤ R.cells) (hslots : κ.2.2 + N ≤ R.slots) (d : decode cc pc = .ok (.new index, 3)) (k : ∀ w' : zW, w'.1 = κ.1.1 + 1 → (∀ i, i < κ.1.1 → w'.2 i = κ.1.2 i) → G (w', κ.2.1 + 1, κ.2.2 + N) (va_up f κ.1.1 (.inr (ci, fs))) ls (pc + 3) (.ref (w'.2 κ.1.1) :: st)) : G κ f ls pc (st) := by
  obtain ⟨p, e, s, m, args, below, meth, c, Q, A, rfl, hx, hb, hml, hnm, hown, hts, hA, hK⟩ := X
  intro H locs arr hP hI hAl hS hl
  refine W.newcK hx hb hown (hts _ hcl) (hts _ hinst) (hts _ hini) rfl d hcells hslots (hK.1.1 ci _ hc).2.1 rfl fun H1 kC hkC e1 z1 o1 => ?_
  have hPN : va_P D vwCl (zl (zpush κ.1 H.size) (va_up f κ.1.1 (.inr (ci, fs)))) H1 := by
    rw [← zl_push]
    refine (hP.kept (fun k x hx => o1 x.1 ((hP k x hx).lt))).app (fun k x hx => ?_)
    have hz : k < 1 := (List.getElem?_eq_some_iff.mp hx).1
    rw [show k = 0 by omega] at hx
    cases hx
    exact ⟨_, hc, (u_born ty0 (fun w h => hts w h) h2 (hK.1.1 ci _ hc) hkC e1 hty).to hfs⟩
  have h9 := k (zpush κ.1 H.size) rfl (fun i hi => va_up_ne _ _ (by omega)) H1 locs arr hPN (zIn_push hI hP rfl) (zAll_push hAl (hA _ hS.1)) ⟨Nat.le_trans hS.1 (by omega), fun x h1 h2 => (o1 x (Nat.lt_of_lt_of_le h1 hS.1)).trans (hS.2.1 x h1 h2), hS.2.2⟩ hl
  have e9 : (zpush κ.1 H.size).2 κ.1.1 = H.size := va_up_self _ _ _
  rw [e9] at h9
  exact h9
theorem zr_newa (X : zX l D cy own cc nL R nm G) {atype : ArrayType} {b N' : Nat} {ty : FieldType} (hw : Cond.arrayClass (newarray.typeOf atype) ∈ zTb) (hty : newarray.typeOf atype = ty) (hb9 : (zT cy)[b]? = some (cy b, ty)) (hty2 : ∀ U cA, va_RA U cA ty → U.vm.findClass ("[" ++ ty.toString) = some cA) {a0 : vp_A} (ha : ∀ cA : ClassId, vp_cell cA a0 = arrV cA N' (fun _ => defaultValue ty)) {n : Int32} (hn : ¬ n < 0) (hN : n.toNatClampNeg = N') (hby : N' * componentBytes ty ≤ 536870912) (hcells : κ.2.1 + 1 ≤ R.cells) (hslots : κ.2.2 + N' ≤ R.slots) (d : decode cc pc = .ok (.newarray atype, 2)) (k : ∀ w' : zW, w'.1 = κ.1.1 + 1 → (∀ i, i < κ.1.1 → w'.2 i = κ.1.2 i) → G (w', κ.2.1 + 1, κ.2.2 + N') (va_up f κ.1.1 (.inl (cy b, a0))) ls (pc + 2) (.ref (w'.2 κ.1.1) :: st)) : G κ f ls pc (.int n :: st) := by
  obtain ⟨p, e, s, m, args, below, meth, c, Q, A, rfl, hx, hb, hml, hnm, hown, hts, hA, hK⟩ := X
  intro H locs arr hP hI hAl hS hl
  subst hty
  refine va_newaK hx hb (hts _ hw) rfl d rfl hn hN hby hcells hslots rfl fun H1 cA e1 z1 o1 hAr hNm => ?_
  have hcA : cA = cy b := Option.some.inj (hNm.symm.trans (hty2 s _ (hK.1.2 b _ hb9).2))
  subst hcA
  have hPN : va_P D vwCl (zl (zpush κ.1 H.size) (va_up f κ.1.1 (.inl (cy b, a0)))) H1 := by
    rw [← zl_push]
    refine (hP.kept (fun k x hx => o1 x.1 ((hP k x hx).lt))).app (fun k x hx => ?_)
    have hz : k < 1 := (List.getElem?_eq_some_iff.mp hx).1
    rw [show k = 0 by omega] at hx
    cases hx
    show H1[H.size]? = some (vp_cell _ _)
    rw [ha]
    exact e1
  have h9 := k (zpush κ.1 H.size) rfl (fun i hi => va_up_ne _ _ (by omega)) H1 locs arr hPN (zIn_push hI hP rfl) (zAll_push hAl (hA _ hS.1)) ⟨Nat.le_trans hS.1 (by omega), fun x h1 h2 => (o1 x (Nat.lt_of_lt_of_le h1 hS.1)).trans (hS.2.1 x h1 h2), hS.2.2⟩ hl
  have e9 : (zpush κ.1 H.size).2 κ.1.1 = H.size := va_up_self _ _ _
  rw [e9] at h9
  exact h9
theorem zr_newq (X : zX l D cy own cc nL R nm G) {index b N' : Nat} {C : String} (hcl : Cond.classLink own index C ∈ zTb) (hao : ∀ U : State, zK D cy (fun _ => True) U ∨ True) (hover : C = RX4 ∨ C = RX0 ∨ C = RX2) (hb9 : (zT cy)[b]? = some (cy b, .object C)) {n : Int32} (hn : ¬ n < 0) (hN : n.toNatClampNeg = N') (hby : N' * 4 ≤ 536870912) (hcells : κ.2.1 + 1 ≤ R.cells) (hslots : κ.2.2 + N' ≤ R.slots) (d : decode cc pc = .ok (.anewarray index, 3)) (k : ∀ w' : zW, w'.1 = κ.1.1 + 1 → (∀ i, i < κ.1.1 → w'.2 i = κ.1.2 i) → G (w', κ.2.1 + 1, κ.2.2 + N') (va_up f κ.1.1 (.inl (cy b, N', .inr (.inr (.inr (.inr (fun _ => none))))))) ls (pc + 3) (.ref (w'.2 κ.1.1) :: st)) : G κ f ls pc (.int n :: st) := by
  obtain ⟨p, e, s, m, args, below, meth, c, Q, A, rfl, hx, hb, hml, hnm, hown, hts, hA, hK⟩ := X
  intro H locs arr hP hI hAl hS hl
  subst hN
  have hov : va_AO C s := by
    rcases hover with rfl | rfl | rfl
    · exact hK.2.2.2.1
    · exact hK.2.2.2.2.1
    · exact hK.2.2.2.2.2
  refine W.anew hx hb hown (hts _ hcl) (va_AO.use hov) rfl d rfl hn hby hcells hslots fun cA kA comp f1 f2 f3 f4 => ?_
  obtain ⟨kA', comp', g1, g2, g3, g4⟩ := (hK.1.2 b _ hb9).2
  have hcA : cA = cy b := Option.some.inj (f1.symm.trans g4)
  subst hcA
  generalize hH1 : H.push ({ cls := cy b, slots := Array.replicate n.toNatClampNeg .null, vm := .none } : Cell) = H1
  have z1 : H1.size = H.size + 1 := by rw [← hH1, Array.size_push]
  have e1 : H1[H.size]? = some (arrV (cy b) n.toNatClampNeg (fun _ => .null)) := by rw [← hH1, Array.getElem?_push_size, ← arrV_new]
  have o1 : ∀ q : Nat, q < H.size → H1[q]? = H[q]? := fun q hq => by rw [← hH1, Array.getElem?_push, if_neg (Nat.ne_of_lt hq)]
  have hPN : va_P D vwCl (zl (zpush κ.1 H.size) (va_up f κ.1.1 (.inl (cy b, n.toNatClampNeg, .inr (.inr (.inr (.inr (fun _ => none)))))))) H1 := by
    rw [← zl_push]
    refine (hP.kept (fun k x hx => o1 x.1 ((hP k x hx).lt))).app (fun k x hx => ?_)
    have hz : k < 1 := (List.getElem?_eq_some_iff.mp hx).1
    rw [show k = 0 by omega] at hx
    cases hx
    show H1[H.size]? = some (vp_cell _ _)
    rw [vp_cell_q]
    exact e1
  have h9 := k (zpush κ.1 H.size) rfl (fun i hi => va_up_ne _ _ (by omega)) H1 locs arr hPN (zIn_push hI hP rfl) (zAll_push hAl (hA _ hS.1)) ⟨Nat.le_trans hS.1 (by omega), fun x h1 h2 => (o1 x (Nat.lt_of_lt_of_le h1 hS.1)).trans (hS.2.1 x h1 h2), hS.2.2⟩ hl
  have e9 : (zpush κ.1 H.size).2 κ.1.1 = H.size := va_up_self _ _ _
  rw [e9] at h9
  exact h9
/-- a call of an instance method -/
theorem zr_callV (X : zX l D cy own cc nL R nm G) {y : MethodName} {yc : ByteArray} {yL n index : Nat} {ret : Option FieldType} {Rc : Room} {post : Option Value → zW → zF → Prop} {As rest : List Value} {C : String} {ci : Nat} {q9 : vw_C} {fs : List Value} (t : Nat) (ht : t < κ.1.1) (hf : f t = .inr (ci, fs)) (hci : vwCl[ci]? = some q9) (hC : q9.1 = C) (hM : zM l D cy y yc yL ret Rc (.ref (κ.1.2 t) :: As) κ.1 f post) (hd : y.cls = C ∧ y.cls ≠ "java/lang/invoke/MethodHandle" ∧ y.cls ≠ "java/lang/invoke/VarHandle" ∧ (parseMethodDescriptor y.desc).map (fun d => d.parameters.length) = some n) (hcode : Cond.code y yc yL ret ∈ zTb) (hini : Cond.initialized y.cls ∈ zTb) (hr : zRm Rc R yL κ) (hn : As.length = n) (hW : (rest.map fun v => v.category).sum ≤ 8) (hlink : Cond.methodLink own index y ∈ zTb) (hin : Cond.instanceMethod y ∈ zTb) (hsel : Cond.selects C y y ∈ zTb) (hst : st = As.reverse ++ .ref (κ.1.2 t) :: rest) (d : decode cc pc = .ok (.invokevirtual index, 3)) (k : ∀ (r : Option Value) (w' : zW) (f' : zF), post r w' f' → G (w', κ.2.1 + Rc.cells, κ.2.2 + Rc.slots) f' ls (pc + 3) (r.toList ++ rest)) : G κ f ls pc st := by
  obtain ⟨p, e, s, m, args, below, meth, c, Q, A, rfl, hx, hb, hml, hnm, hown, hts, hA, hK⟩ := X
  intro H locs arr hP hI hAl hS hl
  subst hC
  have hT : GoodIn zTb (wsV own index q9.1 y (zWs y yc yL ret)) := zGood (c0 := .initialized y.cls) (fun x hx => by
    rcases List.mem_append.mp hx with hx | hx
    · simp only [List.mem_cons, List.not_mem_nil, or_false] at hx
      rcases hx with rfl | rfl | rfl | rfl
      · exact hlink
      · exact hin
      · exact hsel
      · exact hd.1 ▸ hini
    · exact zWs_in hcode x hx)
  refine zCall (va_runV (As := As) (rest := rest) (mc := Rc.cells) (ms := Rc.slots) ⟨hx, hb, hml, hown, hts⟩ (hM H.size) (cwV n hts hT rfl rfl rfl hd ⟨hr.1, hr.2.1⟩) ⟨zBlind, va_recv hK.1 hP hci ((zl_get ht).trans (by rw [hf])), fun U hU hW9 => ⟨rfl, zPre_of hP hI hAl hS hA hK hU hW9⟩⟩ rfl hn hl.1 hst (by show 2 * 0 + _ ≤ 8; omega) d hr.2.2) hS (zSub hAl hS hA) (zSub hAl hS hA) (fun r w' f' H1 locs1 hp hP1 hI1 hAl1 _ _ hS1 => k r w' f' hp H1 locs1 arr hP1 hI1 hAl1 hS1 hl)
/-- a call of a static method -/
theorem zr_callS (X : zX l D cy own cc nL R nm G) {y : MethodName} {yc : ByteArray} {yL n index : Nat} {ret : Option FieldType} {Rc : Room} {post : Option Value → zW → zF → Prop} {As rest : List Value} (hM : zM l D cy y yc yL ret Rc As κ.1 f post) (hd : y.cls ≠ "java/lang/invoke/MethodHandle" ∧ y.cls ≠ "java/lang/invoke/VarHandle" ∧ (parseMethodDescriptor y.desc).map (fun d => d.parameters.length) = some n) (hcode : Cond.code y yc yL ret ∈ zTb) (hini : Cond.initialized y.cls ∈ zTb) (hr : zRm Rc R yL κ) (hn : As.length = n) (hW : (rest.map fun v => v.category).sum ≤ 8) (hlink : Cond.methodLink own index y ∈ zTb) (hstat : Cond.static y ∈ zTb) (hst : st = As.reverse ++ rest) (d : decode cc pc = .ok (.invokestatic index, 3)) (k : ∀ (r : Option Value) (w' : zW) (f' : zF), post r w' f' → G (w', κ.2.1 + Rc.cells, κ.2.2 + Rc.slots) f' ls (pc + 3) (r.toList ++ rest)) : G κ f ls pc st := by
  obtain ⟨p, e, s, m, args, below, meth, c, Q, A, rfl, hx, hb, hml, hnm, hown, hts, hA, hK⟩ := X
  intro H locs arr hP hI hAl hS hl
  have hT : GoodIn zTb (va_wsS own index y (zWs y yc yL ret)) := zGood (c0 := .initialized y.cls) (fun x hx => by
    rcases List.mem_append.mp hx with hx | hx
    · simp only [List.mem_cons, List.not_mem_nil, or_false] at hx
      rcases hx with rfl | rfl | rfl
      · exact hlink
      · exact hstat
      · exact hini
    · exact zWs_in hcode x hx)
  refine zCall (va_runS (As := As) (rest := rest) (mc := Rc.cells) (ms := Rc.slots) ⟨hx, hb, hml, hown, hts⟩ (hM H.size) (va_cwS n hts hT rfl rfl rfl hd ⟨hr.1, hr.2.1⟩) ⟨zBlind, fun U hU hW9 => ⟨rfl, zPre_of hP hI hAl hS hA hK hU hW9⟩⟩ rfl hn hl.1 hst (by show 2 * 0 + _ ≤ 8; omega) d hr.2.2) hS (zSub hAl hS hA) (zSub hAl hS hA) (fun r w' f' H1 locs1 hp hP1 hI1 hAl1 _ _ hS1 => k r w' f' hp H1 locs1 arr hP1 hI1 hAl1 hS1 hl)
/-- a call of a nest mate's private static method -/
theorem zr_callSN (X : zX l D cy own cc nL R nm G) {y : MethodName} {yc : ByteArray} {yL n index : Nat} {ret : Option FieldType} {Rc : Room} {post : Option Value → zW → zF → Prop} {As rest : List Value} {host : String} (hM : zM l D cy y yc yL ret Rc As κ.1 f post) (hd : y.cls ≠ "java/lang/invoke/MethodHandle" ∧ y.cls ≠ "java/lang/invoke/VarHandle" ∧ (parseMethodDescriptor y.desc).map (fun d => d.parameters.length) = some n) (hcode : Cond.code y yc yL ret ∈ zTb) (hini : Cond.initialized y.cls ∈ zTb) (hr : zRm Rc R yL κ) (hn : As.length = n) (hW : (rest.map fun v => v.category).sum ≤ 8) (hlink : Cond.methodLinkNest own index y host ∈ zNests) (hstat : Cond.static y ∈ zTb) (hst : st = As.reverse ++ rest) (d : decode cc pc = .ok (.invokestatic index, 3)) (k : ∀ (r : Option Value) (w' : zW) (f' : zF), post r w' f' → G (w', κ.2.1 + Rc.cells, κ.2.2 + Rc.slots) f' ls (pc + 3) (r.toList ++ rest)) : G κ f ls pc st := by
  obtain ⟨p, e, s, m, args, below, meth, c, Q, A, rfl, hx, hb, hml, hnm, hown, hts, hA, hK⟩ := X
  intro H locs arr hP hI hAl hS hl
  have hT : GoodIn zTb (zWs y yc yL ret) := zGood (c0 := .initialized y.cls) (zWs_in hcode)
  refine zCall (va_runSN (As := As) (rest := rest) (mc := Rc.cells) (ms := Rc.slots) ⟨hx, hb, hml, hown, hts⟩ (hM H.size) ⟨va_cnB n hts hT rfl rfl rfl (hK.2.1 _ hlink) (hts _ hini) hd ⟨hr.1, hr.2.1⟩, hts _ hstat, trivial⟩ ⟨zBlind, fun U hU hW9 => ⟨rfl, zPre_of hP hI hAl hS hA hK hU hW9⟩⟩ rfl hn hl.1 hst (by show 2 * 0 + _ ≤ 8; omega) d hr.2.2) hS (zSub hAl hS hA) (zSub hAl hS hA) (fun r w' f' H1 locs1 hp hP1 hI1 hAl1 _ _ hS1 => k r w' f' hp H1 locs1 arr hP1 hI1 hAl1 hS1 hl)
/-- a call of a constructor -/
theorem zr_callI (X : zX l D cy own cc nL R nm G) {y : MethodName} {yc : ByteArray} {yL n index : Nat} {Rc : Room} {post : Option Value → zW → zF → Prop} {As rest : List Value} (t : Nat) (hM : zM l D cy y yc yL none Rc (.ref (κ.1.2 t) :: As) κ.1 f post) (hd : y.cls ≠ "java/lang/invoke/MethodHandle" ∧ y.cls ≠ "java/lang/invoke/VarHandle" ∧ (parseMethodDescriptor y.desc).map (fun d => d.parameters.length) = some n) (hcode : Cond.code y yc yL none ∈ zTb) (hini : Cond.initialized y.cls ∈ zTb) (hr : zRm Rc R yL κ) (hn : As.length = n) (hW : (rest.map fun v => v.category).sum ≤ 8) (hlink : Cond.methodLink own index y ∈ zTb) (hy : y.name = "<init>") (hin : Cond.instanceMethod y ∈ zTb) (hst : st = As.reverse ++ .ref (κ.1.2 t) :: rest) (d : decode cc pc = .ok (.invokespecial index, 3)) (k : ∀ (r : Option Value) (w' : zW) (f' : zF), post r w' f' → G (w', κ.2.1 + Rc.cells, κ.2.2 + Rc.slots) f' ls (pc + 3) (r.toList ++ rest)) : G κ f ls pc st := by
  obtain ⟨p, e, s, m, args, below, meth, c, Q, A, rfl, hx, hb, hml, hnm, hown, hts, hA, hK⟩ := X
  intro H locs arr hP hI hAl hS hl
  have hT : GoodIn zTb (zWs y yc yL none) := zGood (c0 := .initialized y.cls) (zWs_in hcode)
  refine zCall (va_runI (As := As) (rest := rest) (mc := Rc.cells) (ms := Rc.slots) ⟨hx, hb, hml, hown, hts⟩ (hM H.size) ⟨callB_of n hts hT rfl rfl rfl (hts _ hini) (hts _ hlink) hd ⟨hr.1, hr.2.1⟩, hy, hts _ hin⟩ ⟨zBlind, fun U hU hW9 => ⟨rfl, zPre_of hP hI hAl hS hA hK hU hW9⟩⟩ rfl hn hl.1 hst (by show 2 * 0 + _ ≤ 8; omega) d hr.2.2) hS (zSub hAl hS hA) (zSub hAl hS hA) (fun r w' f' H1 locs1 hp hP1 hI1 hAl1 _ _ hS1 => k r w' f' hp H1 locs1 arr hP1 hI1 hAl1 hS1 hl)
/-- a call of a nest mate's private constructor -/
theorem zr_callIN (X : zX l D cy own cc nL R nm G) {y : MethodName} {yc : ByteArray} {yL n index : Nat} {host : String} {Rc : Room} {post : Option Value → zW → zF → Prop} {As rest : List Value} (t : Nat) (hM : zM l D cy y yc yL none Rc (.ref (κ.1.2 t) :: As) κ.1 f post) (hd : y.cls ≠ "java/lang/invoke/MethodHandle" ∧ y.cls ≠ "java/lang/invoke/VarHandle" ∧ (parseMethodDescriptor y.desc).map (fun d => d.parameters.length) = some n) (hcode : Cond.code y yc yL none ∈ zTb) (hini : Cond.initialized y.cls ∈ zTb) (hr : zRm Rc R yL κ) (hn : As.length = n) (hW : (rest.map fun v => v.category).sum ≤ 8) (hlink : Cond.methodLinkNest own index y host ∈ zNests) (hy : y.name = "<init>") (hin : Cond.instanceMethod y ∈ zTb) (hst : st = As.reverse ++ .ref (κ.1.2 t) :: rest) (d : decode cc pc = .ok (.invokespecial index, 3)) (k : ∀ (r : Option Value) (w' : zW) (f' : zF), post r w' f' → G (w', κ.2.1 + Rc.cells, κ.2.2 + Rc.slots) f' ls (pc + 3) (r.toList ++ rest)) : G κ f ls pc st := by
  obtain ⟨p, e, s, m, args, below, meth, c, Q, A, rfl, hx, hb, hml, hnm, hown, hts, hA, hK⟩ := X
  intro H locs arr hP hI hAl hS hl
  have hT : GoodIn zTb (zWs y yc yL none) := zGood (c0 := .initialized y.cls) (zWs_in hcode)
  refine zCall (va_runIN (As := As) (rest := rest) (mc := Rc.cells) (ms := Rc.slots) ⟨hx, hb, hml, hown, hts⟩ (hM H.size) ⟨va_cnB n hts hT rfl rfl rfl (hK.2.1 _ hlink) (hts _ hini) hd ⟨hr.1, hr.2.1⟩, hy, hts _ hin⟩ ⟨zBlind, fun U hU hW9 => ⟨rfl, zPre_of hP hI hAl hS hA hK hU hW9⟩⟩ rfl hn hl.1 hst (by show 2 * 0 + _ ≤ 8; omega) d hr.2.2) hS (zSub hAl hS hA) (zSub hAl hS hA) (fun r w' f' H1 locs1 hp hP1 hI1 hAl1 _ _ hS1 => k r w' f' hp H1 locs1 arr hP1 hI1 hAl1 hS1 hl)
end ZR
