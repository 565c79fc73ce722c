theorem zMetF {l : Launch} {y : MethodName} {ws ws' : List Cond} {rm : Room} {Pc : Array Value → State → Prop} {Qc : Array Value → State → Outcome → State → Prop} {mc ms : Nat} {free : Addr → Prop} {cc : ByteArray} {maxL : Nat} {ret : Option FieldType}
    (hy : plainFor y = true) (hw : ws = Cond.code y cc maxL ret :: ws')
    (body : ∀ p e s m args below meth c s₁, BodyLoose p l y (headSpec ws rm) cc maxL ret e s m args below meth c s₁ → c.maxLocals = maxL → Pc args s →
      W p l e (headSpec ws rm).room s m args below meth c s.heap [] 0 0 (MQ below Qc args s mc ms free) (entryFrame m args maxL)) : Met l y ws rm Pc Qc mc ms free := by
  refine MetFree.of_bodySF (code := cc) (maxLocals := maxL) (ret := ret) hy ?_ ?_
  · intro args s m h hn
    obtain ⟨meth, c, h1, h2, h3, h4, h5, h6, -, -⟩ := Cond.code_spec hn (atoms_spec (ws := ws) h _ (by rw [hw]; exact List.mem_cons_self))
    exact ⟨meth, c, h1, h2, h3, h4, h5, h6⟩
  · intro p e s m args below meth c s₁ B hml hP _
    have hh0 : s₁.heap = s.heap := by rw [B.state]; rfl
    obtain ⟨t, a1, o, b1, b2, b3⟩ := body p e s m args below meth c s₁ B hml hP s₁ hh0 (Stand.of_body B)
    exact ⟨t, o, a1, b1, b2, ⟨b3.1, b3.2⟩⟩
section ZMF
variable {l : Launch} {D : va_G} {cy : Nat → ClassId} {own : String} {cc : ByteArray} {nL : Nat} {R : Room} {nm : String} {G : zJ} {κ : zκ} {f : zF} {ls ls' : List (Nat × Value)} {pc : Nat} {st : List Value}
set_option maxHeartbeats 2000000 in
theorem zM.introF {y : MethodName} {av : List Value} {w : zW} {ret : Option FieldType} {post : Option Value → zW → zF → Prop} (hy : plainFor y = true) (hn : (lg_sl av).length ≤ nL)
    (body : ∀ G : zJ, zX l D cy y.cls cc nL R y.name G → zE cc ret w R.cells R.slots post G → G (w, 0, 0) f (lv_args 0 av) 0 []) : zM l D cy y cc nL ret R av w f post := by
  intro sz
  refine zMetF (cc := cc) (maxL := nL) (ret := ret) hy rfl ?_
  intro p e s m args below meth c s₁ B hml hv
  obtain ⟨rfl, hsz, hP, hI, hKK⟩ := hv
  subst hsz
  have hr := B.returns
  have hlocks := B.notSynchronized
  have hnm : meth.name = y.name := (name_of_methodNamed B.named B.method).1
  have hA : ∀ q, s.heap.size ≤ q → zAd w s.heap.size q := fun q h => Or.inr h
  have hall : zAll w (zAd w s.heap.size) := fun i hi => Or.inl ⟨i, hi, rfl⟩
  have X : zX l D cy y.cls cc nL R y.name (zG p l e R s m av.toArray below meth c (MQ below (zQ D w s.heap.size post) av.toArray s R.cells R.slots (zAd w s.heap.size)) D nL (zAd w s.heap.size)) :=
    ⟨p, e, s, m, av.toArray, below, meth, c, _, _, rfl, B.exec, B.bytes, hml, hnm, findClass_of_methodNamed B.named, fun w h => atoms_spec (ws := zWs y cc nL ret) B.pre w (List.mem_cons_of_mem _ h), hA, hKK⟩
  have fin : ∀ (κ : zκ) (f : zF) (H : Heap) (locs : List Loc) (r : Option Value), va_P D vwCl (zl κ.1 f) H → zIn κ.1 → zAll κ.1 (zAd w s.heap.size) → va_S (zAd w s.heap.size) s.heap H locs → (w.1 ≤ κ.1.1 ∧ ∀ i, i < w.1 → κ.1.2 i = w.2 i) → post r κ.1 f → ∀ t : State, t.heap = H → s.WarmedH t.vm → zQ D w s.heap.size post av.toArray s (.returned r) t := by
    intro κ f H locs r hP hI hAl hS hg hp t ht hW
    exact ⟨⟨r, κ.1, f, rfl, hp, by rw [ht]; exact hP, hI, hAl, hg.1, hg.2⟩, hS.F ht⟩
  have E : zE cc ret w R.cells R.slots post (zG p l e R s m av.toArray below meth c (MQ below (zQ D w s.heap.size post) av.toArray s R.cells R.slots (zAd w s.heap.size)) D nL (zAd w s.heap.size)) := by
    refine ⟨?_, ?_, ?_⟩
    · intro κ f ls pc v hret hd hc1 hc2 hg hp H locs arr hP hI hAl hS hl
      refine W.widen hc1 hc2 ?_
      rcases hret with h | ⟨h, h0⟩
      · exact W.zret (ty := .int) B.exec B.bytes (hr.trans h) rfl (fin κ f H locs _ hP hI hAl hS hg hp) hS.2.2 hd hlocks
      · refine W.zret (ty := .boolean) B.exec B.bytes (hr.trans h) ?_ (fin κ f H locs _ hP hI hAl hS hg hp) hS.2.2 hd hlocks
        rcases h0 with rfl | rfl <;> rfl
    · intro κ f ls pc hret hd hc1 hc2 hg hp H locs arr hP hI hAl hS hl
      refine W.widen hc1 hc2 ?_
      exact W.vret B.exec B.bytes (hr.trans hret) (fin κ f H locs _ hP hI hAl hS hg hp) hS.2.2 hd hlocks
    · intro κ f ls pc v hret hv hd hc1 hc2 hg hp H locs arr hP hI hAl hS hl
      refine W.widen hc1 hc2 ?_
      obtain ⟨n, hn⟩ := hret
      exact W.aret B.exec B.bytes (hr.trans hn) (Or.inl ⟨n, rfl⟩) hv (fin κ f H locs _ hP hI hAl hS hg hp) hS.2.2 hd hlocks
  have key := body _ X E s.heap [] _ hP hI hall va_S.rf (lv_entry av (n := nL) hn)
  rw [lg_entry_eq]
  exact key
end ZMF
theorem zSd.introF {l : Launch} {D : va_G} {cy : Nat → ClassId} {cc : ByteArray} {nL : Nat} {f f' : zF} {y : MethodName} {ret : Option FieldType} {fr lo : Nat} {av : List Value} {w : zW} {r : Option Value} (hy : plainFor y = true) (hn : (lg_sl av).length ≤ nL)
    (body : ∀ G : zJ, zX l D cy y.cls cc nL { frames := fr, cells := 0, slots := 0, locals := lo } y.name G → zE cc ret w 0 0 (fun r0 w' g => w' = w ∧ r0 = r ∧ g = f') G → G (w, 0, 0) f (lv_args 0 av) 0 []) : zSd l D cy y cc nL ret fr lo av w f r f' := zM.introF hy hn body
theorem zm_4_162 : Cond.native ⟨"java/lang/Float", "floatToRawIntBits", "(F)I"⟩ ∈ zTb := zt4 162 (by decide +kernel) (by decide +kernel)
theorem zr_f2b {l : Launch} {D : va_G} {cy : Nat → ClassId} {own : String} {cc : ByteArray} {nL : Nat} {R : Room} {nm : String} {G : zJ} {κ : zκ} {f : zF} {ls : List (Nat × Value)} {pc : Nat} {st : List Value} (X : zX l D cy own cc nL R nm G) {index : Nat} {x : UInt32} (hlink : Cond.methodLink own index ⟨"java/lang/Float", "floatToRawIntBits", "(F)I"⟩ ∈ zTb) (hfr : 1 ≤ R.frames) (hlo : (st.map fun v => v.category).sum + 15 ≤ R.locals) (d : decode cc pc = .ok (.invokestatic index, 3)) (k : G κ f ls (pc + 3) (.int x.toInt32 :: st)) : G κ f ls pc (.float x :: st) := by
  obtain ⟨p, e, s, m, args, below, meth, c, Q, A, rfl, hx, hb, hml, hnm, hown, hts, hA, hK⟩ := X
  intro H locs arr hP hI hAl hS hl
  exact vn_f2i hx hb (by rw [hml]; exact hl.1.symm) hown (hts _ hlink) (hts _ zm_4_162) (hts _ zm_4_161) (hts _ zm_1_12) hfr hlo d (k H locs arr hP hI hAl hS hl)
theorem zfl_eq {E T : Nat} (h1 : 1 ≤ E) (hE : E ≤ 254) (hT : T < 8388608) : Op.cmpValue (FP.fcmp (zfl E T) (zfl E T)) .l = 0 := by
  have e : FP.fcmp (zfl E T) (zfl E T) = some .eq := by
    show FP.Core.order (FP.Core.val32 (zfl E T)) (FP.Core.val32 (zfl E T)) = _
    rw [zfl_val h1 hE hT]
    show some (compare (FP.Core.signed false _) (FP.Core.signed false _)) = _
    rw [Int.compare_eq_eq.mpr rfl]
  rw [e]
  rfl
set_option maxHeartbeats 4000000 in
set_option maxRecDepth 100000 in
theorem k_isNaN {l : Launch} {D : va_G} {cy : Nat → ClassId} {w : zW} {f : zF} {x : UInt32} (h9 : Op.cmpValue (FP.fcmp x x) .l = 0) : zSd l D cy yJxf58ca_isNaN_12338 cJxf58ca_isNaN_12338 1 (some .boolean) 0 0 [.float (x)] w f (some (.int (0))) f := by
  refine zSd.introF (by decide +kernel) (Nat.le_of_ble_eq_true rfl) (fun G X E => ?_)
  show G (w, 0, 0) f [(0, .float (x))] 0 []
  refine zr_fload_n X 0 dJxf58ca_isNaN_12338_0 rfl rfl ?_
  refine zr_fload_n X 0 dJxf58ca_isNaN_12338_1 rfl rfl ?_
  refine zr_fcmp X dJxf58ca_isNaN_12338_2 ?_
  refine zr_if_eq X (tgt := 10) dJxf58ca_isNaN_12338_3 (by decide) (fun _ => ?_) (fun h => False.elim (h h9))
  refine zr_iconst X (v := 0) dJxf58ca_isNaN_12338_10 (by decide) ?_
  exact zret_z E rfl (Or.inl rfl) dJxf58ca_isNaN_12338_11 rfl rfl
set_option maxHeartbeats 4000000 in
set_option maxRecDepth 100000 in
theorem k_f2b {l : Launch} {D : va_G} {cy : Nat → ClassId} {w : zW} {f : zF} {x : UInt32} (h9 : Op.cmpValue (FP.fcmp x x) .l = 0) : zSd l D cy yJxf58ca_floatToIntBits_5c35a cJxf58ca_floatToIntBits_5c35a 1 (some .int) 2 40 [.float (x)] w f (some (.int (x.toInt32))) f := by
  refine zSd.introF (by decide +kernel) (Nat.le_of_ble_eq_true rfl) (fun G X E => ?_)
  show G (w, 0, 0) f [(0, .float (x))] 0 []
  refine zr_fload_n X 0 dJxf58ca_floatToIntBits_5c35a_0 rfl rfl ?_
  refine zr_cS X (As := [.float (x)]) (rest := []) (f' := f) (st' := [.int (0)]) zc_Jxf58ca_isNaN_12338 (k_isNaN h9) ⟨Nat.le_of_ble_eq_true rfl, Nat.le_of_ble_eq_true rfl⟩ ⟨Nat.le_refl _, Nat.le_refl _⟩ rfl (Nat.le_of_ble_eq_true rfl) zm_4_157 rfl dJxf58ca_floatToIntBits_5c35a_1 rfl ?_
  refine zr_if_ne X (tgt := 12) dJxf58ca_floatToIntBits_5c35a_4 (by decide) (fun h => absurd rfl h) (fun _ => ?_)
  refine zr_fload_n X 0 dJxf58ca_floatToIntBits_5c35a_7 rfl rfl ?_
  refine zr_f2b X zm_4_160 (by decide) (by decide) dJxf58ca_floatToIntBits_5c35a_8 ?_
  exact zret_i E rfl dJxf58ca_floatToIntBits_5c35a_11 rfl rfl
def dAg (s : Nat → Int32) (n : Nat) : Int32 := zfold (fun k m => m + nI k * s (115 + k)) 0 n
def dMean (s : Nat → Int32) : Int32 := if dLF s 0 21 = 0 then (-1000004) else (FP.fdiv (FP.i2f (dAg s 21)) (FP.i2f (dLF s 0 21))).toInt32
set_option maxHeartbeats 4000000 in
set_option maxRecDepth 100000 in
theorem k_mmean {l : Launch} {D : va_G} {cy : Nat → ClassId} {w : zW} {f : zF} {v s nu : Nat → Int32}  (hw : w.1 = 139) (h0 : dLF s 0 21 = 0 → dAg s 21 = 0) (hM : ¬ dLF s 0 21 = 0 → ∃ j T, j ≤ 13 ∧ T < 8388608 ∧ FP.fdiv (FP.i2f (dAg s 21)) (FP.i2f (dLF s 0 21)) = zfl (127 + j) T) : zSd l D cy yX9_mean cX9_mean 4 (some .int) 3 60 [.ref (w.2 (132))] w (mW w cy f v s nu) (some (.int (dMean s))) (mW w cy f v s nu) := by
  refine zSd.intro (by decide) (Nat.le_of_ble_eq_true rfl) (fun G X E => ?_)
  show G (w, 0, 0) (mW w cy f v s nu) [(0, .ref (w.2 (132)))] 0 []
  refine zr_iconst X (v := 0) dX9_mean_0 (by decide) ?_
  refine zr_istore_n X (ls' := [(1, .int (0)), (0, .ref (w.2 (132)))]) dX9_mean_1 rfl (by decide) rfl ?_
  refine zr_iconst X (v := 0) dX9_mean_2 (by decide) ?_
  refine zr_istore_n X (ls' := [(2, .int (0)), (1, .int (0)), (0, .ref (w.2 (132)))]) dX9_mean_3 rfl (by decide) rfl ?_
  refine zr_loc X (ls' := [(0, .ref (w.2 (132))), (1, .int (0)), (2, .int (0))]) [2, 1, 0] rfl ?_
  refine zcast (f2 := mW w cy f v s nu) (ls2 := [(0, .ref (w.2 (132))), (1, .int (dAg s (0))), (2, .int (nI (0)))]) rfl rfl ?_
  refine zdown (P := fun n => G (w, 0, 0) (mW w cy f v s nu) [(0, .ref (w.2 (132))), (1, .int (dAg s (n))), (2, .int (nI (n)))] 4 []) (B := 21) ?_ (fun n hn4 ih4 => ?_) 0 (Nat.zero_le _) 
  · show G (w, 0, 0) (mW w cy f v s nu) [(0, .ref (w.2 (132))), (1, .int (dAg s (21))), (2, .int (nI (21)))] 4 []
    refine zr_iload_n X 2 dX9_mean_4 rfl rfl ?_
    refine zr_bipush X (v := 20) dX9_mean_5 (by decide) ?_
    refine zr_icmp_gt X (tgt := 30) dX9_mean_7 (by decide) (fun _ => ?_) (fun h => False.elim (h (by decide)))
    refine zr_aload_n X 0 dX9_mean_30 rfl rfl ?_
    refine zr_cV X (As := []) (rest := []) (f' := mW w cy f v s nu) (st' := [.int (dLF s 0 21)]) zc_X9_allLoaves (132) (show 132 < w.1 by rw [hw]; omega) mW_132 (q9 := _) rfl rfl (k_allLoaves hw) ⟨Nat.le_of_ble_eq_true rfl, Nat.le_of_ble_eq_true rfl⟩ ⟨Nat.le_refl _, Nat.le_refl _⟩ rfl (Nat.le_of_ble_eq_true rfl) zm_4_66 rfl dX9_mean_31 rfl ?_
    refine zr_istore_n X (ls' := [(2, .int (dLF s 0 21)), (0, .ref (w.2 (132))), (1, .int (dAg s (21)))]) dX9_mean_34 rfl (by decide) rfl ?_
    refine zr_iload_n X 2 dX9_mean_35 rfl rfl ?_
    refine zr_i2f X dX9_mean_36 ?_
    refine zr_iload_n X 0 dX9_mean_37 rfl rfl ?_
    refine zr_if_ne X (tgt := 45) dX9_mean_38 (by decide) (fun h1 => ?_) (fun h2 => ?_)
    · obtain ⟨j9, T9, hj9, hT9, eq9⟩ := hM h1
      refine zr_iload_n X 0 dX9_mean_45 rfl rfl ?_
      refine zr_i2f X dX9_mean_46 ?_
      refine zr_fdiv X dX9_mean_47 (by rw [eq9]; exact zfl_n32 (by omega) hT9) ?_
      refine zr_fstore_n X (ls' := [(3, .float (FP.fdiv (FP.i2f (dAg s (21))) (FP.i2f (dLF s 0 21)))), (2, .int (dLF s 0 21)), (0, .ref (w.2 (132))), (1, .int (dAg s (21)))]) dX9_mean_48 rfl (by decide) rfl ?_
      refine zr_iload_n X 1 dX9_mean_49 rfl rfl ?_
      refine zr_if_ne X (tgt := 58) dX9_mean_50 (by decide) (fun _ => ?_) (fun h3 => absurd h3 h1)
      refine zr_fload_n X 0 dX9_mean_58 rfl rfl ?_
      refine zr_cS X (As := [.float (FP.fdiv (FP.i2f (dAg s (21))) (FP.i2f (dLF s 0 21)))]) (rest := []) (f' := mW w cy f v s nu) (st' := [.int ((FP.fdiv (FP.i2f (dAg s (21))) (FP.i2f (dLF s 0 21))).toInt32)]) zc_Jxf58ca_floatToIntBits_5c35a (k_f2b (by rw [eq9]; exact zfl_eq (by omega) (by omega) hT9)) ⟨Nat.le_of_ble_eq_true rfl, Nat.le_of_ble_eq_true rfl⟩ ⟨Nat.le_refl _, Nat.le_refl _⟩ rfl (Nat.le_of_ble_eq_true rfl) zm_4_154 rfl dX9_mean_59 rfl ?_
      exact zret_i E rfl dX9_mean_62 (by unfold dMean; rw [if_neg h1]) rfl
    · refine zr_iconst X (v := 1) dX9_mean_41 (by decide) ?_
      refine zr_goto X (tgt := 46) dX9_mean_42 (by decide) ?_
      refine zr_i2f X dX9_mean_46 ?_
      refine zr_fdiv X dX9_mean_47 (by rw [h0 h2]; exact (show FP.fdiv (FP.i2f 0) (FP.i2f 1) &&& 0x7fffffff ≤ 0x7f800000 by decide +kernel)) ?_
      refine zr_fstore_n X (ls' := [(3, .float (FP.fdiv (FP.i2f (dAg s (21))) (FP.i2f 1))), (2, .int (dLF s 0 21)), (0, .ref (w.2 (132))), (1, .int (dAg s (21)))]) dX9_mean_48 rfl (by decide) rfl ?_
      refine zr_iload_n X 1 dX9_mean_49 rfl rfl ?_
      refine zr_if_ne X (tgt := 58) dX9_mean_50 (by decide) (fun h4 => absurd h2 h4) (fun _ => ?_)
      refine zr_ldc X zm_4_41 dX9_mean_53 ?_
      refine zr_goto X (tgt := 62) dX9_mean_55 (by decide) ?_
      exact zret_i E rfl dX9_mean_62 (by unfold dMean; rw [if_pos h2]) rfl
  · show G (w, 0, 0) (mW w cy f v s nu) [(0, .ref (w.2 (132))), (1, .int (dAg s (n))), (2, .int (nI (n)))] 4 []
    refine zr_iload_n X 2 dX9_mean_4 rfl rfl ?_
    refine zr_bipush X (v := 20) dX9_mean_5 (by decide) ?_
    refine zr_icmp_gt X (tgt := 30) dX9_mean_7 (by decide) (fun h => False.elim (nI_nlt (show n ≤ 20 by omega) (by decide) h)) (fun _ => ?_)
    refine zr_iload_n X 1 dX9_mean_10 rfl rfl ?_
    refine zr_iload_n X 2 dX9_mean_11 rfl rfl ?_
    refine zr_aload_n X 0 dX9_mean_12 rfl rfl ?_
    refine zr_get X zfd_RX9_7 (132) (show 132 < w.1 by rw [hw]; omega) mW_132 (v := .ref (w.2 (133))) rfl dX9_mean_13 ?_
    refine zr_bipush X (v := 115) dX9_mean_16 (by decide) ?_
    refine zr_iload_n X 2 dX9_mean_18 rfl rfl ?_
    refine zr_iadd X dX9_mean_19 ?_
    refine zr_iald X (133) (show 133 < w.1 by rw [hw]; omega) mW_133 (115 + (n)) (nI_add 115 _) (by omega) (by decide) dX9_mean_20 ?_
    refine zr_imul X dX9_mean_21 ?_
    refine zr_iadd X dX9_mean_22 ?_
    refine zr_istore_n X (ls' := [(1, .int ((dAg s (n)) + ((nI (n)) * (s (115 + (n)))))), (0, .ref (w.2 (132))), (2, .int (nI (n)))]) dX9_mean_23 rfl (by decide) rfl ?_
    refine zr_iinc X (v := nI (n + 1)) (ls' := [(2, .int (nI (n + 1))), (1, .int ((dAg s (n)) + ((nI (n)) * (s (115 + (n)))))), (0, .ref (w.2 (132)))]) 2 dX9_mean_24 rfl (zinc1 _) (by decide) rfl ?_
    refine zr_goto X (tgt := 4) dX9_mean_27 (by decide) ?_
    refine zr_loc X (ls' := [(0, .ref (w.2 (132))), (1, .int ((dAg s (n)) + ((nI (n)) * (s (115 + (n)))))), (2, .int (nI (n + 1)))]) [2, 1, 0] rfl ?_
    exact zcast (f2 := mW w cy f v s nu) (ls2 := [(0, .ref (w.2 (132))), (1, .int (dAg s (n + 1))), (2, .int (nI (n + 1)))]) rfl rfl ih4
