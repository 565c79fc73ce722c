/-! THE LAW'S cell: it reads the script, which lies outside the world -/
/-- a contract over the whole world, with the script beside it -/
def zMS (l : Launch) (D : va_G) (cy : Nat → ClassId) (y : MethodName) (cc : ByteArray) (nL : Nat) (ret : Option FieldType) (R : Room) (av : List Value) (w : zW) (f : zF) (b L : Nat) (xs : Nat → Int32) (post : Option Value → zW → zF → Prop) : Prop :=
  ∀ sz : Nat, Met l y (zWs y cc nL ret) R (va_Pc av (fun U => zPre D cy w f sz U ∧ va_T .int b L (fun j => .int (xs j)) (zAd w sz) U U.heap)) (zQ D w sz post) R.cells R.slots (zAd w sz)
theorem zBlindS {D : va_G} {cy : Nat → ClassId} {w : zW} {f : zF} {sz b L : Nat} {xs : Nat → Int32} {av : List Value} : FrameBlind (va_Pc av (fun U => zPre D cy w f sz U ∧ va_T .int b L (fun j => .int (xs j)) (zAd w sz) U U.heap)) := by
  intro a U g mk q
  obtain ⟨q0, q1, q2⟩ := q
  have h := zBlind (av := av) a U g mk ⟨q0, q1⟩
  exact ⟨h.1, h.2, q2.moved (Vm.Alike.refl U.vm)⟩
set_option maxHeartbeats 2000000 in
theorem zMS.intro {l : Launch} {D : va_G} {cy : Nat → ClassId} {cc : ByteArray} {nL : Nat} {R : Room} {f : zF} {b L : Nat} {xs : Nat → Int32} {y : MethodName} {av : List Value} {w : zW} {ret : Option FieldType} {post : Option Value → zW → zF → Prop} (hy : plainName y.cls = true) (hn : (lg_sl av).length ≤ nL)
    (body : ∀ G : zJ, zX l D cy y.cls cc nL R y.name G → zE cc ret w R.cells R.slots post G → (∀ (κ : zκ) (f : zF) (ls : List (Nat × Value)) (pc : Nat) (st : List Value) (i : Int32), vp_in i L → decode cc pc = .ok (.iaload, 1) → G κ f ls (pc + 1) (.int (xs i.toNatClampNeg) :: st) → G κ f ls pc (.int i :: .ref b :: st)) → (∀ (κ : zκ) (f : zF) (ls : List (Nat × Value)) (pc : Nat) (st : List Value), decode cc pc = .ok (.arraylength, 1) → G κ f ls (pc + 1) (.int (Int32.ofNat L) :: st) → G κ f ls pc (.ref b :: st)) → G (w, 0, 0) f (lv_args 0 av) 0 []) : zMS l D cy y cc nL ret R av w f b L xs post := by
  intro sz
  refine Met.ofW (cc := cc) (maxL := nL) (ret := ret) hy rfl ?_
  intro p e s m args below meth c s₁ B hml hv
  obtain ⟨rfl, ⟨hsz, hP, hI, hKK⟩, hT⟩ := hv
  subst hsz
  have hr := B.returns
  have hlocks := B.notSynchronized
  have hnm : meth.name = y.name := (name_of_methodNamed B.named B.method).1
  have hA : ∀ q, s.heap.size ≤ q → zAd w s.heap.size q := fun q h => Or.inr h
  have hall : zAll w (zAd w s.heap.size) := fun i hi => Or.inl ⟨i, hi, rfl⟩
  have X : zX l D cy y.cls cc nL R y.name (zG p l e R s m av.toArray below meth c (MQ below (zQ D w s.heap.size post) av.toArray s R.cells R.slots (zAd w s.heap.size)) D nL (zAd w s.heap.size)) :=
    ⟨p, e, s, m, av.toArray, below, meth, c, _, _, rfl, B.exec, B.bytes, hml, hnm, findClass_of_methodNamed B.named, fun w h => atoms_spec (ws := zWs y cc nL ret) B.pre w (List.mem_cons_of_mem _ h), hA, hKK⟩
  have fin : ∀ (κ : zκ) (f : zF) (H : Heap) (locs : List Loc) (r : Option Value), va_P D vwCl (zl κ.1 f) H → zIn κ.1 → zAll κ.1 (zAd w s.heap.size) → va_S (zAd w s.heap.size) s.heap H locs → (w.1 ≤ κ.1.1 ∧ ∀ i, i < w.1 → κ.1.2 i = w.2 i) → post r κ.1 f → ∀ t : State, t.heap = H → s.WarmedH t.vm → zQ D w s.heap.size post av.toArray s (.returned r) t := by
    intro κ f H locs r hP hI hAl hS hg hp t ht hW
    exact ⟨⟨r, κ.1, f, rfl, hp, by rw [ht]; exact hP, hI, hAl, hg.1, hg.2⟩, hS.F ht⟩
  have E : zE cc ret w R.cells R.slots post (zG p l e R s m av.toArray below meth c (MQ below (zQ D w s.heap.size post) av.toArray s R.cells R.slots (zAd w s.heap.size)) D nL (zAd w s.heap.size)) := by
    refine ⟨?_, ?_, ?_⟩
    · intro κ f ls pc v hret hd hc1 hc2 hg hp H locs arr hP hI hAl hS hl
      refine W.widen hc1 hc2 ?_
      rcases hret with h | ⟨h, h0⟩
      · exact W.zret (ty := .int) B.exec B.bytes (hr.trans h) rfl (fin κ f H locs _ hP hI hAl hS hg hp) hS.2.2 hd hlocks
      · refine W.zret (ty := .boolean) B.exec B.bytes (hr.trans h) ?_ (fin κ f H locs _ hP hI hAl hS hg hp) hS.2.2 hd hlocks
        rcases h0 with rfl | rfl <;> rfl
    · intro κ f ls pc hret hd hc1 hc2 hg hp H locs arr hP hI hAl hS hl
      refine W.widen hc1 hc2 ?_
      exact W.vret B.exec B.bytes (hr.trans hret) (fin κ f H locs _ hP hI hAl hS hg hp) hS.2.2 hd hlocks
    · intro κ f ls pc v hret hv hd hc1 hc2 hg hp H locs arr hP hI hAl hS hl
      refine W.widen hc1 hc2 ?_
      obtain ⟨n, hn⟩ := hret
      exact W.aret B.exec B.bytes (hr.trans hn) (Or.inl ⟨n, rfl⟩) hv (fin κ f H locs _ hP hI hAl hS hg hp) hS.2.2 hd hlocks
  have key := body _ X E (fun κ f ls pc st i hin hd k H locs arr hP hI hAl hS hl => va_ti B.exec B.bytes hT hS hin rfl hd (k H locs arr hP hI hAl hS hl)) (fun κ f ls pc st hd k H locs arr hP hI hAl hS hl => va_tlen B.exec B.bytes hT hS rfl hd (k H locs arr hP hI hAl hS hl)) s.heap [] _ hP hI hall va_S.rf (lv_entry av (n := nL) hn)
  rw [lg_entry_eq]
  exact key
/-- the script's number at a place, or another beyond its end -/
theorem kl_cell {l : Launch} {D : va_G} {cy : Nat → ClassId} {w : zW} {f : zF} {b L K : Nat} {xs : Nat → Int32} (hK : K < 2147483648) (hL : L < 2147483648) : zMS l D cy yL_cell cL_cell 2 (some .int) { frames := 0, cells := 0, slots := 0, locals := 0 } [.ref b, .int (nI K)] w f b L xs (fun r0 w' g => w' = w ∧ (∃ v, r0 = some (.int v)) ∧ g = f) := by
  refine zMS.intro (by decide) (Nat.le_of_ble_eq_true rfl) (fun G X E SL SN => ?_)
  show G (w, 0, 0) f [(0, .ref b), (1, .int (nI K))] 0 []
  refine zr_iload_n X 1 dL_cell_0 rfl rfl ?_
  refine zr_aload_n X 0 dL_cell_1 rfl rfl ?_
  refine SN _ _ _ _ _ dL_cell_2 ?_
  refine zr_icmp_ge X (tgt := 12) dL_cell_3 (by decide) (fun h1 => ?_) (fun h2 => ?_)
  · refine zr_ldc X zm_2_58 dL_cell_12 ?_
    refine zr_iload_n X 1 dL_cell_14 rfl rfl ?_
    refine zr_iconst X (v := 3) dL_cell_15 (by decide) ?_
    refine zr_iadd X dL_cell_16 ?_
    refine zr_imul X dL_cell_17 ?_
    exact E.1 (w, 0, 0) _ _ _ _ (Or.inl rfl) dL_cell_18 (Nat.le_refl _) (Nat.le_refl _) ⟨Nat.le_refl _, fun _ _ => rfl⟩ ⟨rfl, ⟨_, rfl⟩, rfl⟩
  · refine zr_aload_n X 0 dL_cell_6 rfl rfl ?_
    refine zr_iload_n X 1 dL_cell_7 rfl rfl ?_
    refine SL _ _ _ _ _ _ (vp_in_nI (nI_ltn (x := nI K) rfl hL hK h2) hL) dL_cell_8 ?_
    refine zr_goto X (tgt := 18) dL_cell_9 (by decide) ?_
    exact E.1 (w, 0, 0) _ _ _ _ (Or.inl rfl) dL_cell_18 (Nat.le_refl _) (Nat.le_refl _) ⟨Nat.le_refl _, fun _ _ => rfl⟩ ⟨rfl, ⟨_, rfl⟩, rfl⟩
