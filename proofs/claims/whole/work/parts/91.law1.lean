/-! THE LAW'S WALK -/
/-- its surroundings, the script's cells, and its end -/
def zLw (l : Launch) (D : va_G) (cy : Nat → ClassId) (b L : Nat) (xs : Nat → Int32) (nm : String) (G : zJ) : Prop :=
  zX l D cy RL cL_law 4 room_1 nm G ∧
  (∀ (κ : zκ) (f : zF) (ls : List (Nat × Value)) (pc : Nat) (st : List Value) (i : Int32), vp_in i L → decode cL_law pc = .ok (.iaload, 1) → G κ f ls (pc + 1) (.int (xs i.toNatClampNeg) :: st) → G κ f ls pc (.int i :: .ref b :: st)) ∧
  (∀ (κ : zκ) (f : zF) (ls : List (Nat × Value)) (pc : Nat) (st : List Value), decode cL_law pc = .ok (.arraylength, 1) → G κ f ls (pc + 1) (.int (Int32.ofNat L) :: st) → G κ f ls pc (.ref b :: st)) ∧
  (∀ (κ : zκ) (f : zF) (ls : List (Nat × Value)) (pc : Nat), κ.2.1 ≤ 600000 → κ.2.2 ≤ 7302249 → decode cL_law pc = .ok (.ireturn, 1) → G κ f ls pc [.int 1])
theorem LI_0 {w : zW} {cy : Nat → ClassId} {f : zF} {B : Int} (h : LI w cy f B) : ∃ fs, f 0 = .inr (8, fs) := by
  obtain ⟨s0, s1, hs, δ, k, s, P, H, T, n, tx, tx2, v, nu, hC, -⟩ := h
  exact ⟨_, hC.1.1⟩
theorem law_in {j k L : Nat} (hk : 4 * j + k < L) (hL : L ≤ 2048) {v : Int32} (hv : v = nI k) : vp_in (nI (4 * j) + v) L := by
  rw [hv, nI_add]
  exact vp_in_nI hk (by omega)
theorem law_mule {l : Launch} {D : va_G} {cy : Nat → ClassId} {w : zW} {f : zF} {B : Int} {b L : Nat} {xs : Nat → Int32} {nm : String} {G : zJ} {c9 l9 j : Nat} (Z : zLw l D cy b L xs nm G) (hw : w.1 = 139) (hc : c9 ≤ 600000) (hs : l9 ≤ 7302249) (hL2 : L ≤ 2048) (hj : 4 * j + 4 ≤ L) (hL : LI w cy f B) (hB : B ≤ 1000000000) (k : ∀ g : zF, LI w cy g (B + 60) → G (w, c9, l9) g [(0, .ref b), (1, .ref (w.2 0)), (2, .ref (w.2 132)), (3, .int (nI (4 * j)))] 736 []) : G (w, c9, l9) f [(0, .ref b), (1, .ref (w.2 0)), (2, .ref (w.2 132)), (3, .int (nI (4 * j)))] 144 [] := by
  have X := Z.1
  obtain ⟨fs0, h0⟩ := LI_0 hL
  obtain ⟨r, Mid, hc1, hc2⟩ := pair_mule (l := l) (D := D) (a := xs (nI (4 * j) + 1).toNatClampNeg) (c := xs (nI (4 * j) + 2).toNatClampNeg) hw hL hB
  refine zr_aload_n X 1 dL_law_144 rfl rfl ?_
  refine zr_aload_n X 0 dL_law_145 rfl rfl ?_
  refine zr_iload_n X 3 dL_law_146 rfl rfl ?_
  refine zr_iconst X (v := 1) dL_law_147 (by decide) ?_
  refine zr_iadd X dL_law_148 ?_
  refine Z.2.1 _ _ _ _ _ _ (law_in (k := 1) (by omega) hL2 rfl) dL_law_149 ?_
  refine zr_aload_n X 0 dL_law_150 rfl rfl ?_
  refine zr_iload_n X 3 dL_law_151 rfl rfl ?_
  refine zr_iconst X (v := 2) dL_law_152 (by decide) ?_
  refine zr_iadd X dL_law_153 ?_
  refine Z.2.1 _ _ _ _ _ _ (law_in (k := 2) (by omega) hL2 rfl) dL_law_154 ?_
  refine zr_cVp X (As := [.int (xs (nI (4 * j) + 1).toNatClampNeg), .int (xs (nI (4 * j) + 2).toNatClampNeg)]) (rest := []) zc_X8_mule 0 (show 0 < w.1 by rw [hw]; decide) h0 (q9 := _) rfl rfl hc1 ⟨Nat.le_of_ble_eq_true rfl, Nat.le_of_ble_eq_true rfl⟩ ⟨hc, hs⟩ rfl (Nat.le_of_ble_eq_true rfl) zm_2_41 rfl dL_law_155 (fun r9 g8 hp => ?_)
  obtain ⟨rfl, hM⟩ := hp
  obtain ⟨⟨fs2, h132⟩, hc3⟩ := hc2 g8 hM
  refine zr_aload_n X 2 dL_law_158 rfl rfl ?_
  refine zr_aload_n X 0 dL_law_159 rfl rfl ?_
  refine zr_iload_n X 3 dL_law_160 rfl rfl ?_
  refine zr_iconst X (v := 1) dL_law_161 (by decide) ?_
  refine zr_iadd X dL_law_162 ?_
  refine Z.2.1 _ _ _ _ _ _ (law_in (k := 1) (by omega) hL2 rfl) dL_law_163 ?_
  refine zr_aload_n X 0 dL_law_164 rfl rfl ?_
  refine zr_iload_n X 3 dL_law_165 rfl rfl ?_
  refine zr_iconst X (v := 2) dL_law_166 (by decide) ?_
  refine zr_iadd X dL_law_167 ?_
  refine Z.2.1 _ _ _ _ _ _ (law_in (k := 2) (by omega) hL2 rfl) dL_law_168 ?_
  refine zr_cVp X (As := [.int (xs (nI (4 * j) + 1).toNatClampNeg), .int (xs (nI (4 * j) + 2).toNatClampNeg)]) (rest := [.int r]) zc_X9_mule 132 (show 132 < w.1 by rw [hw]; decide) h132 (q9 := _) rfl rfl hc3 ⟨Nat.le_of_ble_eq_true rfl, Nat.le_of_ble_eq_true rfl⟩ ⟨hc, hs⟩ rfl (Nat.le_of_ble_eq_true rfl) zm_3_223 rfl dL_law_169 (fun r9 g9 hp => ?_)
  obtain ⟨rfl, hI⟩ := hp
  exact zr_icmp_eq X (tgt := 736) dL_law_172 (by decide) (fun _ => k g9 hI) (fun q => absurd rfl q)
theorem law_send {l : Launch} {D : va_G} {cy : Nat → ClassId} {w : zW} {f : zF} {B : Int} {b L : Nat} {xs : Nat → Int32} {nm : String} {G : zJ} {c9 l9 j : Nat} (Z : zLw l D cy b L xs nm G) (hw : w.1 = 139) (hc : c9 ≤ 600000) (hs : l9 ≤ 7302249) (hL2 : L ≤ 2048) (hj : 4 * j + 4 ≤ L) (hL : LI w cy f B) (hB : B ≤ 1000000000) (k : ∀ g : zF, LI w cy g (B + 60) → G (w, c9, l9) g [(0, .ref b), (1, .ref (w.2 0)), (2, .ref (w.2 132)), (3, .int (nI (4 * j)))] 736 []) : G (w, c9, l9) f [(0, .ref b), (1, .ref (w.2 0)), (2, .ref (w.2 132)), (3, .int (nI (4 * j)))] 177 [] := by
  have X := Z.1
  obtain ⟨fs0, h0⟩ := LI_0 hL
  obtain ⟨r, Mid, hc1, hc2⟩ := pair_send (l := l) (D := D) (a := xs (nI (4 * j) + 1).toNatClampNeg) (c := xs (nI (4 * j) + 2).toNatClampNeg) hw hL hB
  refine zr_aload_n X 1 dL_law_177 rfl rfl ?_
  refine zr_aload_n X 0 dL_law_178 rfl rfl ?_
  refine zr_iload_n X 3 dL_law_179 rfl rfl ?_
  refine zr_iconst X (v := 1) dL_law_180 (by decide) ?_
  refine zr_iadd X dL_law_181 ?_
  refine Z.2.1 _ _ _ _ _ _ (law_in (k := 1) (by omega) hL2 rfl) dL_law_182 ?_
  refine zr_aload_n X 0 dL_law_183 rfl rfl ?_
  refine zr_iload_n X 3 dL_law_184 rfl rfl ?_
  refine zr_iconst X (v := 2) dL_law_185 (by decide) ?_
  refine zr_iadd X dL_law_186 ?_
  refine Z.2.1 _ _ _ _ _ _ (law_in (k := 2) (by omega) hL2 rfl) dL_law_187 ?_
  refine zr_cVp X (As := [.int (xs (nI (4 * j) + 1).toNatClampNeg), .int (xs (nI (4 * j) + 2).toNatClampNeg)]) (rest := []) zc_X8_send 0 (show 0 < w.1 by rw [hw]; decide) h0 (q9 := _) rfl rfl hc1 ⟨Nat.le_of_ble_eq_true rfl, Nat.le_of_ble_eq_true rfl⟩ ⟨hc, hs⟩ rfl (Nat.le_of_ble_eq_true rfl) zm_2_103 rfl dL_law_188 (fun r9 g8 hp => ?_)
  obtain ⟨rfl, hM⟩ := hp
  obtain ⟨⟨fs2, h132⟩, hc3⟩ := hc2 g8 hM
  refine zr_aload_n X 2 dL_law_191 rfl rfl ?_
  refine zr_aload_n X 0 dL_law_192 rfl rfl ?_
  refine zr_iload_n X 3 dL_law_193 rfl rfl ?_
  refine zr_iconst X (v := 1) dL_law_194 (by decide) ?_
  refine zr_iadd X dL_law_195 ?_
  refine Z.2.1 _ _ _ _ _ _ (law_in (k := 1) (by omega) hL2 rfl) dL_law_196 ?_
  refine zr_aload_n X 0 dL_law_197 rfl rfl ?_
  refine zr_iload_n X 3 dL_law_198 rfl rfl ?_
  refine zr_iconst X (v := 2) dL_law_199 (by decide) ?_
  refine zr_iadd X dL_law_200 ?_
  refine Z.2.1 _ _ _ _ _ _ (law_in (k := 2) (by omega) hL2 rfl) dL_law_201 ?_
  refine zr_cVp X (As := [.int (xs (nI (4 * j) + 1).toNatClampNeg), .int (xs (nI (4 * j) + 2).toNatClampNeg)]) (rest := [.int r]) zc_X9_send 132 (show 132 < w.1 by rw [hw]; decide) h132 (q9 := _) rfl rfl hc3 ⟨Nat.le_of_ble_eq_true rfl, Nat.le_of_ble_eq_true rfl⟩ ⟨hc, hs⟩ rfl (Nat.le_of_ble_eq_true rfl) zm_4_0 rfl dL_law_202 (fun r9 g9 hp => ?_)
  obtain ⟨rfl, hI⟩ := hp
  exact zr_icmp_eq X (tgt := 736) dL_law_205 (by decide) (fun _ => k g9 hI) (fun q => absurd rfl q)
theorem law_rest {l : Launch} {D : va_G} {cy : Nat → ClassId} {w : zW} {f : zF} {B : Int} {b L : Nat} {xs : Nat → Int32} {nm : String} {G : zJ} {c9 l9 j : Nat} (Z : zLw l D cy b L xs nm G) (hw : w.1 = 139) (hc : c9 ≤ 600000) (hs : l9 ≤ 7302249) (hL2 : L ≤ 2048) (hj : 4 * j + 4 ≤ L) (hL : LI w cy f B) (hB : B ≤ 1000000000) (k : ∀ g : zF, LI w cy g (B + 60) → G (w, c9, l9) g [(0, .ref b), (1, .ref (w.2 0)), (2, .ref (w.2 132)), (3, .int (nI (4 * j)))] 736 []) : G (w, c9, l9) f [(0, .ref b), (1, .ref (w.2 0)), (2, .ref (w.2 132)), (3, .int (nI (4 * j)))] 210 [] := by
  have X := Z.1
  obtain ⟨fs0, h0⟩ := LI_0 hL
  obtain ⟨r, Mid, hc1, hc2⟩ := pair_rest (l := l) (D := D) (a := xs (nI (4 * j) + 1).toNatClampNeg) hw hL hB
  refine zr_aload_n X 1 dL_law_210 rfl rfl ?_
  refine zr_aload_n X 0 dL_law_211 rfl rfl ?_
  refine zr_iload_n X 3 dL_law_212 rfl rfl ?_
  refine zr_iconst X (v := 1) dL_law_213 (by decide) ?_
  refine zr_iadd X dL_law_214 ?_
  refine Z.2.1 _ _ _ _ _ _ (law_in (k := 1) (by omega) hL2 rfl) dL_law_215 ?_
  refine zr_cVp X (As := [.int (xs (nI (4 * j) + 1).toNatClampNeg)]) (rest := []) zc_X8_rest 0 (show 0 < w.1 by rw [hw]; decide) h0 (q9 := _) rfl rfl hc1 ⟨Nat.le_of_ble_eq_true rfl, Nat.le_of_ble_eq_true rfl⟩ ⟨hc, hs⟩ rfl (Nat.le_of_ble_eq_true rfl) zm_2_120 rfl dL_law_216 (fun r9 g8 hp => ?_)
  obtain ⟨rfl, hM⟩ := hp
  obtain ⟨⟨fs2, h132⟩, hc3⟩ := hc2 g8 hM
  refine zr_aload_n X 2 dL_law_219 rfl rfl ?_
  refine zr_aload_n X 0 dL_law_220 rfl rfl ?_
  refine zr_iload_n X 3 dL_law_221 rfl rfl ?_
  refine zr_iconst X (v := 1) dL_law_222 (by decide) ?_
  refine zr_iadd X dL_law_223 ?_
  refine Z.2.1 _ _ _ _ _ _ (law_in (k := 1) (by omega) hL2 rfl) dL_law_224 ?_
  refine zr_cVp X (As := [.int (xs (nI (4 * j) + 1).toNatClampNeg)]) (rest := [.int r]) zc_X9_rest 132 (show 132 < w.1 by rw [hw]; decide) h132 (q9 := _) rfl rfl hc3 ⟨Nat.le_of_ble_eq_true rfl, Nat.le_of_ble_eq_true rfl⟩ ⟨hc, hs⟩ rfl (Nat.le_of_ble_eq_true rfl) zm_4_17 rfl dL_law_225 (fun r9 g9 hp => ?_)
  obtain ⟨rfl, hI⟩ := hp
  exact zr_icmp_eq X (tgt := 736) dL_law_228 (by decide) (fun _ => k g9 hI) (fun q => absurd rfl q)
theorem law_pay {l : Launch} {D : va_G} {cy : Nat → ClassId} {w : zW} {f : zF} {B : Int} {b L : Nat} {xs : Nat → Int32} {nm : String} {G : zJ} {c9 l9 j : Nat} (Z : zLw l D cy b L xs nm G) (hw : w.1 = 139) (hc : c9 ≤ 600000) (hs : l9 ≤ 7302249) (hL2 : L ≤ 2048) (hj : 4 * j + 4 ≤ L) (hL : LI w cy f B) (hB : B ≤ 1000000000) (k : ∀ g : zF, LI w cy g (B + 60) → G (w, c9, l9) g [(0, .ref b), (1, .ref (w.2 0)), (2, .ref (w.2 132)), (3, .int (nI (4 * j)))] 736 []) : G (w, c9, l9) f [(0, .ref b), (1, .ref (w.2 0)), (2, .ref (w.2 132)), (3, .int (nI (4 * j)))] 233 [] := by
  have X := Z.1
  obtain ⟨fs0, h0⟩ := LI_0 hL
  obtain ⟨r, Mid, hc1, hc2⟩ := pair_pay (l := l) (D := D) (a := xs (nI (4 * j) + 1).toNatClampNeg) hw hL hB
  refine zr_aload_n X 1 dL_law_233 rfl rfl ?_
  refine zr_aload_n X 0 dL_law_234 rfl rfl ?_
  refine zr_iload_n X 3 dL_law_235 rfl rfl ?_
  refine zr_iconst X (v := 1) dL_law_236 (by decide) ?_
  refine zr_iadd X dL_law_237 ?_
  refine Z.2.1 _ _ _ _ _ _ (law_in (k := 1) (by omega) hL2 rfl) dL_law_238 ?_
  refine zr_cVp X (As := [.int (xs (nI (4 * j) + 1).toNatClampNeg)]) (rest := []) zc_X8_pay 0 (show 0 < w.1 by rw [hw]; decide) h0 (q9 := _) rfl rfl hc1 ⟨Nat.le_of_ble_eq_true rfl, Nat.le_of_ble_eq_true rfl⟩ ⟨hc, hs⟩ rfl (Nat.le_of_ble_eq_true rfl) zm_2_128 rfl dL_law_239 (fun r9 g8 hp => ?_)
  obtain ⟨rfl, hM⟩ := hp
  obtain ⟨⟨fs2, h132⟩, hc3⟩ := hc2 g8 hM
  refine zr_aload_n X 2 dL_law_242 rfl rfl ?_
  refine zr_aload_n X 0 dL_law_243 rfl rfl ?_
  refine zr_iload_n X 3 dL_law_244 rfl rfl ?_
  refine zr_iconst X (v := 1) dL_law_245 (by decide) ?_
  refine zr_iadd X dL_law_246 ?_
  refine Z.2.1 _ _ _ _ _ _ (law_in (k := 1) (by omega) hL2 rfl) dL_law_247 ?_
  refine zr_cVp X (As := [.int (xs (nI (4 * j) + 1).toNatClampNeg)]) (rest := [.int r]) zc_X9_pay 132 (show 132 < w.1 by rw [hw]; decide) h132 (q9 := _) rfl rfl hc3 ⟨Nat.le_of_ble_eq_true rfl, Nat.le_of_ble_eq_true rfl⟩ ⟨hc, hs⟩ rfl (Nat.le_of_ble_eq_true rfl) zm_4_21 rfl dL_law_248 (fun r9 g9 hp => ?_)
  obtain ⟨rfl, hI⟩ := hp
  exact zr_icmp_eq X (tgt := 736) dL_law_251 (by decide) (fun _ => k g9 hI) (fun q => absurd rfl q)
theorem law_group {l : Launch} {D : va_G} {cy : Nat → ClassId} {w : zW} {f : zF} {B : Int} {b L : Nat} {xs : Nat → Int32} {nm : String} {G : zJ} {c9 l9 j : Nat} (Z : zLw l D cy b L xs nm G) (hw : w.1 = 139) (hc : c9 ≤ 600000) (hs : l9 ≤ 7302249) (hL2 : L ≤ 2048) (hj : 4 * j + 4 ≤ L) (hL : LI w cy f B) (hB : B ≤ 1000000000) (k : ∀ g : zF, LI w cy g (B + 60) → G (w, c9, l9) g [(0, .ref b), (1, .ref (w.2 0)), (2, .ref (w.2 132)), (3, .int (nI (4 * j)))] 736 []) : G (w, c9, l9) f [(0, .ref b), (1, .ref (w.2 0)), (2, .ref (w.2 132)), (3, .int (nI (4 * j)))] 256 [] := by
  have X := Z.1
  obtain ⟨fs0, h0⟩ := LI_0 hL
  obtain ⟨r, Mid, hc1, hc2⟩ := pair_group (l := l) (D := D) (a := xs (nI (4 * j) + 1).toNatClampNeg) (c := xs (nI (4 * j) + 2).toNatClampNeg) (e := xs (nI (4 * j) + 3).toNatClampNeg) hw hL hB
  refine zr_aload_n X 1 dL_law_256 rfl rfl ?_
  refine zr_aload_n X 0 dL_law_257 rfl rfl ?_
  refine zr_iload_n X 3 dL_law_258 rfl rfl ?_
  refine zr_iconst X (v := 1) dL_law_259 (by decide) ?_
  refine zr_iadd X dL_law_260 ?_
  refine Z.2.1 _ _ _ _ _ _ (law_in (k := 1) (by omega) hL2 rfl) dL_law_261 ?_
  refine zr_aload_n X 0 dL_law_262 rfl rfl ?_
  refine zr_iload_n X 3 dL_law_263 rfl rfl ?_
  refine zr_iconst X (v := 2) dL_law_264 (by decide) ?_
  refine zr_iadd X dL_law_265 ?_
  refine Z.2.1 _ _ _ _ _ _ (law_in (k := 2) (by omega) hL2 rfl) dL_law_266 ?_
  refine zr_aload_n X 0 dL_law_267 rfl rfl ?_
  refine zr_iload_n X 3 dL_law_268 rfl rfl ?_
  refine zr_iconst X (v := 3) dL_law_269 (by decide) ?_
  refine zr_iadd X dL_law_270 ?_
  refine Z.2.1 _ _ _ _ _ _ (law_in (k := 3) (by omega) hL2 rfl) dL_law_271 ?_
  refine zr_cVp X (As := [.int (xs (nI (4 * j) + 1).toNatClampNeg), .int (xs (nI (4 * j) + 2).toNatClampNeg), .int (xs (nI (4 * j) + 3).toNatClampNeg)]) (rest := []) zc_X8_group 0 (show 0 < w.1 by rw [hw]; decide) h0 (q9 := _) rfl rfl hc1 ⟨Nat.le_of_ble_eq_true rfl, Nat.le_of_ble_eq_true rfl⟩ ⟨hc, hs⟩ rfl (Nat.le_of_ble_eq_true rfl) zm_2_136 rfl dL_law_272 (fun r9 g8 hp => ?_)
  obtain ⟨rfl, hM⟩ := hp
  obtain ⟨⟨fs2, h132⟩, hc3⟩ := hc2 g8 hM
  refine zr_aload_n X 2 dL_law_275 rfl rfl ?_
  refine zr_aload_n X 0 dL_law_276 rfl rfl ?_
  refine zr_iload_n X 3 dL_law_277 rfl rfl ?_
  refine zr_iconst X (v := 1) dL_law_278 (by decide) ?_
  refine zr_iadd X dL_law_279 ?_
  refine Z.2.1 _ _ _ _ _ _ (law_in (k := 1) (by omega) hL2 rfl) dL_law_280 ?_
  refine zr_aload_n X 0 dL_law_281 rfl rfl ?_
  refine zr_iload_n X 3 dL_law_282 rfl rfl ?_
  refine zr_iconst X (v := 2) dL_law_283 (by decide) ?_
  refine zr_iadd X dL_law_284 ?_
  refine Z.2.1 _ _ _ _ _ _ (law_in (k := 2) (by omega) hL2 rfl) dL_law_285 ?_
  refine zr_aload_n X 0 dL_law_286 rfl rfl ?_
  refine zr_iload_n X 3 dL_law_287 rfl rfl ?_
  refine zr_iconst X (v := 3) dL_law_288 (by decide) ?_
  refine zr_iadd X dL_law_289 ?_
  refine Z.2.1 _ _ _ _ _ _ (law_in (k := 3) (by omega) hL2 rfl) dL_law_290 ?_
  refine zr_cVp X (As := [.int (xs (nI (4 * j) + 1).toNatClampNeg), .int (xs (nI (4 * j) + 2).toNatClampNeg), .int (xs (nI (4 * j) + 3).toNatClampNeg)]) (rest := [.int r]) zc_X9_group 132 (show 132 < w.1 by rw [hw]; decide) h132 (q9 := _) rfl rfl hc3 ⟨Nat.le_of_ble_eq_true rfl, Nat.le_of_ble_eq_true rfl⟩ ⟨hc, hs⟩ rfl (Nat.le_of_ble_eq_true rfl) zm_4_25 rfl dL_law_291 (fun r9 g9 hp => ?_)
  obtain ⟨rfl, hI⟩ := hp
  exact zr_icmp_eq X (tgt := 736) dL_law_294 (by decide) (fun _ => k g9 hI) (fun q => absurd rfl q)
theorem law_off {l : Launch} {D : va_G} {cy : Nat → ClassId} {w : zW} {f : zF} {B : Int} {b L : Nat} {xs : Nat → Int32} {nm : String} {G : zJ} {c9 l9 j : Nat} (Z : zLw l D cy b L xs nm G) (hw : w.1 = 139) (hc : c9 ≤ 600000) (hs : l9 ≤ 7302249) (hL2 : L ≤ 2048) (hj : 4 * j + 4 ≤ L) (hL : LI w cy f B) (hB : B ≤ 1000000000) (k : ∀ g : zF, LI w cy g (B + 60) → G (w, c9, l9) g [(0, .ref b), (1, .ref (w.2 0)), (2, .ref (w.2 132)), (3, .int (nI (4 * j)))] 736 []) : G (w, c9, l9) f [(0, .ref b), (1, .ref (w.2 0)), (2, .ref (w.2 132)), (3, .int (nI (4 * j)))] 299 [] := by
  have X := Z.1
  obtain ⟨fs0, h0⟩ := LI_0 hL
  obtain ⟨r, Mid, hc1, hc2⟩ := pair_off (l := l) (D := D) (a := xs (nI (4 * j) + 1).toNatClampNeg) hw hL hB
  refine zr_aload_n X 1 dL_law_299 rfl rfl ?_
  refine zr_aload_n X 0 dL_law_300 rfl rfl ?_
  refine zr_iload_n X 3 dL_law_301 rfl rfl ?_
  refine zr_iconst X (v := 1) dL_law_302 (by decide) ?_
  refine zr_iadd X dL_law_303 ?_
  refine Z.2.1 _ _ _ _ _ _ (law_in (k := 1) (by omega) hL2 rfl) dL_law_304 ?_
  refine zr_cVp X (As := [.int (xs (nI (4 * j) + 1).toNatClampNeg)]) (rest := []) zc_X8_off 0 (show 0 < w.1 by rw [hw]; decide) h0 (q9 := _) rfl rfl hc1 ⟨Nat.le_of_ble_eq_true rfl, Nat.le_of_ble_eq_true rfl⟩ ⟨hc, hs⟩ rfl (Nat.le_of_ble_eq_true rfl) zm_2_148 rfl dL_law_305 (fun r9 g8 hp => ?_)
  obtain ⟨rfl, hM⟩ := hp
  obtain ⟨⟨fs2, h132⟩, hc3⟩ := hc2 g8 hM
  refine zr_aload_n X 2 dL_law_308 rfl rfl ?_
  refine zr_aload_n X 0 dL_law_309 rfl rfl ?_
  refine zr_iload_n X 3 dL_law_310 rfl rfl ?_
  refine zr_iconst X (v := 1) dL_law_311 (by decide) ?_
  refine zr_iadd X dL_law_312 ?_
  refine Z.2.1 _ _ _ _ _ _ (law_in (k := 1) (by omega) hL2 rfl) dL_law_313 ?_
  refine zr_cVp X (As := [.int (xs (nI (4 * j) + 1).toNatClampNeg)]) (rest := [.int r]) zc_X9_off 132 (show 132 < w.1 by rw [hw]; decide) h132 (q9 := _) rfl rfl hc3 ⟨Nat.le_of_ble_eq_true rfl, Nat.le_of_ble_eq_true rfl⟩ ⟨hc, hs⟩ rfl (Nat.le_of_ble_eq_true rfl) zm_4_29 rfl dL_law_314 (fun r9 g9 hp => ?_)
  obtain ⟨rfl, hI⟩ := hp
  exact zr_icmp_eq X (tgt := 736) dL_law_317 (by decide) (fun _ => k g9 hI) (fun q => absurd rfl q)
theorem law_end {l : Launch} {D : va_G} {cy : Nat → ClassId} {w : zW} {f : zF} {B : Int} {b L : Nat} {xs : Nat → Int32} {nm : String} {G : zJ} {c9 l9 j : Nat} (Z : zLw l D cy b L xs nm G) (hw : w.1 = 139) (hc : c9 ≤ 600000) (hs : l9 ≤ 7302249) (hL2 : L ≤ 2048) (hj : 4 * j + 4 ≤ L) (hL : LI w cy f B) (hB : B ≤ 1000000000) (k : ∀ g : zF, LI w cy g (B + 60) → G (w, c9, l9) g [(0, .ref b), (1, .ref (w.2 0)), (2, .ref (w.2 132)), (3, .int (nI (4 * j)))] 736 []) : G (w, c9, l9) f [(0, .ref b), (1, .ref (w.2 0)), (2, .ref (w.2 132)), (3, .int (nI (4 * j)))] 322 [] := by
  have X := Z.1
  obtain ⟨fs0, h0⟩ := LI_0 hL
  obtain ⟨r, Mid, hc1, hc2⟩ := pair_end (l := l) (D := D) (a := xs (nI (4 * j) + 1).toNatClampNeg) hw hL hB
  refine zr_aload_n X 1 dL_law_322 rfl rfl ?_
  refine zr_aload_n X 0 dL_law_323 rfl rfl ?_
  refine zr_iload_n X 3 dL_law_324 rfl rfl ?_
  refine zr_iconst X (v := 1) dL_law_325 (by decide) ?_
  refine zr_iadd X dL_law_326 ?_
  refine Z.2.1 _ _ _ _ _ _ (law_in (k := 1) (by omega) hL2 rfl) dL_law_327 ?_
  refine zr_cVp X (As := [.int (xs (nI (4 * j) + 1).toNatClampNeg)]) (rest := []) zc_X8_end 0 (show 0 < w.1 by rw [hw]; decide) h0 (q9 := _) rfl rfl hc1 ⟨Nat.le_of_ble_eq_true rfl, Nat.le_of_ble_eq_true rfl⟩ ⟨hc, hs⟩ rfl (Nat.le_of_ble_eq_true rfl) zm_2_164 rfl dL_law_328 (fun r9 g8 hp => ?_)
  obtain ⟨rfl, hM⟩ := hp
  obtain ⟨⟨fs2, h132⟩, hc3⟩ := hc2 g8 hM
  refine zr_aload_n X 2 dL_law_331 rfl rfl ?_
  refine zr_aload_n X 0 dL_law_332 rfl rfl ?_
  refine zr_iload_n X 3 dL_law_333 rfl rfl ?_
  refine zr_iconst X (v := 1) dL_law_334 (by decide) ?_
  refine zr_iadd X dL_law_335 ?_
  refine Z.2.1 _ _ _ _ _ _ (law_in (k := 1) (by omega) hL2 rfl) dL_law_336 ?_
  refine zr_cVp X (As := [.int (xs (nI (4 * j) + 1).toNatClampNeg)]) (rest := [.int r]) zc_X9_end 132 (show 132 < w.1 by rw [hw]; decide) h132 (q9 := _) rfl rfl hc3 ⟨Nat.le_of_ble_eq_true rfl, Nat.le_of_ble_eq_true rfl⟩ ⟨hc, hs⟩ rfl (Nat.le_of_ble_eq_true rfl) zm_4_46 rfl dL_law_337 (fun r9 g9 hp => ?_)
  obtain ⟨rfl, hI⟩ := hp
  exact zr_icmp_eq X (tgt := 736) dL_law_340 (by decide) (fun _ => k g9 hI) (fun q => absurd rfl q)
theorem law_set {l : Launch} {D : va_G} {cy : Nat → ClassId} {w : zW} {f : zF} {B : Int} {b L : Nat} {xs : Nat → Int32} {nm : String} {G : zJ} {c9 l9 j : Nat} (Z : zLw l D cy b L xs nm G) (hw : w.1 = 139) (hc : c9 ≤ 600000) (hs : l9 ≤ 7302249) (hL2 : L ≤ 2048) (hj : 4 * j + 4 ≤ L) (hL : LI w cy f B) (hB : B ≤ 1000000000) (k : ∀ g : zF, LI w cy g (B + 60) → G (w, c9, l9) g [(0, .ref b), (1, .ref (w.2 0)), (2, .ref (w.2 132)), (3, .int (nI (4 * j)))] 736 []) : G (w, c9, l9) f [(0, .ref b), (1, .ref (w.2 0)), (2, .ref (w.2 132)), (3, .int (nI (4 * j)))] 345 [] := by
  have X := Z.1
  obtain ⟨fs0, h0⟩ := LI_0 hL
  obtain ⟨r, Mid, hc1, hc2⟩ := pair_set (l := l) (D := D) (a := xs (nI (4 * j) + 1).toNatClampNeg) (c := xs (nI (4 * j) + 2).toNatClampNeg) hw hL hB
  refine zr_aload_n X 1 dL_law_345 rfl rfl ?_
  refine zr_aload_n X 0 dL_law_346 rfl rfl ?_
  refine zr_iload_n X 3 dL_law_347 rfl rfl ?_
  refine zr_iconst X (v := 1) dL_law_348 (by decide) ?_
  refine zr_iadd X dL_law_349 ?_
  refine Z.2.1 _ _ _ _ _ _ (law_in (k := 1) (by omega) hL2 rfl) dL_law_350 ?_
  refine zr_aload_n X 0 dL_law_351 rfl rfl ?_
  refine zr_iload_n X 3 dL_law_352 rfl rfl ?_
  refine zr_iconst X (v := 2) dL_law_353 (by decide) ?_
  refine zr_iadd X dL_law_354 ?_
  refine Z.2.1 _ _ _ _ _ _ (law_in (k := 2) (by omega) hL2 rfl) dL_law_355 ?_
  refine zr_cVp X (As := [.int (xs (nI (4 * j) + 1).toNatClampNeg), .int (xs (nI (4 * j) + 2).toNatClampNeg)]) (rest := []) zc_X8_set 0 (show 0 < w.1 by rw [hw]; decide) h0 (q9 := _) rfl rfl hc1 ⟨Nat.le_of_ble_eq_true rfl, Nat.le_of_ble_eq_true rfl⟩ ⟨hc, hs⟩ rfl (Nat.le_of_ble_eq_true rfl) zm_2_223 rfl dL_law_356 (fun r9 g8 hp => ?_)
  obtain ⟨rfl, hM⟩ := hp
  obtain ⟨⟨fs2, h132⟩, hc3⟩ := hc2 g8 hM
  refine zr_aload_n X 2 dL_law_359 rfl rfl ?_
  refine zr_aload_n X 0 dL_law_360 rfl rfl ?_
  refine zr_iload_n X 3 dL_law_361 rfl rfl ?_
  refine zr_iconst X (v := 1) dL_law_362 (by decide) ?_
  refine zr_iadd X dL_law_363 ?_
  refine Z.2.1 _ _ _ _ _ _ (law_in (k := 1) (by omega) hL2 rfl) dL_law_364 ?_
  refine zr_aload_n X 0 dL_law_365 rfl rfl ?_
  refine zr_iload_n X 3 dL_law_366 rfl rfl ?_
  refine zr_iconst X (v := 2) dL_law_367 (by decide) ?_
  refine zr_iadd X dL_law_368 ?_
  refine Z.2.1 _ _ _ _ _ _ (law_in (k := 2) (by omega) hL2 rfl) dL_law_369 ?_
  refine zr_cVp X (As := [.int (xs (nI (4 * j) + 1).toNatClampNeg), .int (xs (nI (4 * j) + 2).toNatClampNeg)]) (rest := [.int r]) zc_X9_set 132 (show 132 < w.1 by rw [hw]; decide) h132 (q9 := _) rfl rfl hc3 ⟨Nat.le_of_ble_eq_true rfl, Nat.le_of_ble_eq_true rfl⟩ ⟨hc, hs⟩ rfl (Nat.le_of_ble_eq_true rfl) zm_4_100 rfl dL_law_370 (fun r9 g9 hp => ?_)
  obtain ⟨rfl, hI⟩ := hp
  exact zr_icmp_eq X (tgt := 736) dL_law_373 (by decide) (fun _ => k g9 hI) (fun q => absurd rfl q)
theorem law_muleOf {l : Launch} {D : va_G} {cy : Nat → ClassId} {w : zW} {f : zF} {B : Int} {b L : Nat} {xs : Nat → Int32} {nm : String} {G : zJ} {c9 l9 j : Nat} (Z : zLw l D cy b L xs nm G) (hw : w.1 = 139) (hc : c9 ≤ 600000) (hs : l9 ≤ 7302249) (hL2 : L ≤ 2048) (hj : 4 * j + 4 ≤ L) (hL : LI w cy f B) (hB : B ≤ 1000000000) (k : ∀ g : zF, LI w cy g (B + 60) → G (w, c9, l9) g [(0, .ref b), (1, .ref (w.2 0)), (2, .ref (w.2 132)), (3, .int (nI (4 * j)))] 736 []) : G (w, c9, l9) f [(0, .ref b), (1, .ref (w.2 0)), (2, .ref (w.2 132)), (3, .int (nI (4 * j)))] 378 [] := by
  have X := Z.1
  obtain ⟨fs0, h0⟩ := LI_0 hL
  obtain ⟨r, Mid, hc1, hc2⟩ := pair_muleOf (l := l) (D := D) (a := xs (nI (4 * j) + 1).toNatClampNeg) (c := xs (nI (4 * j) + 2).toNatClampNeg) hw hL hB
  refine zr_aload_n X 1 dL_law_378 rfl rfl ?_
  refine zr_aload_n X 0 dL_law_379 rfl rfl ?_
  refine zr_iload_n X 3 dL_law_380 rfl rfl ?_
  refine zr_iconst X (v := 1) dL_law_381 (by decide) ?_
  refine zr_iadd X dL_law_382 ?_
  refine Z.2.1 _ _ _ _ _ _ (law_in (k := 1) (by omega) hL2 rfl) dL_law_383 ?_
  refine zr_aload_n X 0 dL_law_384 rfl rfl ?_
  refine zr_iload_n X 3 dL_law_385 rfl rfl ?_
  refine zr_iconst X (v := 2) dL_law_386 (by decide) ?_
  refine zr_iadd X dL_law_387 ?_
  refine Z.2.1 _ _ _ _ _ _ (law_in (k := 2) (by omega) hL2 rfl) dL_law_388 ?_
  refine zr_cVp X (As := [.int (xs (nI (4 * j) + 1).toNatClampNeg), .int (xs (nI (4 * j) + 2).toNatClampNeg)]) (rest := []) zc_X8_muleOf 0 (show 0 < w.1 by rw [hw]; decide) h0 (q9 := _) rfl rfl hc1 ⟨Nat.le_of_ble_eq_true rfl, Nat.le_of_ble_eq_true rfl⟩ ⟨hc, hs⟩ rfl (Nat.le_of_ble_eq_true rfl) zm_3_1 rfl dL_law_389 (fun r9 g8 hp => ?_)
  obtain ⟨rfl, hM⟩ := hp
  obtain ⟨⟨fs2, h132⟩, hc3⟩ := hc2 g8 hM
  refine zr_aload_n X 2 dL_law_392 rfl rfl ?_
  refine zr_aload_n X 0 dL_law_393 rfl rfl ?_
  refine zr_iload_n X 3 dL_law_394 rfl rfl ?_
  refine zr_iconst X (v := 1) dL_law_395 (by decide) ?_
  refine zr_iadd X dL_law_396 ?_
  refine Z.2.1 _ _ _ _ _ _ (law_in (k := 1) (by omega) hL2 rfl) dL_law_397 ?_
  refine zr_aload_n X 0 dL_law_398 rfl rfl ?_
  refine zr_iload_n X 3 dL_law_399 rfl rfl ?_
  refine zr_iconst X (v := 2) dL_law_400 (by decide) ?_
  refine zr_iadd X dL_law_401 ?_
  refine Z.2.1 _ _ _ _ _ _ (law_in (k := 2) (by omega) hL2 rfl) dL_law_402 ?_
  refine zr_cVp X (As := [.int (xs (nI (4 * j) + 1).toNatClampNeg), .int (xs (nI (4 * j) + 2).toNatClampNeg)]) (rest := [.int r]) zc_X9_muleOf 132 (show 132 < w.1 by rw [hw]; decide) h132 (q9 := _) rfl rfl hc3 ⟨Nat.le_of_ble_eq_true rfl, Nat.le_of_ble_eq_true rfl⟩ ⟨hc, hs⟩ rfl (Nat.le_of_ble_eq_true rfl) zm_4_107 rfl dL_law_403 (fun r9 g9 hp => ?_)
  obtain ⟨rfl, hI⟩ := hp
  exact zr_icmp_eq X (tgt := 736) dL_law_406 (by decide) (fun _ => k g9 hI) (fun q => absurd rfl q)
theorem law_groupOf {l : Launch} {D : va_G} {cy : Nat → ClassId} {w : zW} {f : zF} {B : Int} {b L : Nat} {xs : Nat → Int32} {nm : String} {G : zJ} {c9 l9 j : Nat} (Z : zLw l D cy b L xs nm G) (hw : w.1 = 139) (hc : c9 ≤ 600000) (hs : l9 ≤ 7302249) (hL2 : L ≤ 2048) (hj : 4 * j + 4 ≤ L) (hL : LI w cy f B) (hB : B ≤ 1000000000) (k : ∀ g : zF, LI w cy g (B + 60) → G (w, c9, l9) g [(0, .ref b), (1, .ref (w.2 0)), (2, .ref (w.2 132)), (3, .int (nI (4 * j)))] 736 []) : G (w, c9, l9) f [(0, .ref b), (1, .ref (w.2 0)), (2, .ref (w.2 132)), (3, .int (nI (4 * j)))] 411 [] := by
  have X := Z.1
  obtain ⟨fs0, h0⟩ := LI_0 hL
  obtain ⟨r, Mid, hc1, hc2⟩ := pair_groupOf (l := l) (D := D) (a := xs (nI (4 * j) + 1).toNatClampNeg) (c := xs (nI (4 * j) + 2).toNatClampNeg) hw hL hB
  refine zr_aload_n X 1 dL_law_411 rfl rfl ?_
  refine zr_aload_n X 0 dL_law_412 rfl rfl ?_
  refine zr_iload_n X 3 dL_law_413 rfl rfl ?_
  refine zr_iconst X (v := 1) dL_law_414 (by decide) ?_
  refine zr_iadd X dL_law_415 ?_
  refine Z.2.1 _ _ _ _ _ _ (law_in (k := 1) (by omega) hL2 rfl) dL_law_416 ?_
  refine zr_aload_n X 0 dL_law_417 rfl rfl ?_
  refine zr_iload_n X 3 dL_law_418 rfl rfl ?_
  refine zr_iconst X (v := 2) dL_law_419 (by decide) ?_
  refine zr_iadd X dL_law_420 ?_
  refine Z.2.1 _ _ _ _ _ _ (law_in (k := 2) (by omega) hL2 rfl) dL_law_421 ?_
  refine zr_cVp X (As := [.int (xs (nI (4 * j) + 1).toNatClampNeg), .int (xs (nI (4 * j) + 2).toNatClampNeg)]) (rest := []) zc_X8_groupOf 0 (show 0 < w.1 by rw [hw]; decide) h0 (q9 := _) rfl rfl hc1 ⟨Nat.le_of_ble_eq_true rfl, Nat.le_of_ble_eq_true rfl⟩ ⟨hc, hs⟩ rfl (Nat.le_of_ble_eq_true rfl) zm_3_12 rfl dL_law_422 (fun r9 g8 hp => ?_)
  obtain ⟨rfl, hM⟩ := hp
  obtain ⟨⟨fs2, h132⟩, hc3⟩ := hc2 g8 hM
  refine zr_aload_n X 2 dL_law_425 rfl rfl ?_
  refine zr_aload_n X 0 dL_law_426 rfl rfl ?_
  refine zr_iload_n X 3 dL_law_427 rfl rfl ?_
  refine zr_iconst X (v := 1) dL_law_428 (by decide) ?_
  refine zr_iadd X dL_law_429 ?_
  refine Z.2.1 _ _ _ _ _ _ (law_in (k := 1) (by omega) hL2 rfl) dL_law_430 ?_
  refine zr_aload_n X 0 dL_law_431 rfl rfl ?_
  refine zr_iload_n X 3 dL_law_432 rfl rfl ?_
  refine zr_iconst X (v := 2) dL_law_433 (by decide) ?_
  refine zr_iadd X dL_law_434 ?_
  refine Z.2.1 _ _ _ _ _ _ (law_in (k := 2) (by omega) hL2 rfl) dL_law_435 ?_
  refine zr_cVp X (As := [.int (xs (nI (4 * j) + 1).toNatClampNeg), .int (xs (nI (4 * j) + 2).toNatClampNeg)]) (rest := [.int r]) zc_X9_groupOf 132 (show 132 < w.1 by rw [hw]; decide) h132 (q9 := _) rfl rfl hc3 ⟨Nat.le_of_ble_eq_true rfl, Nat.le_of_ble_eq_true rfl⟩ ⟨hc, hs⟩ rfl (Nat.le_of_ble_eq_true rfl) zm_4_111 rfl dL_law_436 (fun r9 g9 hp => ?_)
  obtain ⟨rfl, hI⟩ := hp
  exact zr_icmp_eq X (tgt := 736) dL_law_439 (by decide) (fun _ => k g9 hI) (fun q => absurd rfl q)
theorem law_number {l : Launch} {D : va_G} {cy : Nat → ClassId} {w : zW} {f : zF} {B : Int} {b L : Nat} {xs : Nat → Int32} {nm : String} {G : zJ} {c9 l9 j : Nat} (Z : zLw l D cy b L xs nm G) (hw : w.1 = 139) (hc : c9 ≤ 600000) (hs : l9 ≤ 7302249) (hL2 : L ≤ 2048) (hj : 4 * j + 4 ≤ L) (hL : LI w cy f B) (hB : B ≤ 1000000000) (k : ∀ g : zF, LI w cy g (B + 60) → G (w, c9, l9) g [(0, .ref b), (1, .ref (w.2 0)), (2, .ref (w.2 132)), (3, .int (nI (4 * j)))] 736 []) : G (w, c9, l9) f [(0, .ref b), (1, .ref (w.2 0)), (2, .ref (w.2 132)), (3, .int (nI (4 * j)))] 444 [] := by
  have X := Z.1
  obtain ⟨fs0, h0⟩ := LI_0 hL
  obtain ⟨r, Mid, hc1, hc2⟩ := pair_number (l := l) (D := D) (a := xs (nI (4 * j) + 1).toNatClampNeg) hw hL hB
  refine zr_aload_n X 1 dL_law_444 rfl rfl ?_
  refine zr_aload_n X 0 dL_law_445 rfl rfl ?_
  refine zr_iload_n X 3 dL_law_446 rfl rfl ?_
  refine zr_iconst X (v := 1) dL_law_447 (by decide) ?_
  refine zr_iadd X dL_law_448 ?_
  refine Z.2.1 _ _ _ _ _ _ (law_in (k := 1) (by omega) hL2 rfl) dL_law_449 ?_
  refine zr_cVp X (As := [.int (xs (nI (4 * j) + 1).toNatClampNeg)]) (rest := []) zc_X8_number 0 (show 0 < w.1 by rw [hw]; decide) h0 (q9 := _) rfl rfl hc1 ⟨Nat.le_of_ble_eq_true rfl, Nat.le_of_ble_eq_true rfl⟩ ⟨hc, hs⟩ rfl (Nat.le_of_ble_eq_true rfl) zm_3_25 rfl dL_law_450 (fun r9 g8 hp => ?_)
  obtain ⟨rfl, hM⟩ := hp
  obtain ⟨⟨fs2, h132⟩, hc3⟩ := hc2 g8 hM
  refine zr_aload_n X 2 dL_law_453 rfl rfl ?_
  refine zr_aload_n X 0 dL_law_454 rfl rfl ?_
  refine zr_iload_n X 3 dL_law_455 rfl rfl ?_
  refine zr_iconst X (v := 1) dL_law_456 (by decide) ?_
  refine zr_iadd X dL_law_457 ?_
  refine Z.2.1 _ _ _ _ _ _ (law_in (k := 1) (by omega) hL2 rfl) dL_law_458 ?_
  refine zr_cVp X (As := [.int (xs (nI (4 * j) + 1).toNatClampNeg)]) (rest := [.int r]) zc_X9_number 132 (show 132 < w.1 by rw [hw]; decide) h132 (q9 := _) rfl rfl hc3 ⟨Nat.le_of_ble_eq_true rfl, Nat.le_of_ble_eq_true rfl⟩ ⟨hc, hs⟩ rfl (Nat.le_of_ble_eq_true rfl) zm_4_115 rfl dL_law_459 (fun r9 g9 hp => ?_)
  obtain ⟨rfl, hI⟩ := hp
  exact zr_icmp_eq X (tgt := 736) dL_law_462 (by decide) (fun _ => k g9 hI) (fun q => absurd rfl q)
theorem law_loaves {l : Launch} {D : va_G} {cy : Nat → ClassId} {w : zW} {f : zF} {B : Int} {b L : Nat} {xs : Nat → Int32} {nm : String} {G : zJ} {c9 l9 j : Nat} (Z : zLw l D cy b L xs nm G) (hw : w.1 = 139) (hc : c9 ≤ 600000) (hs : l9 ≤ 7302249) (hL2 : L ≤ 2048) (hj : 4 * j + 4 ≤ L) (hL : LI w cy f B) (hB : B ≤ 1000000000) (k : ∀ g : zF, LI w cy g (B + 60) → G (w, c9, l9) g [(0, .ref b), (1, .ref (w.2 0)), (2, .ref (w.2 132)), (3, .int (nI (4 * j)))] 736 []) : G (w, c9, l9) f [(0, .ref b), (1, .ref (w.2 0)), (2, .ref (w.2 132)), (3, .int (nI (4 * j)))] 467 [] := by
  have X := Z.1
  obtain ⟨fs0, h0⟩ := LI_0 hL
  obtain ⟨r, Mid, hc1, hc2⟩ := pair_loaves (l := l) (D := D) (a := xs (nI (4 * j) + 1).toNatClampNeg) hw hL hB
  refine zr_aload_n X 1 dL_law_467 rfl rfl ?_
  refine zr_aload_n X 0 dL_law_468 rfl rfl ?_
  refine zr_iload_n X 3 dL_law_469 rfl rfl ?_
  refine zr_iconst X (v := 1) dL_law_470 (by decide) ?_
  refine zr_iadd X dL_law_471 ?_
  refine Z.2.1 _ _ _ _ _ _ (law_in (k := 1) (by omega) hL2 rfl) dL_law_472 ?_
  refine zr_cVp X (As := [.int (xs (nI (4 * j) + 1).toNatClampNeg)]) (rest := []) zc_X8_loaves 0 (show 0 < w.1 by rw [hw]; decide) h0 (q9 := _) rfl rfl hc1 ⟨Nat.le_of_ble_eq_true rfl, Nat.le_of_ble_eq_true rfl⟩ ⟨hc, hs⟩ rfl (Nat.le_of_ble_eq_true rfl) zm_3_30 rfl dL_law_473 (fun r9 g8 hp => ?_)
  obtain ⟨rfl, hM⟩ := hp
  obtain ⟨⟨fs2, h132⟩, hc3⟩ := hc2 g8 hM
  refine zr_aload_n X 2 dL_law_476 rfl rfl ?_
  refine zr_aload_n X 0 dL_law_477 rfl rfl ?_
  refine zr_iload_n X 3 dL_law_478 rfl rfl ?_
  refine zr_iconst X (v := 1) dL_law_479 (by decide) ?_
  refine zr_iadd X dL_law_480 ?_
  refine Z.2.1 _ _ _ _ _ _ (law_in (k := 1) (by omega) hL2 rfl) dL_law_481 ?_
  refine zr_cVp X (As := [.int (xs (nI (4 * j) + 1).toNatClampNeg)]) (rest := [.int r]) zc_X9_loaves 132 (show 132 < w.1 by rw [hw]; decide) h132 (q9 := _) rfl rfl hc3 ⟨Nat.le_of_ble_eq_true rfl, Nat.le_of_ble_eq_true rfl⟩ ⟨hc, hs⟩ rfl (Nat.le_of_ble_eq_true rfl) zm_4_119 rfl dL_law_482 (fun r9 g9 hp => ?_)
  obtain ⟨rfl, hI⟩ := hp
  exact zr_icmp_eq X (tgt := 736) dL_law_485 (by decide) (fun _ => k g9 hI) (fun q => absurd rfl q)
theorem law_why {l : Launch} {D : va_G} {cy : Nat → ClassId} {w : zW} {f : zF} {B : Int} {b L : Nat} {xs : Nat → Int32} {nm : String} {G : zJ} {c9 l9 j : Nat} (Z : zLw l D cy b L xs nm G) (hw : w.1 = 139) (hc : c9 ≤ 600000) (hs : l9 ≤ 7302249) (hL2 : L ≤ 2048) (hj : 4 * j + 4 ≤ L) (hL : LI w cy f B) (hB : B ≤ 1000000000) (k : ∀ g : zF, LI w cy g (B + 60) → G (w, c9, l9) g [(0, .ref b), (1, .ref (w.2 0)), (2, .ref (w.2 132)), (3, .int (nI (4 * j)))] 736 []) : G (w, c9, l9) f [(0, .ref b), (1, .ref (w.2 0)), (2, .ref (w.2 132)), (3, .int (nI (4 * j)))] 490 [] := by
  have X := Z.1
  obtain ⟨fs0, h0⟩ := LI_0 hL
  obtain ⟨r, Mid, hc1, hc2⟩ := pair_why (l := l) (D := D) (a := xs (nI (4 * j) + 1).toNatClampNeg) (c := xs (nI (4 * j) + 2).toNatClampNeg) hw hL hB
  refine zr_aload_n X 1 dL_law_490 rfl rfl ?_
  refine zr_aload_n X 0 dL_law_491 rfl rfl ?_
  refine zr_iload_n X 3 dL_law_492 rfl rfl ?_
  refine zr_iconst X (v := 1) dL_law_493 (by decide) ?_
  refine zr_iadd X dL_law_494 ?_
  refine Z.2.1 _ _ _ _ _ _ (law_in (k := 1) (by omega) hL2 rfl) dL_law_495 ?_
  refine zr_aload_n X 0 dL_law_496 rfl rfl ?_
  refine zr_iload_n X 3 dL_law_497 rfl rfl ?_
  refine zr_iconst X (v := 2) dL_law_498 (by decide) ?_
  refine zr_iadd X dL_law_499 ?_
  refine Z.2.1 _ _ _ _ _ _ (law_in (k := 2) (by omega) hL2 rfl) dL_law_500 ?_
  refine zr_cVp X (As := [.int (xs (nI (4 * j) + 1).toNatClampNeg), .int (xs (nI (4 * j) + 2).toNatClampNeg)]) (rest := []) zc_X8_why 0 (show 0 < w.1 by rw [hw]; decide) h0 (q9 := _) rfl rfl hc1 ⟨Nat.le_of_ble_eq_true rfl, Nat.le_of_ble_eq_true rfl⟩ ⟨hc, hs⟩ rfl (Nat.le_of_ble_eq_true rfl) zm_3_36 rfl dL_law_501 (fun r9 g8 hp => ?_)
  obtain ⟨rfl, hM⟩ := hp
  obtain ⟨⟨fs2, h132⟩, hc3⟩ := hc2 g8 hM
  refine zr_aload_n X 2 dL_law_504 rfl rfl ?_
  refine zr_aload_n X 0 dL_law_505 rfl rfl ?_
  refine zr_iload_n X 3 dL_law_506 rfl rfl ?_
  refine zr_iconst X (v := 1) dL_law_507 (by decide) ?_
  refine zr_iadd X dL_law_508 ?_
  refine Z.2.1 _ _ _ _ _ _ (law_in (k := 1) (by omega) hL2 rfl) dL_law_509 ?_
  refine zr_aload_n X 0 dL_law_510 rfl rfl ?_
  refine zr_iload_n X 3 dL_law_511 rfl rfl ?_
  refine zr_iconst X (v := 2) dL_law_512 (by decide) ?_
  refine zr_iadd X dL_law_513 ?_
  refine Z.2.1 _ _ _ _ _ _ (law_in (k := 2) (by omega) hL2 rfl) dL_law_514 ?_
  refine zr_cVp X (As := [.int (xs (nI (4 * j) + 1).toNatClampNeg), .int (xs (nI (4 * j) + 2).toNatClampNeg)]) (rest := [.int r]) zc_X9_why 132 (show 132 < w.1 by rw [hw]; decide) h132 (q9 := _) rfl rfl hc3 ⟨Nat.le_of_ble_eq_true rfl, Nat.le_of_ble_eq_true rfl⟩ ⟨hc, hs⟩ rfl (Nat.le_of_ble_eq_true rfl) zm_4_123 rfl dL_law_515 (fun r9 g9 hp => ?_)
  obtain ⟨rfl, hI⟩ := hp
  exact zr_icmp_eq X (tgt := 736) dL_law_518 (by decide) (fun _ => k g9 hI) (fun q => absurd rfl q)
theorem law_wanted {l : Launch} {D : va_G} {cy : Nat → ClassId} {w : zW} {f : zF} {B : Int} {b L : Nat} {xs : Nat → Int32} {nm : String} {G : zJ} {c9 l9 j : Nat} (Z : zLw l D cy b L xs nm G) (hw : w.1 = 139) (hc : c9 ≤ 600000) (hs : l9 ≤ 7302249) (hL2 : L ≤ 2048) (hj : 4 * j + 4 ≤ L) (hL : LI w cy f B) (hB : B ≤ 1000000000) (k : ∀ g : zF, LI w cy g (B + 60) → G (w, c9, l9) g [(0, .ref b), (1, .ref (w.2 0)), (2, .ref (w.2 132)), (3, .int (nI (4 * j)))] 736 []) : G (w, c9, l9) f [(0, .ref b), (1, .ref (w.2 0)), (2, .ref (w.2 132)), (3, .int (nI (4 * j)))] 523 [] := by
  have X := Z.1
  obtain ⟨fs0, h0⟩ := LI_0 hL
  obtain ⟨r, Mid, hc1, hc2⟩ := pair_wanted (l := l) (D := D) (a := xs (nI (4 * j) + 1).toNatClampNeg) hw hL hB
  refine zr_aload_n X 1 dL_law_523 rfl rfl ?_
  refine zr_aload_n X 0 dL_law_524 rfl rfl ?_
  refine zr_iload_n X 3 dL_law_525 rfl rfl ?_
  refine zr_iconst X (v := 1) dL_law_526 (by decide) ?_
  refine zr_iadd X dL_law_527 ?_
  refine Z.2.1 _ _ _ _ _ _ (law_in (k := 1) (by omega) hL2 rfl) dL_law_528 ?_
  refine zr_cVp X (As := [.int (xs (nI (4 * j) + 1).toNatClampNeg)]) (rest := []) zc_X8_wanted 0 (show 0 < w.1 by rw [hw]; decide) h0 (q9 := _) rfl rfl hc1 ⟨Nat.le_of_ble_eq_true rfl, Nat.le_of_ble_eq_true rfl⟩ ⟨hc, hs⟩ rfl (Nat.le_of_ble_eq_true rfl) zm_3_41 rfl dL_law_529 (fun r9 g8 hp => ?_)
  obtain ⟨rfl, hM⟩ := hp
  obtain ⟨⟨fs2, h132⟩, hc3⟩ := hc2 g8 hM
  refine zr_aload_n X 2 dL_law_532 rfl rfl ?_
  refine zr_aload_n X 0 dL_law_533 rfl rfl ?_
  refine zr_iload_n X 3 dL_law_534 rfl rfl ?_
  refine zr_iconst X (v := 1) dL_law_535 (by decide) ?_
  refine zr_iadd X dL_law_536 ?_
  refine Z.2.1 _ _ _ _ _ _ (law_in (k := 1) (by omega) hL2 rfl) dL_law_537 ?_
  refine zr_cVp X (As := [.int (xs (nI (4 * j) + 1).toNatClampNeg)]) (rest := [.int r]) zc_X9_wanted 132 (show 132 < w.1 by rw [hw]; decide) h132 (q9 := _) rfl rfl hc3 ⟨Nat.le_of_ble_eq_true rfl, Nat.le_of_ble_eq_true rfl⟩ ⟨hc, hs⟩ rfl (Nat.le_of_ble_eq_true rfl) zm_4_127 rfl dL_law_538 (fun r9 g9 hp => ?_)
  obtain ⟨rfl, hI⟩ := hp
  exact zr_icmp_eq X (tgt := 736) dL_law_541 (by decide) (fun _ => k g9 hI) (fun q => absurd rfl q)
theorem law_hungry {l : Launch} {D : va_G} {cy : Nat → ClassId} {w : zW} {f : zF} {B : Int} {b L : Nat} {xs : Nat → Int32} {nm : String} {G : zJ} {c9 l9 j : Nat} (Z : zLw l D cy b L xs nm G) (hw : w.1 = 139) (hc : c9 ≤ 600000) (hs : l9 ≤ 7302249) (hL2 : L ≤ 2048) (hj : 4 * j + 4 ≤ L) (hL : LI w cy f B) (hB : B ≤ 1000000000) (k : ∀ g : zF, LI w cy g (B + 60) → G (w, c9, l9) g [(0, .ref b), (1, .ref (w.2 0)), (2, .ref (w.2 132)), (3, .int (nI (4 * j)))] 736 []) : G (w, c9, l9) f [(0, .ref b), (1, .ref (w.2 0)), (2, .ref (w.2 132)), (3, .int (nI (4 * j)))] 546 [] := by
  have X := Z.1
  obtain ⟨fs0, h0⟩ := LI_0 hL
  obtain ⟨r, Mid, hc1, hc2⟩ := pair_hungry (l := l) (D := D) hw hL hB
  refine zr_aload_n X 1 dL_law_546 rfl rfl ?_
  refine zr_cVp X (As := []) (rest := []) zc_X8_hungry 0 (show 0 < w.1 by rw [hw]; decide) h0 (q9 := _) rfl rfl hc1 ⟨Nat.le_of_ble_eq_true rfl, Nat.le_of_ble_eq_true rfl⟩ ⟨hc, hs⟩ rfl (Nat.le_of_ble_eq_true rfl) zm_3_49 rfl dL_law_547 (fun r9 g8 hp => ?_)
  obtain ⟨rfl, hM⟩ := hp
  obtain ⟨⟨fs2, h132⟩, hc3⟩ := hc2 g8 hM
  refine zr_aload_n X 2 dL_law_550 rfl rfl ?_
  refine zr_cVp X (As := []) (rest := [.int r]) zc_X9_hungry 132 (show 132 < w.1 by rw [hw]; decide) h132 (q9 := _) rfl rfl hc3 ⟨Nat.le_of_ble_eq_true rfl, Nat.le_of_ble_eq_true rfl⟩ ⟨hc, hs⟩ rfl (Nat.le_of_ble_eq_true rfl) zm_4_131 rfl dL_law_551 (fun r9 g9 hp => ?_)
  obtain ⟨rfl, hI⟩ := hp
  exact zr_icmp_eq X (tgt := 736) dL_law_554 (by decide) (fun _ => k g9 hI) (fun q => absurd rfl q)
theorem law_next {l : Launch} {D : va_G} {cy : Nat → ClassId} {w : zW} {f : zF} {B : Int} {b L : Nat} {xs : Nat → Int32} {nm : String} {G : zJ} {c9 l9 j : Nat} (Z : zLw l D cy b L xs nm G) (hw : w.1 = 139) (hc : c9 ≤ 600000) (hs : l9 ≤ 7302249) (hL2 : L ≤ 2048) (hj : 4 * j + 4 ≤ L) (hL : LI w cy f B) (hB : B ≤ 1000000000) (k : ∀ g : zF, LI w cy g (B + 60) → G (w, c9, l9) g [(0, .ref b), (1, .ref (w.2 0)), (2, .ref (w.2 132)), (3, .int (nI (4 * j)))] 736 []) : G (w, c9, l9) f [(0, .ref b), (1, .ref (w.2 0)), (2, .ref (w.2 132)), (3, .int (nI (4 * j)))] 559 [] := by
  have X := Z.1
  obtain ⟨fs0, h0⟩ := LI_0 hL
  obtain ⟨r, Mid, hc1, hc2⟩ := pair_next (l := l) (D := D) (a := xs (nI (4 * j) + 1).toNatClampNeg) hw hL hB
  refine zr_aload_n X 1 dL_law_559 rfl rfl ?_
  refine zr_aload_n X 0 dL_law_560 rfl rfl ?_
  refine zr_iload_n X 3 dL_law_561 rfl rfl ?_
  refine zr_iconst X (v := 1) dL_law_562 (by decide) ?_
  refine zr_iadd X dL_law_563 ?_
  refine Z.2.1 _ _ _ _ _ _ (law_in (k := 1) (by omega) hL2 rfl) dL_law_564 ?_
  refine zr_cVp X (As := [.int (xs (nI (4 * j) + 1).toNatClampNeg)]) (rest := []) zc_X8_next 0 (show 0 < w.1 by rw [hw]; decide) h0 (q9 := _) rfl rfl hc1 ⟨Nat.le_of_ble_eq_true rfl, Nat.le_of_ble_eq_true rfl⟩ ⟨hc, hs⟩ rfl (Nat.le_of_ble_eq_true rfl) zm_3_54 rfl dL_law_565 (fun r9 g8 hp => ?_)
  obtain ⟨rfl, hM⟩ := hp
  obtain ⟨⟨fs2, h132⟩, hc3⟩ := hc2 g8 hM
  refine zr_aload_n X 2 dL_law_568 rfl rfl ?_
  refine zr_aload_n X 0 dL_law_569 rfl rfl ?_
  refine zr_iload_n X 3 dL_law_570 rfl rfl ?_
  refine zr_iconst X (v := 1) dL_law_571 (by decide) ?_
  refine zr_iadd X dL_law_572 ?_
  refine Z.2.1 _ _ _ _ _ _ (law_in (k := 1) (by omega) hL2 rfl) dL_law_573 ?_
  refine zr_cVp X (As := [.int (xs (nI (4 * j) + 1).toNatClampNeg)]) (rest := [.int r]) zc_X9_next 132 (show 132 < w.1 by rw [hw]; decide) h132 (q9 := _) rfl rfl hc3 ⟨Nat.le_of_ble_eq_true rfl, Nat.le_of_ble_eq_true rfl⟩ ⟨hc, hs⟩ rfl (Nat.le_of_ble_eq_true rfl) zm_4_138 rfl dL_law_574 (fun r9 g9 hp => ?_)
  obtain ⟨rfl, hI⟩ := hp
  exact zr_icmp_eq X (tgt := 736) dL_law_577 (by decide) (fun _ => k g9 hI) (fun q => absurd rfl q)
theorem law_would {l : Launch} {D : va_G} {cy : Nat → ClassId} {w : zW} {f : zF} {B : Int} {b L : Nat} {xs : Nat → Int32} {nm : String} {G : zJ} {c9 l9 j : Nat} (Z : zLw l D cy b L xs nm G) (hw : w.1 = 139) (hc : c9 ≤ 600000) (hs : l9 ≤ 7302249) (hL2 : L ≤ 2048) (hj : 4 * j + 4 ≤ L) (hL : LI w cy f B) (hB : B ≤ 1000000000) (k : ∀ g : zF, LI w cy g (B + 60) → G (w, c9, l9) g [(0, .ref b), (1, .ref (w.2 0)), (2, .ref (w.2 132)), (3, .int (nI (4 * j)))] 736 []) : G (w, c9, l9) f [(0, .ref b), (1, .ref (w.2 0)), (2, .ref (w.2 132)), (3, .int (nI (4 * j)))] 582 [] := by
  have X := Z.1
  obtain ⟨fs0, h0⟩ := LI_0 hL
  obtain ⟨r, Mid, hc1, hc2⟩ := pair_would (l := l) (D := D) (a := xs (nI (4 * j) + 1).toNatClampNeg) (c := xs (nI (4 * j) + 2).toNatClampNeg) hw hL hB
  refine zr_aload_n X 1 dL_law_582 rfl rfl ?_
  refine zr_aload_n X 0 dL_law_583 rfl rfl ?_
  refine zr_iload_n X 3 dL_law_584 rfl rfl ?_
  refine zr_iconst X (v := 1) dL_law_585 (by decide) ?_
  refine zr_iadd X dL_law_586 ?_
  refine Z.2.1 _ _ _ _ _ _ (law_in (k := 1) (by omega) hL2 rfl) dL_law_587 ?_
  refine zr_aload_n X 0 dL_law_588 rfl rfl ?_
  refine zr_iload_n X 3 dL_law_589 rfl rfl ?_
  refine zr_iconst X (v := 2) dL_law_590 (by decide) ?_
  refine zr_iadd X dL_law_591 ?_
  refine Z.2.1 _ _ _ _ _ _ (law_in (k := 2) (by omega) hL2 rfl) dL_law_592 ?_
  refine zr_cVp X (As := [.int (xs (nI (4 * j) + 1).toNatClampNeg), .int (xs (nI (4 * j) + 2).toNatClampNeg)]) (rest := []) zc_X8_would 0 (show 0 < w.1 by rw [hw]; decide) h0 (q9 := _) rfl rfl hc1 ⟨Nat.le_of_ble_eq_true rfl, Nat.le_of_ble_eq_true rfl⟩ ⟨hc, hs⟩ rfl (Nat.le_of_ble_eq_true rfl) zm_3_71 rfl dL_law_593 (fun r9 g8 hp => ?_)
  obtain ⟨rfl, hM⟩ := hp
  obtain ⟨⟨fs2, h132⟩, hc3⟩ := hc2 g8 hM
  refine zr_aload_n X 2 dL_law_596 rfl rfl ?_
  refine zr_aload_n X 0 dL_law_597 rfl rfl ?_
  refine zr_iload_n X 3 dL_law_598 rfl rfl ?_
  refine zr_iconst X (v := 1) dL_law_599 (by decide) ?_
  refine zr_iadd X dL_law_600 ?_
  refine Z.2.1 _ _ _ _ _ _ (law_in (k := 1) (by omega) hL2 rfl) dL_law_601 ?_
  refine zr_aload_n X 0 dL_law_602 rfl rfl ?_
  refine zr_iload_n X 3 dL_law_603 rfl rfl ?_
  refine zr_iconst X (v := 2) dL_law_604 (by decide) ?_
  refine zr_iadd X dL_law_605 ?_
  refine Z.2.1 _ _ _ _ _ _ (law_in (k := 2) (by omega) hL2 rfl) dL_law_606 ?_
  refine zr_cVp X (As := [.int (xs (nI (4 * j) + 1).toNatClampNeg), .int (xs (nI (4 * j) + 2).toNatClampNeg)]) (rest := [.int r]) zc_X9_would 132 (show 132 < w.1 by rw [hw]; decide) h132 (q9 := _) rfl rfl hc3 ⟨Nat.le_of_ble_eq_true rfl, Nat.le_of_ble_eq_true rfl⟩ ⟨hc, hs⟩ rfl (Nat.le_of_ble_eq_true rfl) zm_4_146 rfl dL_law_607 (fun r9 g9 hp => ?_)
  obtain ⟨rfl, hI⟩ := hp
  exact zr_icmp_eq X (tgt := 736) dL_law_610 (by decide) (fun _ => k g9 hI) (fun q => absurd rfl q)
theorem law_mean {l : Launch} {D : va_G} {cy : Nat → ClassId} {w : zW} {f : zF} {B : Int} {b L : Nat} {xs : Nat → Int32} {nm : String} {G : zJ} {c9 l9 j : Nat} (Z : zLw l D cy b L xs nm G) (hw : w.1 = 139) (hc : c9 ≤ 600000) (hs : l9 ≤ 7302249) (hL2 : L ≤ 2048) (hj : 4 * j + 4 ≤ L) (hL : LI w cy f B) (hB : B ≤ 1000000000) (k : ∀ g : zF, LI w cy g (B + 60) → G (w, c9, l9) g [(0, .ref b), (1, .ref (w.2 0)), (2, .ref (w.2 132)), (3, .int (nI (4 * j)))] 736 []) : G (w, c9, l9) f [(0, .ref b), (1, .ref (w.2 0)), (2, .ref (w.2 132)), (3, .int (nI (4 * j)))] 615 [] := by
  have X := Z.1
  obtain ⟨fs0, h0⟩ := LI_0 hL
  obtain ⟨r, Mid, hc1, hc2⟩ := pair_mean (l := l) (D := D) hw hL hB
  refine zr_aload_n X 1 dL_law_615 rfl rfl ?_
  refine zr_cVp X (As := []) (rest := []) zc_X8_mean 0 (show 0 < w.1 by rw [hw]; decide) h0 (q9 := _) rfl rfl hc1 ⟨Nat.le_of_ble_eq_true rfl, Nat.le_of_ble_eq_true rfl⟩ ⟨hc, hs⟩ rfl (Nat.le_of_ble_eq_true rfl) zm_3_79 rfl dL_law_616 (fun r9 g8 hp => ?_)
  obtain ⟨rfl, hM⟩ := hp
  obtain ⟨⟨fs2, h132⟩, hc3⟩ := hc2 g8 hM
  refine zr_aload_n X 2 dL_law_619 rfl rfl ?_
  refine zr_cVp X (As := []) (rest := [.int r]) zc_X9_mean 132 (show 132 < w.1 by rw [hw]; decide) h132 (q9 := _) rfl rfl hc3 ⟨Nat.le_of_ble_eq_true rfl, Nat.le_of_ble_eq_true rfl⟩ ⟨hc, hs⟩ rfl (Nat.le_of_ble_eq_true rfl) zm_4_150 rfl dL_law_620 (fun r9 g9 hp => ?_)
  obtain ⟨rfl, hI⟩ := hp
  exact zr_icmp_eq X (tgt := 736) dL_law_623 (by decide) (fun _ => k g9 hI) (fun q => absurd rfl q)
theorem law_count {l : Launch} {D : va_G} {cy : Nat → ClassId} {w : zW} {f : zF} {B : Int} {b L : Nat} {xs : Nat → Int32} {nm : String} {G : zJ} {c9 l9 j : Nat} (Z : zLw l D cy b L xs nm G) (hw : w.1 = 139) (hc : c9 ≤ 600000) (hs : l9 ≤ 7302249) (hL2 : L ≤ 2048) (hj : 4 * j + 4 ≤ L) (hL : LI w cy f B) (hB : B ≤ 1000000000) (k : ∀ g : zF, LI w cy g (B + 60) → G (w, c9, l9) g [(0, .ref b), (1, .ref (w.2 0)), (2, .ref (w.2 132)), (3, .int (nI (4 * j)))] 736 []) : G (w, c9, l9) f [(0, .ref b), (1, .ref (w.2 0)), (2, .ref (w.2 132)), (3, .int (nI (4 * j)))] 628 [] := by
  have X := Z.1
  obtain ⟨fs0, h0⟩ := LI_0 hL
  obtain ⟨r, Mid, hc1, hc2⟩ := pair_count (l := l) (D := D) (a := xs (nI (4 * j) + 1).toNatClampNeg) hw hL hB
  refine zr_aload_n X 1 dL_law_628 rfl rfl ?_
  refine zr_aload_n X 0 dL_law_629 rfl rfl ?_
  refine zr_iload_n X 3 dL_law_630 rfl rfl ?_
  refine zr_iconst X (v := 1) dL_law_631 (by decide) ?_
  refine zr_iadd X dL_law_632 ?_
  refine Z.2.1 _ _ _ _ _ _ (law_in (k := 1) (by omega) hL2 rfl) dL_law_633 ?_
  refine zr_cVp X (As := [.int (xs (nI (4 * j) + 1).toNatClampNeg)]) (rest := []) zc_X8_count 0 (show 0 < w.1 by rw [hw]; decide) h0 (q9 := _) rfl rfl hc1 ⟨Nat.le_of_ble_eq_true rfl, Nat.le_of_ble_eq_true rfl⟩ ⟨hc, hs⟩ rfl (Nat.le_of_ble_eq_true rfl) zm_3_91 rfl dL_law_634 (fun r9 g8 hp => ?_)
  obtain ⟨rfl, hM⟩ := hp
  obtain ⟨⟨fs2, h132⟩, hc3⟩ := hc2 g8 hM
  refine zr_aload_n X 2 dL_law_637 rfl rfl ?_
  refine zr_aload_n X 0 dL_law_638 rfl rfl ?_
  refine zr_iload_n X 3 dL_law_639 rfl rfl ?_
  refine zr_iconst X (v := 1) dL_law_640 (by decide) ?_
  refine zr_iadd X dL_law_641 ?_
  refine Z.2.1 _ _ _ _ _ _ (law_in (k := 1) (by omega) hL2 rfl) dL_law_642 ?_
  refine zr_cVp X (As := [.int (xs (nI (4 * j) + 1).toNatClampNeg)]) (rest := [.int r]) zc_X9_count 132 (show 132 < w.1 by rw [hw]; decide) h132 (q9 := _) rfl rfl hc3 ⟨Nat.le_of_ble_eq_true rfl, Nat.le_of_ble_eq_true rfl⟩ ⟨hc, hs⟩ rfl (Nat.le_of_ble_eq_true rfl) zm_4_164 rfl dL_law_643 (fun r9 g9 hp => ?_)
  obtain ⟨rfl, hI⟩ := hp
  exact zr_icmp_eq X (tgt := 736) dL_law_646 (by decide) (fun _ => k g9 hI) (fun q => absurd rfl q)
theorem law_undo {l : Launch} {D : va_G} {cy : Nat → ClassId} {w : zW} {f : zF} {B : Int} {b L : Nat} {xs : Nat → Int32} {nm : String} {G : zJ} {c9 l9 j : Nat} (Z : zLw l D cy b L xs nm G) (hw : w.1 = 139) (hc : c9 ≤ 600000) (hs : l9 ≤ 7302249) (hL2 : L ≤ 2048) (hj : 4 * j + 4 ≤ L) (hL : LI w cy f B) (hB : B ≤ 1000000000) (k : ∀ g : zF, LI w cy g (B + 60) → G (w, c9, l9) g [(0, .ref b), (1, .ref (w.2 0)), (2, .ref (w.2 132)), (3, .int (nI (4 * j)))] 736 []) : G (w, c9, l9) f [(0, .ref b), (1, .ref (w.2 0)), (2, .ref (w.2 132)), (3, .int (nI (4 * j)))] 651 [] := by
  have X := Z.1
  obtain ⟨fs0, h0⟩ := LI_0 hL
  obtain ⟨r, Mid, hc1, hc2⟩ := pair_undo (l := l) (D := D) hw hL hB
  refine zr_aload_n X 1 dL_law_651 rfl rfl ?_
  refine zr_cVp X (As := []) (rest := []) zc_X8_undo 0 (show 0 < w.1 by rw [hw]; decide) h0 (q9 := _) rfl rfl hc1 ⟨Nat.le_of_ble_eq_true rfl, Nat.le_of_ble_eq_true rfl⟩ ⟨hc, hs⟩ rfl (Nat.le_of_ble_eq_true rfl) zm_3_104 rfl dL_law_652 (fun r9 g8 hp => ?_)
  obtain ⟨rfl, hM⟩ := hp
  obtain ⟨⟨fs2, h132⟩, hc3⟩ := hc2 g8 hM
  refine zr_aload_n X 2 dL_law_655 rfl rfl ?_
  refine zr_cVp X (As := []) (rest := [.int r]) zc_X9_undo 132 (show 132 < w.1 by rw [hw]; decide) h132 (q9 := _) rfl rfl hc3 ⟨Nat.le_of_ble_eq_true rfl, Nat.le_of_ble_eq_true rfl⟩ ⟨hc, hs⟩ rfl (Nat.le_of_ble_eq_true rfl) zm_4_172 rfl dL_law_656 (fun r9 g9 hp => ?_)
  obtain ⟨rfl, hI⟩ := hp
  exact zr_icmp_eq X (tgt := 736) dL_law_659 (by decide) (fun _ => k g9 hI) (fun q => absurd rfl q)
theorem law_type {l : Launch} {D : va_G} {cy : Nat → ClassId} {w : zW} {f : zF} {B : Int} {b L : Nat} {xs : Nat → Int32} {nm : String} {G : zJ} {c9 l9 j : Nat} (Z : zLw l D cy b L xs nm G) (hw : w.1 = 139) (hc : c9 ≤ 600000) (hs : l9 ≤ 7302249) (hL2 : L ≤ 2048) (hj : 4 * j + 4 ≤ L) (hL : LI w cy f B) (hB : B ≤ 1000000000) (k : ∀ g : zF, LI w cy g (B + 60) → G (w, c9, l9) g [(0, .ref b), (1, .ref (w.2 0)), (2, .ref (w.2 132)), (3, .int (nI (4 * j)))] 736 []) : G (w, c9, l9) f [(0, .ref b), (1, .ref (w.2 0)), (2, .ref (w.2 132)), (3, .int (nI (4 * j)))] 664 [] := by
  have X := Z.1
  obtain ⟨fs0, h0⟩ := LI_0 hL
  obtain ⟨r, Mid, hc1, hc2⟩ := pair_type (l := l) (D := D) (a := xs (nI (4 * j) + 1).toNatClampNeg) hw hL hB
  refine zr_aload_n X 1 dL_law_664 rfl rfl ?_
  refine zr_aload_n X 0 dL_law_665 rfl rfl ?_
  refine zr_iload_n X 3 dL_law_666 rfl rfl ?_
  refine zr_iconst X (v := 1) dL_law_667 (by decide) ?_
  refine zr_iadd X dL_law_668 ?_
  refine Z.2.1 _ _ _ _ _ _ (law_in (k := 1) (by omega) hL2 rfl) dL_law_669 ?_
  refine zr_cVp X (As := [.int (xs (nI (4 * j) + 1).toNatClampNeg)]) (rest := []) zc_X8_type 0 (show 0 < w.1 by rw [hw]; decide) h0 (q9 := _) rfl rfl hc1 ⟨Nat.le_of_ble_eq_true rfl, Nat.le_of_ble_eq_true rfl⟩ ⟨hc, hs⟩ rfl (Nat.le_of_ble_eq_true rfl) zm_3_113 rfl dL_law_670 (fun r9 g8 hp => ?_)
  obtain ⟨rfl, hM⟩ := hp
  obtain ⟨⟨fs2, h132⟩, hc3⟩ := hc2 g8 hM
  refine zr_aload_n X 2 dL_law_673 rfl rfl ?_
  refine zr_aload_n X 0 dL_law_674 rfl rfl ?_
  refine zr_iload_n X 3 dL_law_675 rfl rfl ?_
  refine zr_iconst X (v := 1) dL_law_676 (by decide) ?_
  refine zr_iadd X dL_law_677 ?_
  refine Z.2.1 _ _ _ _ _ _ (law_in (k := 1) (by omega) hL2 rfl) dL_law_678 ?_
  refine zr_cVp X (As := [.int (xs (nI (4 * j) + 1).toNatClampNeg)]) (rest := [.int r]) zc_X9_type 132 (show 132 < w.1 by rw [hw]; decide) h132 (q9 := _) rfl rfl hc3 ⟨Nat.le_of_ble_eq_true rfl, Nat.le_of_ble_eq_true rfl⟩ ⟨hc, hs⟩ rfl (Nat.le_of_ble_eq_true rfl) zm_4_176 rfl dL_law_679 (fun r9 g9 hp => ?_)
  obtain ⟨rfl, hI⟩ := hp
  exact zr_icmp_eq X (tgt := 736) dL_law_682 (by decide) (fun _ => k g9 hI) (fun q => absurd rfl q)
theorem law_clearText {l : Launch} {D : va_G} {cy : Nat → ClassId} {w : zW} {f : zF} {B : Int} {b L : Nat} {xs : Nat → Int32} {nm : String} {G : zJ} {c9 l9 j : Nat} (Z : zLw l D cy b L xs nm G) (hw : w.1 = 139) (hc : c9 ≤ 600000) (hs : l9 ≤ 7302249) (hL2 : L ≤ 2048) (hj : 4 * j + 4 ≤ L) (hL : LI w cy f B) (hB : B ≤ 1000000000) (k : ∀ g : zF, LI w cy g (B + 60) → G (w, c9, l9) g [(0, .ref b), (1, .ref (w.2 0)), (2, .ref (w.2 132)), (3, .int (nI (4 * j)))] 736 []) : G (w, c9, l9) f [(0, .ref b), (1, .ref (w.2 0)), (2, .ref (w.2 132)), (3, .int (nI (4 * j)))] 687 [] := by
  have X := Z.1
  obtain ⟨fs0, h0⟩ := LI_0 hL
  obtain ⟨r, Mid, hc1, hc2⟩ := pair_clearText (l := l) (D := D) hw hL hB
  refine zr_aload_n X 1 dL_law_687 rfl rfl ?_
  refine zr_cVp X (As := []) (rest := []) zc_X8_clearText 0 (show 0 < w.1 by rw [hw]; decide) h0 (q9 := _) rfl rfl hc1 ⟨Nat.le_of_ble_eq_true rfl, Nat.le_of_ble_eq_true rfl⟩ ⟨hc, hs⟩ rfl (Nat.le_of_ble_eq_true rfl) zm_3_122 rfl dL_law_688 (fun r9 g8 hp => ?_)
  obtain ⟨rfl, hM⟩ := hp
  obtain ⟨⟨fs2, h132⟩, hc3⟩ := hc2 g8 hM
  refine zr_aload_n X 2 dL_law_691 rfl rfl ?_
  refine zr_cVp X (As := []) (rest := [.int r]) zc_X9_clearText 132 (show 132 < w.1 by rw [hw]; decide) h132 (q9 := _) rfl rfl hc3 ⟨Nat.le_of_ble_eq_true rfl, Nat.le_of_ble_eq_true rfl⟩ ⟨hc, hs⟩ rfl (Nat.le_of_ble_eq_true rfl) zm_4_180 rfl dL_law_692 (fun r9 g9 hp => ?_)
  obtain ⟨rfl, hI⟩ := hp
  exact zr_icmp_eq X (tgt := 736) dL_law_695 (by decide) (fun _ => k g9 hI) (fun q => absurd rfl q)
theorem law_fault {l : Launch} {D : va_G} {cy : Nat → ClassId} {w : zW} {f : zF} {B : Int} {b L : Nat} {xs : Nat → Int32} {nm : String} {G : zJ} {c9 l9 j : Nat} (Z : zLw l D cy b L xs nm G) (hw : w.1 = 139) (hc : c9 ≤ 600000) (hs : l9 ≤ 7302249) (hL2 : L ≤ 2048) (hj : 4 * j + 4 ≤ L) (hL : LI w cy f B) (hB : B ≤ 1000000000) (k : ∀ g : zF, LI w cy g (B + 60) → G (w, c9, l9) g [(0, .ref b), (1, .ref (w.2 0)), (2, .ref (w.2 132)), (3, .int (nI (4 * j)))] 736 []) : G (w, c9, l9) f [(0, .ref b), (1, .ref (w.2 0)), (2, .ref (w.2 132)), (3, .int (nI (4 * j)))] 700 [] := by
  have X := Z.1
  obtain ⟨fs0, h0⟩ := LI_0 hL
  obtain ⟨r, Mid, hc1, hc2⟩ := pair_fault (l := l) (D := D) (a := xs (nI (4 * j) + 1).toNatClampNeg) hw hL hB
  refine zr_aload_n X 1 dL_law_700 rfl rfl ?_
  refine zr_aload_n X 0 dL_law_701 rfl rfl ?_
  refine zr_iload_n X 3 dL_law_702 rfl rfl ?_
  refine zr_iconst X (v := 1) dL_law_703 (by decide) ?_
  refine zr_iadd X dL_law_704 ?_
  refine Z.2.1 _ _ _ _ _ _ (law_in (k := 1) (by omega) hL2 rfl) dL_law_705 ?_
  refine zr_cVp X (As := [.int (xs (nI (4 * j) + 1).toNatClampNeg)]) (rest := []) zc_X8_fault 0 (show 0 < w.1 by rw [hw]; decide) h0 (q9 := _) rfl rfl hc1 ⟨Nat.le_of_ble_eq_true rfl, Nat.le_of_ble_eq_true rfl⟩ ⟨hc, hs⟩ rfl (Nat.le_of_ble_eq_true rfl) zm_3_130 rfl dL_law_706 (fun r9 g8 hp => ?_)
  obtain ⟨rfl, hM⟩ := hp
  obtain ⟨⟨fs2, h132⟩, hc3⟩ := hc2 g8 hM
  refine zr_aload_n X 2 dL_law_709 rfl rfl ?_
  refine zr_aload_n X 0 dL_law_710 rfl rfl ?_
  refine zr_iload_n X 3 dL_law_711 rfl rfl ?_
  refine zr_iconst X (v := 1) dL_law_712 (by decide) ?_
  refine zr_iadd X dL_law_713 ?_
  refine Z.2.1 _ _ _ _ _ _ (law_in (k := 1) (by omega) hL2 rfl) dL_law_714 ?_
  refine zr_cVp X (As := [.int (xs (nI (4 * j) + 1).toNatClampNeg)]) (rest := [.int r]) zc_X9_fault 132 (show 132 < w.1 by rw [hw]; decide) h132 (q9 := _) rfl rfl hc3 ⟨Nat.le_of_ble_eq_true rfl, Nat.le_of_ble_eq_true rfl⟩ ⟨hc, hs⟩ rfl (Nat.le_of_ble_eq_true rfl) zm_4_184 rfl dL_law_715 (fun r9 g9 hp => ?_)
  obtain ⟨rfl, hI⟩ := hp
  exact zr_icmp_eq X (tgt := 736) dL_law_718 (by decide) (fun _ => k g9 hI) (fun q => absurd rfl q)
theorem law_play {l : Launch} {D : va_G} {cy : Nat → ClassId} {w : zW} {f : zF} {B : Int} {b L : Nat} {xs : Nat → Int32} {nm : String} {G : zJ} {c9 l9 j : Nat} (Z : zLw l D cy b L xs nm G) (hw : w.1 = 139) (hc : c9 ≤ 600000) (hs : l9 ≤ 7302249) (hL2 : L ≤ 2048) (hj : 4 * j + 4 ≤ L) (hL : LI w cy f B) (hB : B ≤ 1000000000) (k : ∀ g : zF, LI w cy g (B + 60) → G (w, c9, l9) g [(0, .ref b), (1, .ref (w.2 0)), (2, .ref (w.2 132)), (3, .int (nI (4 * j)))] 736 []) : G (w, c9, l9) f [(0, .ref b), (1, .ref (w.2 0)), (2, .ref (w.2 132)), (3, .int (nI (4 * j)))] 723 [] := by
  have X := Z.1
  obtain ⟨fs0, h0⟩ := LI_0 hL
  obtain ⟨r, Mid, hc1, hc2⟩ := pair_play (l := l) (D := D) hw hL hB
  refine zr_aload_n X 1 dL_law_723 rfl rfl ?_
  refine zr_cVp X (As := []) (rest := []) zc_X8_play 0 (show 0 < w.1 by rw [hw]; decide) h0 (q9 := _) rfl rfl hc1 ⟨Nat.le_of_ble_eq_true rfl, Nat.le_of_ble_eq_true rfl⟩ ⟨hc, hs⟩ rfl (Nat.le_of_ble_eq_true rfl) zm_3_167 rfl dL_law_724 (fun r9 g8 hp => ?_)
  obtain ⟨rfl, hM⟩ := hp
  obtain ⟨⟨fs2, h132⟩, hc3⟩ := hc2 g8 hM
  refine zr_aload_n X 2 dL_law_727 rfl rfl ?_
  refine zr_cVp X (As := []) (rest := [.int r]) zc_X9_play 132 (show 132 < w.1 by rw [hw]; decide) h132 (q9 := _) rfl rfl hc3 ⟨Nat.le_of_ble_eq_true rfl, Nat.le_of_ble_eq_true rfl⟩ ⟨hc, hs⟩ rfl (Nat.le_of_ble_eq_true rfl) zm_4_220 rfl dL_law_728 (fun r9 g9 hp => ?_)
  obtain ⟨rfl, hI⟩ := hp
  exact zr_icmp_eq X (tgt := 736) dL_law_731 (by decide) (fun _ => k g9 hI) (fun q => absurd rfl q)
