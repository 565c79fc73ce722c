/-! THE LAW'S BODY -/
/-- its surroundings, its calls of cell, and its end -/
def zLw (l : Launch) (D : va_G) (cy : Nat → ClassId) (b : Nat) (nm : String) (G : zJ) : Prop :=
  zX l D cy RL cL_law 9 room_1 nm G ∧
  (∀ (κ : zκ) (f : zF) (ls : List (Nat × Value)) (pc : Nat) (rest : List Value) (K : Nat), K < 2147483648 → κ.2.1 ≤ 600000 → κ.2.2 ≤ 7302249 → (rest.map fun v => v.category).sum ≤ 8 → decode cL_law pc = .ok (.invokestatic 102, 3) → (∀ v, G κ f ls (pc + 3) (.int v :: rest)) → G κ f ls pc (.int (nI K) :: .ref b :: rest)) ∧
  (∀ (κ : zκ) (f : zF) (ls : List (Nat × Value)) (pc : Nat), κ.2.1 ≤ 600000 → κ.2.2 ≤ 7302249 → decode cL_law pc = .ok (.ireturn, 1) → G κ f ls pc [.int 1])
set_option maxHeartbeats 4000000 in
set_option maxRecDepth 100000 in
theorem law_1 {l : Launch} {D : va_G} {cy : Nat → ClassId} {w : zW} {b : Nat} {nm : String} {G : zJ} {c9 l9 : Nat} (Z : zLw l D cy b nm G) (hw : w.1 = 136) (hc : c9 ≤ 600000) (hs : l9 ≤ 7302249) : ∀ (m n : Nat) (g : zF) (s : Nat → Int32) (B : Int), n + m = 7 → LX w cy g B s → 0 ≤ B ∧ B + 120 * m ≤ 100000 → (∀ (g : zF) (s : Nat → Int32), LX w cy g (B + 120 * m) s → G (w, c9, l9) (lW cy g s) [(0, .ref (b)), (1, .ref (w.2 (0))), (2, .ref (w.2 (132))), (3, .ref (w.2 (133))), (4, .ref (w.2 (134))), (5, .ref (w.2 (135))), (6, .int (1)), (7, .int (nI 7))] 146 []) → G (w, c9, l9) (lW cy g s) [(0, .ref (b)), (1, .ref (w.2 (0))), (2, .ref (w.2 (132))), (3, .ref (w.2 (133))), (4, .ref (w.2 (134))), (5, .ref (w.2 (135))), (6, .int (1)), (7, .int (nI n))] 74 [] := by
  have X := Z.1
  intro m
  induction m with
  | zero =>
    intro n g s B hn hL hB k
    refine zr_iload X 7 dL_law_74 rfl ?_
    refine zr_bipush X (v := 7) dL_law_76 (by decide) ?_
    refine zr_icmp_ge X (tgt := 146) dL_law_78 (by decide) (fun _ => ?_) (fun h => False.elim (h (by rw [show n = 7 by omega]; decide)))
    rw [show n = 7 by omega]
    exact k _ _ (LX_mono hL (by omega))
  | succ m ih =>
    intro n g s B hn hL hB k
    refine zr_iload X 7 dL_law_74 rfl ?_
    refine zr_bipush X (v := 7) dL_law_76 (by decide) ?_
    refine zr_icmp_ge X (tgt := 146) dL_law_78 (by decide) (fun h => False.elim (nI_ge (show n < 7 by omega) (by decide) h)) (fun _ => ?_)
    refine zr_iload X 6 dL_law_81 rfl ?_
    refine zr_if_eq X (tgt := 146) dL_law_83 (by decide) (fun h => absurd h (by decide)) (fun _ => ?_)
    refine zr_aload_n X 1 dL_law_86 rfl rfl ?_
    refine zr_aload_n X 2 dL_law_87 rfl rfl ?_
    refine zr_aload_n X 3 dL_law_88 rfl rfl ?_
    refine zr_aload X 4 dL_law_89 rfl ?_
    refine zr_aload X 5 dL_law_91 rfl ?_
    refine zr_aload_n X 0 dL_law_93 rfl rfl ?_
    refine zr_iconst X (v := 1) dL_law_94 (by decide) ?_
    refine zr_iload X 7 dL_law_95 rfl ?_
    refine zr_iadd X dL_law_97 ?_
    rw [show (1 : Int32) + nI n = nI (1 + n) from nI_add 1 n]
    refine Z.2.1 (w, c9, l9) _ _ _ [.ref (w.2 (135)), .ref (w.2 (134)), .ref (w.2 (133)), .ref (w.2 (132)), .ref (w.2 (0))] (1 + n) (by omega) hc hs (Nat.le_of_ble_eq_true rfl) dL_law_98 (fun v1 => ?_)
    show G (w, c9, l9) (lW cy g s) [(0, .ref (b)), (1, .ref (w.2 (0))), (2, .ref (w.2 (132))), (3, .ref (w.2 (133))), (4, .ref (w.2 (134))), (5, .ref (w.2 (135))), (6, .int (1)), (7, .int (nI n))] 101 [.int v1, .ref (w.2 (135)), .ref (w.2 (134)), .ref (w.2 (133)), .ref (w.2 (132)), .ref (w.2 (0))]
    refine zr_ldc X zm_2_62 dL_law_101 ?_
    refine zr_iand X dL_law_103 ?_
    refine zr_sipush X (v := 192) dL_law_104 (by decide) ?_
    refine zr_idiv X dL_law_107 (by decide) ?_
    refine zr_sipush X (v := 192) dL_law_108 (by decide) ?_
    refine zr_imul X dL_law_111 ?_
    refine zr_iload X 7 dL_law_112 rfl ?_
    refine zr_iconst X (v := 2) dL_law_114 (by decide) ?_
    refine zr_icmp_ge X (tgt := 122) dL_law_115 (by decide) (fun h1 => ?_) (fun h2 => ?_)
    · refine zr_iload X 7 dL_law_122 rfl ?_
      refine zr_iconst X (v := 4) dL_law_124 (by decide) ?_
      refine zr_icmp_ge X (tgt := 132) dL_law_125 (by decide) (fun h3 => ?_) (fun h4 => ?_)
      · refine zr_bipush X (v := 13) dL_law_132 (by decide) ?_
        refine zr_iadd X dL_law_134 ?_
        refine zr_cSp X (As := [.ref (w.2 (0)), .ref (w.2 (132)), .ref (w.2 (133)), .ref (w.2 (134)), .ref (w.2 (135)), .int ((((v1 &&& 2147483647) / 192) * 192) + 13)]) (rest := []) zc_L_acts (kl_acts hw hL (by omega)) ⟨Nat.le_of_ble_eq_true rfl, Nat.le_of_ble_eq_true rfl⟩ ⟨hc, hs⟩ rfl (Nat.le_of_ble_eq_true rfl) zm_2_63 rfl dL_law_135 (fun r92 g92 hp92 => ?_)
        obtain ⟨rfl, s92, hL92, e92⟩ := hp92
        refine zcw (f2 := lW cy g92 s92) e92 ?_
        show G (w, c9, l9) (lW cy g92 s92) [(0, .ref (b)), (1, .ref (w.2 (0))), (2, .ref (w.2 (132))), (3, .ref (w.2 (133))), (4, .ref (w.2 (134))), (5, .ref (w.2 (135))), (6, .int (1)), (7, .int (nI n))] 138 [.int 1]
        refine zr_istore X (ls' := [(6, .int (1)), (0, .ref (b)), (1, .ref (w.2 (0))), (2, .ref (w.2 (132))), (3, .ref (w.2 (133))), (4, .ref (w.2 (134))), (5, .ref (w.2 (135))), (7, .int (nI n))]) dL_law_138 (by decide) rfl ?_
        refine zr_iinc X (v := nI (n + 1)) (ls' := [(7, .int (nI (n + 1))), (6, .int (1)), (0, .ref (b)), (1, .ref (w.2 (0))), (2, .ref (w.2 (132))), (3, .ref (w.2 (133))), (4, .ref (w.2 (134))), (5, .ref (w.2 (135)))]) 7 dL_law_140 rfl (zinc1 _) (by decide) rfl ?_
        refine zr_goto X (tgt := 74) dL_law_143 (by decide) ?_
        refine zr_loc X (ls' := [(0, .ref (b)), (1, .ref (w.2 (0))), (2, .ref (w.2 (132))), (3, .ref (w.2 (133))), (4, .ref (w.2 (134))), (5, .ref (w.2 (135))), (6, .int (1)), (7, .int (nI (n + 1)))]) [2, 3, 4, 5, 6, 7, 1, 0] rfl ?_
        exact ih (n + 1) _ _ (B + 120) (by omega) hL92 (by omega) (fun g s hq => k g s (LX_mono hq (by omega)))
      · refine zr_iconst X (v := 5) dL_law_128 (by decide) ?_
        refine zr_goto X (tgt := 134) dL_law_129 (by decide) ?_
        refine zr_iadd X dL_law_134 ?_
        refine zr_cSp X (As := [.ref (w.2 (0)), .ref (w.2 (132)), .ref (w.2 (133)), .ref (w.2 (134)), .ref (w.2 (135)), .int ((((v1 &&& 2147483647) / 192) * 192) + 5)]) (rest := []) zc_L_acts (kl_acts hw hL (by omega)) ⟨Nat.le_of_ble_eq_true rfl, Nat.le_of_ble_eq_true rfl⟩ ⟨hc, hs⟩ rfl (Nat.le_of_ble_eq_true rfl) zm_2_63 rfl dL_law_135 (fun r93 g93 hp93 => ?_)
        obtain ⟨rfl, s93, hL93, e93⟩ := hp93
        refine zcw (f2 := lW cy g93 s93) e93 ?_
        show G (w, c9, l9) (lW cy g93 s93) [(0, .ref (b)), (1, .ref (w.2 (0))), (2, .ref (w.2 (132))), (3, .ref (w.2 (133))), (4, .ref (w.2 (134))), (5, .ref (w.2 (135))), (6, .int (1)), (7, .int (nI n))] 138 [.int 1]
        refine zr_istore X (ls' := [(6, .int (1)), (0, .ref (b)), (1, .ref (w.2 (0))), (2, .ref (w.2 (132))), (3, .ref (w.2 (133))), (4, .ref (w.2 (134))), (5, .ref (w.2 (135))), (7, .int (nI n))]) dL_law_138 (by decide) rfl ?_
        refine zr_iinc X (v := nI (n + 1)) (ls' := [(7, .int (nI (n + 1))), (6, .int (1)), (0, .ref (b)), (1, .ref (w.2 (0))), (2, .ref (w.2 (132))), (3, .ref (w.2 (133))), (4, .ref (w.2 (134))), (5, .ref (w.2 (135)))]) 7 dL_law_140 rfl (zinc1 _) (by decide) rfl ?_
        refine zr_goto X (tgt := 74) dL_law_143 (by decide) ?_
        refine zr_loc X (ls' := [(0, .ref (b)), (1, .ref (w.2 (0))), (2, .ref (w.2 (132))), (3, .ref (w.2 (133))), (4, .ref (w.2 (134))), (5, .ref (w.2 (135))), (6, .int (1)), (7, .int (nI (n + 1)))]) [2, 3, 4, 5, 6, 7, 1, 0] rfl ?_
        exact ih (n + 1) _ _ (B + 120) (by omega) hL93 (by omega) (fun g s hq => k g s (LX_mono hq (by omega)))
    · refine zr_iconst X (v := 0) dL_law_118 (by decide) ?_
      refine zr_goto X (tgt := 134) dL_law_119 (by decide) ?_
      refine zr_iadd X dL_law_134 ?_
      refine zr_cSp X (As := [.ref (w.2 (0)), .ref (w.2 (132)), .ref (w.2 (133)), .ref (w.2 (134)), .ref (w.2 (135)), .int ((((v1 &&& 2147483647) / 192) * 192) + 0)]) (rest := []) zc_L_acts (kl_acts hw hL (by omega)) ⟨Nat.le_of_ble_eq_true rfl, Nat.le_of_ble_eq_true rfl⟩ ⟨hc, hs⟩ rfl (Nat.le_of_ble_eq_true rfl) zm_2_63 rfl dL_law_135 (fun r94 g94 hp94 => ?_)
      obtain ⟨rfl, s94, hL94, e94⟩ := hp94
      refine zcw (f2 := lW cy g94 s94) e94 ?_
      show G (w, c9, l9) (lW cy g94 s94) [(0, .ref (b)), (1, .ref (w.2 (0))), (2, .ref (w.2 (132))), (3, .ref (w.2 (133))), (4, .ref (w.2 (134))), (5, .ref (w.2 (135))), (6, .int (1)), (7, .int (nI n))] 138 [.int 1]
      refine zr_istore X (ls' := [(6, .int (1)), (0, .ref (b)), (1, .ref (w.2 (0))), (2, .ref (w.2 (132))), (3, .ref (w.2 (133))), (4, .ref (w.2 (134))), (5, .ref (w.2 (135))), (7, .int (nI n))]) dL_law_138 (by decide) rfl ?_
      refine zr_iinc X (v := nI (n + 1)) (ls' := [(7, .int (nI (n + 1))), (6, .int (1)), (0, .ref (b)), (1, .ref (w.2 (0))), (2, .ref (w.2 (132))), (3, .ref (w.2 (133))), (4, .ref (w.2 (134))), (5, .ref (w.2 (135)))]) 7 dL_law_140 rfl (zinc1 _) (by decide) rfl ?_
      refine zr_goto X (tgt := 74) dL_law_143 (by decide) ?_
      refine zr_loc X (ls' := [(0, .ref (b)), (1, .ref (w.2 (0))), (2, .ref (w.2 (132))), (3, .ref (w.2 (133))), (4, .ref (w.2 (134))), (5, .ref (w.2 (135))), (6, .int (1)), (7, .int (nI (n + 1)))]) [2, 3, 4, 5, 6, 7, 1, 0] rfl ?_
      exact ih (n + 1) _ _ (B + 120) (by omega) hL94 (by omega) (fun g s hq => k g s (LX_mono hq (by omega)))
set_option maxHeartbeats 4000000 in
set_option maxRecDepth 100000 in
theorem law_2 {l : Launch} {D : va_G} {cy : Nat → ClassId} {w : zW} {b : Nat} {nm : String} {G : zJ} {c9 l9 : Nat} (Z : zLw l D cy b nm G) (hw : w.1 = 136) (hc : c9 ≤ 600000) (hs : l9 ≤ 7302249) {T : Nat} (hT : T ≤ 76) : ∀ (m n : Nat) (g : zF) (s : Nat → Int32) (B : Int), n + m = T → LX w cy g B s → 0 ≤ B ∧ B + 120 * m ≤ 100000 → (∀ (g : zF) (s : Nat → Int32), LX w cy g (B + 120 * m) s → G (w, c9, l9) (lW cy g s) [(0, .ref (b)), (1, .ref (w.2 (0))), (2, .ref (w.2 (132))), (3, .ref (w.2 (133))), (4, .ref (w.2 (134))), (5, .ref (w.2 (135))), (6, .int (1)), (7, .int (nI T)), (8, .int (nI T))] 256 []) → G (w, c9, l9) (lW cy g s) [(0, .ref (b)), (1, .ref (w.2 (0))), (2, .ref (w.2 (132))), (3, .ref (w.2 (133))), (4, .ref (w.2 (134))), (5, .ref (w.2 (135))), (6, .int (1)), (7, .int (nI T)), (8, .int (nI n))] 189 [] := by
  have X := Z.1
  intro m
  induction m with
  | zero =>
    intro n g s B hn hL hB k
    refine zr_iload X 8 dL_law_189 rfl ?_
    refine zr_iload X 7 dL_law_191 rfl ?_
    refine zr_icmp_ge X (tgt := 256) dL_law_193 (by decide) (fun _ => ?_) (fun h => False.elim (h (by rw [show n = T by omega]; exact Int32.le_refl _)))
    rw [show n = T by omega]
    exact k _ _ (LX_mono hL (by omega))
  | succ m ih =>
    intro n g s B hn hL hB k
    refine zr_iload X 8 dL_law_189 rfl ?_
    refine zr_iload X 7 dL_law_191 rfl ?_
    refine zr_icmp_ge X (tgt := 256) dL_law_193 (by decide) (fun h => False.elim (nI_ge (show n < T by omega) (by omega) h)) (fun _ => ?_)
    refine zr_iload X 6 dL_law_196 rfl ?_
    refine zr_if_eq X (tgt := 256) dL_law_198 (by decide) (fun h => absurd h (by decide)) (fun _ => ?_)
    refine zr_aload_n X 1 dL_law_201 rfl rfl ?_
    refine zr_aload_n X 2 dL_law_202 rfl rfl ?_
    refine zr_aload_n X 3 dL_law_203 rfl rfl ?_
    refine zr_aload X 4 dL_law_204 rfl ?_
    refine zr_aload X 5 dL_law_206 rfl ?_
    refine zr_aload_n X 0 dL_law_208 rfl rfl ?_
    refine zr_bipush X (v := 8) dL_law_209 (by decide) ?_
    refine zr_iload X 8 dL_law_211 rfl ?_
    refine zr_iadd X dL_law_213 ?_
    rw [show (8 : Int32) + nI n = nI (8 + n) from nI_add 8 n]
    refine Z.2.1 (w, c9, l9) _ _ _ [.ref (w.2 (135)), .ref (w.2 (134)), .ref (w.2 (133)), .ref (w.2 (132)), .ref (w.2 (0))] (8 + n) (by omega) hc hs (Nat.le_of_ble_eq_true rfl) dL_law_214 (fun v1 => ?_)
    show G (w, c9, l9) (lW cy g s) [(0, .ref (b)), (1, .ref (w.2 (0))), (2, .ref (w.2 (132))), (3, .ref (w.2 (133))), (4, .ref (w.2 (134))), (5, .ref (w.2 (135))), (6, .int (1)), (7, .int (nI T)), (8, .int (nI n))] 217 [.int v1, .ref (w.2 (135)), .ref (w.2 (134)), .ref (w.2 (133)), .ref (w.2 (132)), .ref (w.2 (0))]
    refine zr_sipush X (v := 7919) dL_law_217 (by decide) ?_
    refine zr_iload X 8 dL_law_220 rfl ?_
    refine zr_imul X dL_law_222 ?_
    refine zr_ixor X dL_law_223 ?_
    refine zr_cSp X (As := [.ref (w.2 (0)), .ref (w.2 (132)), .ref (w.2 (133)), .ref (w.2 (134)), .ref (w.2 (135)), .int (v1 ^^^ (7919 * (nI n)))]) (rest := []) zc_L_acts (kl_acts hw hL (by omega)) ⟨Nat.le_of_ble_eq_true rfl, Nat.le_of_ble_eq_true rfl⟩ ⟨hc, hs⟩ rfl (Nat.le_of_ble_eq_true rfl) zm_2_63 rfl dL_law_224 (fun r92 g92 hp92 => ?_)
    obtain ⟨rfl, s92, hL92, e92⟩ := hp92
    refine zcw (f2 := lW cy g92 s92) e92 ?_
    show G (w, c9, l9) (lW cy g92 s92) [(0, .ref (b)), (1, .ref (w.2 (0))), (2, .ref (w.2 (132))), (3, .ref (w.2 (133))), (4, .ref (w.2 (134))), (5, .ref (w.2 (135))), (6, .int (1)), (7, .int (nI T)), (8, .int (nI n))] 227 [.int 1]
    refine zr_if_eq X (tgt := 247) dL_law_227 (by decide) (fun h => absurd h (by decide)) (fun _ => ?_)
    refine zr_aload_n X 1 dL_law_230 rfl rfl ?_
    refine zr_aload_n X 2 dL_law_231 rfl rfl ?_
    refine zr_aload_n X 3 dL_law_232 rfl rfl ?_
    refine zr_aload X 4 dL_law_233 rfl ?_
    refine zr_aload X 5 dL_law_235 rfl ?_
    obtain ⟨gs3, mc3, bk3, fr3, kn3⟩ := LX_kn hL92
    refine zr_cS X (As := [.ref (w.2 (0)), .ref (w.2 (132)), .ref (w.2 (133)), .ref (w.2 (134)), .ref (w.2 (135))]) (rest := []) (f' := lW cy g92 s92) (st' := [.int 1]) zc_L_isSo (kl_isSo hw hL92.1 kn3) ⟨Nat.le_of_ble_eq_true rfl, Nat.le_of_ble_eq_true rfl⟩ ⟨hc, hs⟩ rfl (Nat.le_of_ble_eq_true rfl) zm_3_38 rfl dL_law_237 rfl ?_
    refine zr_if_eq X (tgt := 247) dL_law_240 (by decide) (fun h => absurd h (by decide)) (fun _ => ?_)
    refine zr_iconst X (v := 1) dL_law_243 (by decide) ?_
    refine zr_goto X (tgt := 248) dL_law_244 (by decide) ?_
    refine zr_istore X (ls' := [(6, .int (1)), (0, .ref (b)), (1, .ref (w.2 (0))), (2, .ref (w.2 (132))), (3, .ref (w.2 (133))), (4, .ref (w.2 (134))), (5, .ref (w.2 (135))), (7, .int (nI T)), (8, .int (nI n))]) dL_law_248 (by decide) rfl ?_
    refine zr_iinc X (v := nI (n + 1)) (ls' := [(8, .int (nI (n + 1))), (6, .int (1)), (0, .ref (b)), (1, .ref (w.2 (0))), (2, .ref (w.2 (132))), (3, .ref (w.2 (133))), (4, .ref (w.2 (134))), (5, .ref (w.2 (135))), (7, .int (nI T))]) 8 dL_law_250 rfl (zinc1 _) (by decide) rfl ?_
    refine zr_goto X (tgt := 189) dL_law_253 (by decide) ?_
    refine zr_loc X (ls' := [(0, .ref (b)), (1, .ref (w.2 (0))), (2, .ref (w.2 (132))), (3, .ref (w.2 (133))), (4, .ref (w.2 (134))), (5, .ref (w.2 (135))), (6, .int (1)), (7, .int (nI T)), (8, .int (nI (n + 1)))]) [2, 3, 4, 5, 6, 7, 1, 8, 0] rfl ?_
    exact ih (n + 1) _ _ (B + 120) (by omega) hL92 (by omega) (fun g s hq => k g s (LX_mono hq (by omega)))
set_option maxHeartbeats 4000000 in
set_option maxRecDepth 100000 in
theorem law_3 {l : Launch} {D : va_G} {cy : Nat → ClassId} {w : zW} {b : Nat} {nm : String} {G : zJ} {c9 l9 : Nat} (Z : zLw l D cy b nm G) (hw : w.1 = 136) (hc : c9 ≤ 600000) (hs : l9 ≤ 7302249) {T n : Nat} {g : zF} {s : Nat → Int32} {B : Int} (hL : LX w cy g B s) : G (w, c9, l9) (lW cy g s) [(0, .ref (b)), (1, .ref (w.2 (0))), (2, .ref (w.2 (132))), (3, .ref (w.2 (133))), (4, .ref (w.2 (134))), (5, .ref (w.2 (135))), (6, .int (1)), (7, .int (nI T)), (8, .int (nI T))] 256 [] := by
  have X := Z.1
  refine zr_iload X 6 dL_law_256 rfl ?_
  refine zr_if_eq X (tgt := 286) dL_law_258 (by decide) (fun h => absurd h (by decide)) (fun _ => ?_)
  refine zr_aload_n X 1 dL_law_261 rfl rfl ?_
  refine zr_bipush X (v := 24) dL_law_262 (by decide) ?_
  obtain ⟨gs1, mc1, bk1, fr1, kn1⟩ := LX_kn hL
  obtain ⟨ra1, rb1, rc1, rd1, re1, rf1⟩ := kn1
  refine zr_cV X (As := [.int (24)]) (rest := []) (f' := lW cy g s) (st' := [.int (-1000001)]) zc_X8_count (0) (show 0 < w.1 by rw [hw]; decide) ((lW_lo (by decide)).trans (CX_0 hL.1)) (q9 := _) rfl rfl (cq_count mc1 fr1 ra1.s0.1 ra1.s0.2 re1 rf1 (by decide) hw (CX_lW hL.1)) ⟨Nat.le_of_ble_eq_true rfl, Nat.le_of_ble_eq_true rfl⟩ ⟨hc, hs⟩ rfl (Nat.le_of_ble_eq_true rfl) zm_2_26 rfl dL_law_264 rfl ?_
  refine zr_ldc X zm_2_142 dL_law_267 ?_
  refine zr_icmp_ne X (tgt := 286) dL_law_269 (by decide) (fun h => False.elim (h rfl)) (fun _ => ?_)
  refine zr_aload_n X 1 dL_law_272 rfl rfl ?_
  refine zr_iconst X (v := (-1)) dL_law_273 (by decide) ?_
  obtain ⟨gs2, mc2, bk2, fr2, kn2⟩ := LX_kn hL
  obtain ⟨ra2, rb2, rc2, rd2, re2, rf2⟩ := kn2
  refine zr_cV X (As := [.int ((-1))]) (rest := []) (f' := lW cy g s) (st' := [.int (-1000001)]) zc_X8_count (0) (show 0 < w.1 by rw [hw]; decide) ((lW_lo (by decide)).trans (CX_0 hL.1)) (q9 := _) rfl rfl (cq_count mc2 fr2 ra2.s0.1 ra2.s0.2 re2 rf2 (by decide) hw (CX_lW hL.1)) ⟨Nat.le_of_ble_eq_true rfl, Nat.le_of_ble_eq_true rfl⟩ ⟨hc, hs⟩ rfl (Nat.le_of_ble_eq_true rfl) zm_2_26 rfl dL_law_274 rfl ?_
  refine zr_ldc X zm_2_142 dL_law_277 ?_
  refine zr_icmp_ne X (tgt := 286) dL_law_279 (by decide) (fun h => False.elim (h rfl)) (fun _ => ?_)
  refine zr_iconst X (v := 1) dL_law_282 (by decide) ?_
  refine zr_goto X (tgt := 287) dL_law_283 (by decide) ?_
  exact Z.2.2 (w, c9, l9) _ _ _ hc hs dL_law_287
set_option maxHeartbeats 4000000 in
set_option maxRecDepth 100000 in
theorem law_4 {l : Launch} {D : va_G} {cy : Nat → ClassId} {w : zW} {b : Nat} {nm : String} {G : zJ} {c9 l9 : Nat} (Z : zLw l D cy b nm G) (hw : w.1 = 136) (hc : c9 ≤ 600000) (hs : l9 ≤ 7302249) {g : zF} {s : Nat → Int32} {B : Int} (hL : LX w cy g B s) (hB : 0 ≤ B ∧ B ≤ 50000) : G (w, c9, l9) (lW cy g s) [(0, .ref (b)), (1, .ref (w.2 (0))), (2, .ref (w.2 (132))), (3, .ref (w.2 (133))), (4, .ref (w.2 (134))), (5, .ref (w.2 (135))), (6, .int (1)), (7, .int (nI 7))] 146 [] := by
  have X := Z.1
  refine zr_iload X 6 dL_law_146 rfl ?_
  refine zr_if_eq X (tgt := 168) dL_law_148 (by decide) (fun h => absurd h (by decide)) (fun _ => ?_)
  refine zr_aload_n X 1 dL_law_151 rfl rfl ?_
  refine zr_aload_n X 2 dL_law_152 rfl rfl ?_
  refine zr_aload_n X 3 dL_law_153 rfl rfl ?_
  refine zr_aload X 4 dL_law_154 rfl ?_
  refine zr_aload X 5 dL_law_156 rfl ?_
  obtain ⟨gs1, mc1, bk1, fr1, kn1⟩ := LX_kn hL
  refine zr_cS X (As := [.ref (w.2 (0)), .ref (w.2 (132)), .ref (w.2 (133)), .ref (w.2 (134)), .ref (w.2 (135))]) (rest := []) (f' := lW cy g s) (st' := [.int 1]) zc_L_isSo (kl_isSo hw hL.1 kn1) ⟨Nat.le_of_ble_eq_true rfl, Nat.le_of_ble_eq_true rfl⟩ ⟨hc, hs⟩ rfl (Nat.le_of_ble_eq_true rfl) zm_3_38 rfl dL_law_158 rfl ?_
  refine zr_if_eq X (tgt := 168) dL_law_161 (by decide) (fun h => absurd h (by decide)) (fun _ => ?_)
  refine zr_iconst X (v := 1) dL_law_164 (by decide) ?_
  refine zr_goto X (tgt := 169) dL_law_165 (by decide) ?_
  refine zr_istore X (ls' := [(6, .int (1)), (0, .ref (b)), (1, .ref (w.2 (0))), (2, .ref (w.2 (132))), (3, .ref (w.2 (133))), (4, .ref (w.2 (134))), (5, .ref (w.2 (135))), (7, .int (nI 7))]) dL_law_169 (by decide) rfl ?_
  refine zr_bipush X (v := 16) dL_law_171 (by decide) ?_
  refine zr_aload_n X 1 dL_law_173 rfl rfl ?_
  refine zr_iconst X (v := 0) dL_law_174 (by decide) ?_
  refine Z.2.1 (w, c9, l9) _ _ _ [.int (16)] (0) (by omega) hc hs (Nat.le_of_ble_eq_true rfl) dL_law_175 (fun v2 => ?_)
  show G (w, c9, l9) (lW cy g s) [(6, .int (1)), (0, .ref (b)), (1, .ref (w.2 (0))), (2, .ref (w.2 (132))), (3, .ref (w.2 (133))), (4, .ref (w.2 (134))), (5, .ref (w.2 (135))), (7, .int (nI 7))] 178 [.int v2, .int (16)]
  refine zr_bipush X (v := 60) dL_law_178 (by decide) ?_
  refine zr_cS X (As := [.int (v2), .int (60)]) (rest := [.int (16)]) (f' := lW cy g s) (st' := [.int (lLow v2 60), .int (16)]) zc_L_low (kl_low (by decide)) ⟨Nat.le_of_ble_eq_true rfl, Nat.le_of_ble_eq_true rfl⟩ ⟨hc, hs⟩ rfl (Nat.le_of_ble_eq_true rfl) zm_2_59 rfl dL_law_180 rfl ?_
  refine zr_iadd X dL_law_183 ?_
  refine zr_istore X (ls' := [(7, .int (16 + (lLow v2 60))), (6, .int (1)), (0, .ref (b)), (1, .ref (w.2 (0))), (2, .ref (w.2 (132))), (3, .ref (w.2 (133))), (4, .ref (w.2 (134))), (5, .ref (w.2 (135)))]) dL_law_184 (by decide) rfl ?_
  obtain ⟨Y, hY, eY⟩ := low_n (v := v2) (n := 60) (by decide) (by decide)
  obtain ⟨T, hT⟩ : ∃ T, T = 16 + Y := ⟨_, rfl⟩
  rw [show (16 : Int32) + lLow v2 60 = nI T by rw [show lLow v2 60 = nI Y from eY, hT]; exact nI_add 16 Y]
  show G (w, c9, l9) (lW cy g s) [(7, .int (nI T)), (6, .int (1)), (0, .ref (b)), (1, .ref (w.2 (0))), (2, .ref (w.2 (132))), (3, .ref (w.2 (133))), (4, .ref (w.2 (134))), (5, .ref (w.2 (135)))] 186 []
  refine zr_iconst X (v := 0) dL_law_186 (by decide) ?_
  refine zr_istore X (ls' := [(8, .int (0)), (7, .int (nI T)), (6, .int (1)), (0, .ref (b)), (1, .ref (w.2 (0))), (2, .ref (w.2 (132))), (3, .ref (w.2 (133))), (4, .ref (w.2 (134))), (5, .ref (w.2 (135)))]) dL_law_187 (by decide) rfl ?_
  refine zr_loc X (ls' := [(0, .ref (b)), (1, .ref (w.2 (0))), (2, .ref (w.2 (132))), (3, .ref (w.2 (133))), (4, .ref (w.2 (134))), (5, .ref (w.2 (135))), (6, .int (1)), (7, .int (nI T)), (8, .int (0))]) [3, 4, 5, 6, 7, 8, 2, 1, 0] rfl ?_
  exact law_2 Z hw hc hs (T := T) (by omega) T 0 _ _ B (by omega) hL (by omega) (fun g s hq => law_3 Z hw hc hs (n := 0) hq)
set_option maxHeartbeats 4000000 in
set_option maxRecDepth 100000 in
theorem law_5 {l : Launch} {D : va_G} {cy : Nat → ClassId} {w : zW} {b : Nat} {nm : String} {G : zJ} {c9 l9 : Nat} (Z : zLw l D cy b nm G) (hw : w.1 = 136) (hc : c9 ≤ 600000) (hs : l9 ≤ 7302249) {F : zF} (hL : LX w cy F 0 s0L) : G (w, c9, l9) (lW cy F (fun _ => 0)) [(0, .ref (b)), (1, .ref (w.2 (0))), (2, .ref (w.2 (132))), (3, .ref (w.2 (133))), (4, .ref (w.2 (134))), (5, .ref (w.2 (135)))] 30 [] := by
  have X := Z.1
  refine zr_aload_n X 2 dL_law_30 rfl rfl ?_
  refine zr_iconst X (v := 4) dL_law_31 (by decide) ?_
  refine zr_iconst X (v := 1) dL_law_32 (by decide) ?_
  refine zr_lst X hw lr_g (4) (4) (rfl) (by decide) rfl dL_law_33 ?_
  refine zr_aload_n X 2 dL_law_34 rfl rfl ?_
  refine zr_bipush X (v := 15) dL_law_35 (by decide) ?_
  refine zr_iconst X (v := 2) dL_law_37 (by decide) ?_
  refine zr_lst X hw lr_g (15) (15) (rfl) (by decide) rfl dL_law_38 ?_
  refine zr_aload_n X 2 dL_law_39 rfl rfl ?_
  refine zr_bipush X (v := 16) dL_law_40 (by decide) ?_
  refine zr_bipush X (v := 100) dL_law_42 (by decide) ?_
  refine zr_lst X hw lr_g (16) (16) (rfl) (by decide) rfl dL_law_44 ?_
  refine zr_aload_n X 2 dL_law_45 rfl rfl ?_
  refine zr_bipush X (v := 17) dL_law_46 (by decide) ?_
  refine zr_iconst X (v := 3) dL_law_48 (by decide) ?_
  refine zr_lst X hw lr_g (17) (17) (rfl) (by decide) rfl dL_law_49 ?_
  refine zr_aload_n X 2 dL_law_50 rfl rfl ?_
  refine zr_bipush X (v := 18) dL_law_51 (by decide) ?_
  refine zr_bipush X (v := 10) dL_law_53 (by decide) ?_
  refine zr_lst X hw lr_g (18) (18) (rfl) (by decide) rfl dL_law_55 ?_
  refine zcw (f2 := lW cy F s0L) rfl ?_
  refine zr_aload_n X 1 dL_law_56 rfl rfl ?_
  refine zr_iconst X (v := 0) dL_law_57 (by decide) ?_
  obtain ⟨gs1, mc1, bk1, fr1, kn1⟩ := LX_kn hL
  obtain ⟨ra1, rb1, rc1, rd1, re1, rf1⟩ := kn1
  refine zr_cV X (As := [.int (0)]) (rest := []) (f' := lW cy F s0L) (st' := [.int (s0L 0)]) zc_X8_count (0) (show 0 < w.1 by rw [hw]; decide) ((lW_lo (by decide)).trans (CX_0 hL.1)) (q9 := _) rfl rfl (cq_count mc1 fr1 ra1.s0.1 ra1.s0.2 re1 rf1 (by decide) hw (CX_lW hL.1)) ⟨Nat.le_of_ble_eq_true rfl, Nat.le_of_ble_eq_true rfl⟩ ⟨hc, hs⟩ rfl (Nat.le_of_ble_eq_true rfl) zm_2_26 rfl dL_law_58 rfl ?_
  refine zr_if_ne X (tgt := 68) dL_law_61 (by decide) (fun h => False.elim (h (s0_0 (by decide) (by decide)))) (fun _ => ?_)
  refine zr_iconst X (v := 1) dL_law_64 (by decide) ?_
  refine zr_goto X (tgt := 69) dL_law_65 (by decide) ?_
  refine zr_istore X (ls' := [(6, .int (1)), (0, .ref (b)), (1, .ref (w.2 (0))), (2, .ref (w.2 (132))), (3, .ref (w.2 (133))), (4, .ref (w.2 (134))), (5, .ref (w.2 (135)))]) dL_law_69 (by decide) rfl ?_
  refine zr_iconst X (v := 0) dL_law_71 (by decide) ?_
  refine zr_istore X (ls' := [(7, .int (0)), (6, .int (1)), (0, .ref (b)), (1, .ref (w.2 (0))), (2, .ref (w.2 (132))), (3, .ref (w.2 (133))), (4, .ref (w.2 (134))), (5, .ref (w.2 (135)))]) dL_law_72 (by decide) rfl ?_
  refine zr_loc X (ls' := [(0, .ref (b)), (1, .ref (w.2 (0))), (2, .ref (w.2 (132))), (3, .ref (w.2 (133))), (4, .ref (w.2 (134))), (5, .ref (w.2 (135))), (6, .int (1)), (7, .int (0))]) [2, 3, 4, 5, 6, 7, 1, 0] rfl ?_
  exact law_1 Z hw hc hs 7 0 _ _ 0 (by omega) hL (by omega) (fun g s hq => law_4 Z hw hc hs hq (by omega))
theorem lc_0 {o n : Nat} : lc (fun _ => 0) o n = fun _ => 0 := by
  funext i
  unfold lc
  split <;> rfl
theorem ini_lW {cy : Nat → ClassId} {F : zF} : va_up (va_up (va_up (va_up F 132 (eInts cy 19 (fun _ => 0))) 133 (eInts cy 36 (fun _ => 0))) 134 (eInts cy 60 (fun _ => 0))) 135 (eInts cy 21 (fun _ => 0)) = lW cy F (fun _ => 0) := by
  funext t
  unfold lW
  rw [lc_0, lc_0, lc_0, lc_0]
  by_cases h1 : t = 132
  · subst h1
    rfl
  · rw [if_neg h1]
    by_cases h2 : t = 133
    · subst h2
      rfl
    · rw [if_neg h2]
      by_cases h3 : t = 134
      · subst h3
        rfl
      · rw [if_neg h3]
        by_cases h4 : t = 135
        · subst h4
          rfl
        · rw [if_neg h4, va_up_ne _ _ h4, va_up_ne _ _ h3, va_up_ne _ _ h2, va_up_ne _ _ h1]
theorem zsim_lW {cy : Nat → ClassId} {F F' : zF} {s : Nat → Int32} (h : ∀ t, zsim cy (F t) (F' t)) (t : Nat) : zsim cy (lW cy F s t) (lW cy F' s t) := by
  unfold lW
  split
  · exact .inl rfl
  · split
    · exact .inl rfl
    · split
      · exact .inl rfl
      · split
        · exact .inl rfl
        · exact h t
set_option maxHeartbeats 4000000 in
set_option maxRecDepth 100000 in
theorem law_entry {l : Launch} {D : va_G} {cy : Nat → ClassId} {b : Nat} {nm : String} {G : zJ} (Z : zLw l D cy b nm G) (w0 : zW) (hw0 : w0.1 = 0) (f0 : zF) : G (w0, 0, 0) f0 [(0, .ref b)] 0 [] := by
  have X := Z.1
  refine zr_new X (ci := 8) (fs := [.null, .null, .null, .null]) rfl zin_X8 tyX8_ok zm_1_11 zm_1_12 zm_1_1 (fun j hj => by match j, hj with | 0, _ => rfl | 1, _ => rfl | 2, _ => rfl | 3, _ => rfl) (Nat.le_of_ble_eq_true rfl) (Nat.le_of_ble_eq_true rfl) dL_law_0 (fun w1 hw1 gw1 => ?_)
  have nw1 : w1.1 = 1 := by have q : w1.1 = w0.1 + 1 := hw1; omega
  show G (w1, 1, 4) (va_up f0 w0.1 (.inr (8, [.null, .null, .null, .null]))) [(0, .ref b)] 3 [.ref (w1.2 w0.1)]
  rw [hw0]
  refine zr_dup X dL_law_3 rfl ?_
  refine zr_callI X (As := []) (rest := [.ref (w1.2 0)]) 0 (k_HutLoaves_init nw1 (va_up_self _ _ _)) zc_X8_init.2.2.2.2 zc_X8_init.1 zc_X8_init.2.1 ⟨Nat.le_of_ble_eq_true rfl, Nat.le_of_ble_eq_true rfl, Nat.le_of_ble_eq_true rfl, Nat.le_of_ble_eq_true rfl⟩ rfl (Nat.le_of_ble_eq_true rfl) zm_1_13 rfl zc_X8_init.2.2.1 rfl dL_law_4 (fun r9 u1 f9 hp => ?_)
  obtain ⟨rfl, hu1, gu1, rfl⟩ := hp
  have nu1 : u1.1 = 132 := by have q : u1.1 = w1.1 + 131 := hu1; omega
  have au1 : u1.2 0 = w1.2 0 := gu1 0 (by show 0 < w1.1; omega)
  show G (u1, 132, 1016) (cW4 u1 cy (va_up f0 0 (.inr (8, [.null, .null, .null, .null])))) [(0, .ref b)] 7 [.ref (w1.2 0)]
  rw [← au1]
  refine zr_astore_n X (ls' := [(1, .ref (u1.2 0)), (0, .ref b)]) dL_law_7 rfl (by decide) rfl ?_
  refine zr_bipush X (v := 19) dL_law_8 (by decide) ?_
  refine zr_newa X (atype := .int) (b := 0) (N' := 19) (ty := .int) (a0 := (19, .inl (fun _ => 0))) zw_ac_int rfl rfl (fun U cA h => h) (fun cA => rfl) (by decide) (by decide) (by decide) (Nat.le_of_ble_eq_true rfl) (Nat.le_of_ble_eq_true rfl) dL_law_10 (fun v1 hv1 gv1 => ?_)
  have nv1 : v1.1 = 133 := by have q : v1.1 = u1.1 + 1 := hv1; omega
  have av1 : ∀ i, i < 132 → v1.2 i = u1.2 i := fun i h => gv1 i (by show i < u1.1; omega)
  show G (v1, 133, 1035) (va_up (cW4 u1 cy (va_up f0 0 (.inr (8, [.null, .null, .null, .null])))) u1.1 (eInts cy 19 (fun _ => 0))) [(1, .ref (u1.2 0)), (0, .ref b)] 12 [.ref (v1.2 u1.1)]
  rw [nu1, ← av1 0 (by decide)]
  refine zr_astore_n X (ls' := [(2, .ref (v1.2 132)), (1, .ref (v1.2 0)), (0, .ref b)]) dL_law_12 rfl (by decide) rfl ?_
  refine zr_bipush X (v := 36) dL_law_13 (by decide) ?_
  refine zr_newa X (atype := .int) (b := 0) (N' := 36) (ty := .int) (a0 := (36, .inl (fun _ => 0))) zw_ac_int rfl rfl (fun U cA h => h) (fun cA => rfl) (by decide) (by decide) (by decide) (Nat.le_of_ble_eq_true rfl) (Nat.le_of_ble_eq_true rfl) dL_law_15 (fun v2 hv2 gv2 => ?_)
  have nv2 : v2.1 = 134 := by have q : v2.1 = v1.1 + 1 := hv2; omega
  have av2 : ∀ i, i < 133 → v2.2 i = v1.2 i := fun i h => gv2 i (by show i < v1.1; omega)
  show G (v2, 134, 1071) (va_up (va_up (cW4 u1 cy (va_up f0 0 (.inr (8, [.null, .null, .null, .null])))) 132 (eInts cy 19 (fun _ => 0))) v1.1 (eInts cy 36 (fun _ => 0))) [(2, .ref (v1.2 132)), (1, .ref (v1.2 0)), (0, .ref b)] 17 [.ref (v2.2 v1.1)]
  rw [nv1, ← av2 0 (by decide), ← av2 132 (by decide)]
  refine zr_astore_n X (ls' := [(3, .ref (v2.2 133)), (2, .ref (v2.2 132)), (1, .ref (v2.2 0)), (0, .ref b)]) dL_law_17 rfl (by decide) rfl ?_
  refine zr_bipush X (v := 60) dL_law_18 (by decide) ?_
  refine zr_newa X (atype := .int) (b := 0) (N' := 60) (ty := .int) (a0 := (60, .inl (fun _ => 0))) zw_ac_int rfl rfl (fun U cA h => h) (fun cA => rfl) (by decide) (by decide) (by decide) (Nat.le_of_ble_eq_true rfl) (Nat.le_of_ble_eq_true rfl) dL_law_20 (fun v3 hv3 gv3 => ?_)
  have nv3 : v3.1 = 135 := by have q : v3.1 = v2.1 + 1 := hv3; omega
  have av3 : ∀ i, i < 134 → v3.2 i = v2.2 i := fun i h => gv3 i (by show i < v2.1; omega)
  show G (v3, 135, 1131) (va_up (va_up (va_up (cW4 u1 cy (va_up f0 0 (.inr (8, [.null, .null, .null, .null])))) 132 (eInts cy 19 (fun _ => 0))) 133 (eInts cy 36 (fun _ => 0))) v2.1 (eInts cy 60 (fun _ => 0))) [(3, .ref (v2.2 133)), (2, .ref (v2.2 132)), (1, .ref (v2.2 0)), (0, .ref b)] 22 [.ref (v3.2 v2.1)]
  rw [nv2, ← av3 0 (by decide), ← av3 132 (by decide), ← av3 133 (by decide)]
  refine zr_astore X (ls' := [(4, .ref (v3.2 134)), (3, .ref (v3.2 133)), (2, .ref (v3.2 132)), (1, .ref (v3.2 0)), (0, .ref b)]) dL_law_22 (by decide) rfl ?_
  refine zr_bipush X (v := 21) dL_law_24 (by decide) ?_
  refine zr_newa X (atype := .int) (b := 0) (N' := 21) (ty := .int) (a0 := (21, .inl (fun _ => 0))) zw_ac_int rfl rfl (fun U cA h => h) (fun cA => rfl) (by decide) (by decide) (by decide) (Nat.le_of_ble_eq_true rfl) (Nat.le_of_ble_eq_true rfl) dL_law_26 (fun v4 hv4 gv4 => ?_)
  have nv4 : v4.1 = 136 := by have q : v4.1 = v3.1 + 1 := hv4; omega
  have av4 : ∀ i, i < 135 → v4.2 i = v3.2 i := fun i h => gv4 i (by show i < v3.1; omega)
  show G (v4, 136, 1152) (va_up (va_up (va_up (va_up (cW4 u1 cy (va_up f0 0 (.inr (8, [.null, .null, .null, .null])))) 132 (eInts cy 19 (fun _ => 0))) 133 (eInts cy 36 (fun _ => 0))) 134 (eInts cy 60 (fun _ => 0))) v3.1 (eInts cy 21 (fun _ => 0))) [(4, .ref (v3.2 134)), (3, .ref (v3.2 133)), (2, .ref (v3.2 132)), (1, .ref (v3.2 0)), (0, .ref b)] 28 [.ref (v4.2 v3.1)]
  rw [nv3, ← av4 0 (by decide), ← av4 132 (by decide), ← av4 133 (by decide), ← av4 134 (by decide)]
  refine zr_astore X (ls' := [(5, .ref (v4.2 135)), (4, .ref (v4.2 134)), (3, .ref (v4.2 133)), (2, .ref (v4.2 132)), (1, .ref (v4.2 0)), (0, .ref b)]) dL_law_28 (by decide) rfl ?_
  refine zcw (f2 := lW cy (cW4 u1 cy (va_up f0 0 (.inr (8, [.null, .null, .null, .null])))) (fun _ => 0)) ini_lW ?_
  have al : ∀ i, i < 132 → v4.2 i = u1.2 i := fun i h => (av4 i (by omega)).trans ((av3 i (by omega)).trans ((av2 i (by omega)).trans (av1 i h)))
  refine zworld_ext X (f2 := lW cy (cW4 v4 cy (va_up f0 0 (.inr (8, [.null, .null, .null, .null])))) (fun _ => 0)) (fun t _ => zsim_lW (cW4_sim (fun i hi => al i hi)) t) ?_
  refine zr_loc X (ls' := [(0, .ref b), (1, .ref (v4.2 0)), (2, .ref (v4.2 132)), (3, .ref (v4.2 133)), (4, .ref (v4.2 134)), (5, .ref (v4.2 135))]) [5, 4, 3, 2, 1, 0] rfl ?_
  exact law_5 Z nv4 (Nat.le_of_ble_eq_true rfl) (Nat.le_of_ble_eq_true rfl) (LX_start (fun t _ => rfl))
