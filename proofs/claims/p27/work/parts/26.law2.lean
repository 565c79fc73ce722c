/-! THE LAW'S OWN METHODS: eats, goes, a day, why -/
/-- N fresh loaves are wanted: the hut then, and how many are wanted still -/
def lEa (fr : Nat) : Nat → (Nat → Int32) → (Nat → Int32) × Nat
  | 0, u => (u, 0)
  | m + 1, u => if (lTk u 0 (fr + 1 - 0)).2 = 0 then ((lTk u 0 (fr + 1 - 0)).1, m + 1) else lEa fr m (lTk u 0 (fr + 1 - 0)).1
abbrev lT2 (u : Nat → Int32) (fr : Nat) : (Nat → Int32) × Int32 := lTk u (fr + 1) (20 + 1 - (fr + 1))
/-- N are wanted of the stale ones, two for one -/
def lEb (fr : Nat) : Nat → (Nat → Int32) → Int32 → (Nat → Int32) × Int32 × Nat
  | 0, u, b => (u, b, 0)
  | m + 1, u, b => if dLF u (fr + 1) (20 + 1 - (fr + 1)) ≤ 1 then (u, b, m + 1) else if (lT2 u fr).2 = 0 then lEb fr m (lT2 u fr).1 0 else if (lT2 (lT2 u fr).1 fr).2 = 0 then lEb fr m (lT2 (lT2 u fr).1 fr).1 0 else lEb fr m (lT2 (lT2 u fr).1 fr).1 1
def lE3 (t : Nat → Int32) (k : Nat) (pays hungry : Int32) : Nat → Int32 :=
  let t1 := upd t (55 + 6 * k + 4) (t (55 + 6 * k + 4) + pays * t (55 + 6 * k + 1))
  let t2 := upd t1 (55 + 6 * k + 5) (t1 (55 + 6 * k + 5) + hungry)
  let t3 := upd t2 5 (t2 5 + pays * t2 (55 + 6 * k + 1))
  let t4 := upd t3 12 (t3 12 + hungry)
  upd t4 13 (t4 13 + pays * t4 (55 + 6 * k + 1))
abbrev lEA (s : Nat → Int32) (fr N : Nat) : (Nat → Int32) × Nat := lEa fr N s
abbrev lEB (s : Nat → Int32) (fr N : Nat) : (Nat → Int32) × Int32 × Nat := lEb fr (lEA s fr N).2 (lEA s fr N).1 0
def lEat (s : Nat → Int32) (k fr N : Nat) : Nat → Int32 := if nI (lEB s fr N).2.2 ≤ 0 then (if (lEB s fr N).2.1 = 0 then lE3 (lEB s fr N).1 k 3 0 else lE3 (lEB s fr N).1 k 2 0) else lE3 (lEB s fr N).1 k 1 1
theorem lT1_ne {s : Nat → Int32} {i j : Nat} (h : j < 115) (h8 : j ≠ 8) : lT1 s i j = s j := (upd_ne h8).trans (upd_ne (by omega))
theorem lTk_lo {s : Nat → Int32} {e j : Nat} (h : j < 115) (h8 : j ≠ 8) : ∀ m, (lTk s e m).1 j = s j
  | 0 => rfl
  | m + 1 => by
    unfold lTk
    split
    · exact lTk_lo h h8 m
    · exact lT1_ne h h8
theorem lEa_lo {fr j : Nat} (h : j < 115) (h8 : j ≠ 8) : ∀ m u, (lEa fr m u).1 j = u j
  | 0, u => rfl
  | m + 1, u => by
    unfold lEa
    split
    · exact lTk_lo h h8 _
    · exact (lEa_lo h h8 m _).trans (lTk_lo h h8 _)
theorem lEb_lo {fr j : Nat} (h : j < 115) (h8 : j ≠ 8) : ∀ m u b, (lEb fr m u b).1 j = u j
  | 0, u, b => rfl
  | m + 1, u, b => by
    unfold lEb
    split
    · rfl
    · split
      · exact (lEb_lo h h8 m _ _).trans (lTk_lo h h8 _)
      · split
        · exact (lEb_lo h h8 m _ _).trans ((lTk_lo h h8 _).trans (lTk_lo h h8 _))
        · exact (lEb_lo h h8 m _ _).trans ((lTk_lo h h8 _).trans (lTk_lo h h8 _))
theorem lEa_m {fr : Nat} : ∀ m u, (lEa fr m u).2 ≤ m
  | 0, u => Nat.le_refl _
  | m + 1, u => by
    unfold lEa
    split
    · exact Nat.le_refl _
    · exact Nat.le_succ_of_le (lEa_m m _)
set_option maxHeartbeats 4000000 in
set_option maxRecDepth 100000 in
theorem kl_eats {l : Launch} {D : va_G} {cy : Nat → ClassId} {w : zW} {f : zF} {s : Nat → Int32} {k fr N : Nat} (hw : w.1 = 136) (hk : k < 10) (hf : s 17 = nI fr) (hfr : fr ≤ 15) (hN : s (55 + 6 * k + 1) / 2 + (s (55 + 6 * k + 1) - s (55 + 6 * k + 1) / 2 * 2) = nI N) (hN6 : N ≤ 6) : zSd l D cy yL_eats cL_eats 7 none 1 24 [.ref (w.2 (132)), .ref (w.2 (134)), .ref (w.2 (135)), .int (nI (6 * k))] w (lW cy f s) none (lW cy f (lEat s k fr N)) := by
  refine zSd.intro (by decide) (Nat.le_of_ble_eq_true rfl) (fun G X E => ?_)
  show G (w, 0, 0) (lW cy f s) [(0, .ref (w.2 (132))), (1, .ref (w.2 (134))), (2, .ref (w.2 (135))), (3, .int (nI (6 * k)))] 0 []
  refine zr_aload_n X 1 dL_eats_0 rfl rfl ?_
  refine zr_iload_n X 3 dL_eats_1 rfl rfl ?_
  refine zr_iconst X (v := 1) dL_eats_2 (by decide) ?_
  refine zr_iadd X dL_eats_3 ?_
  refine zr_lld X hw lr_p (6 * k + 1) (55 + 6 * k + 1) (nI_add _ 1) (by omega) (by omega) dL_eats_4 ?_
  refine zr_iconst X (v := 2) dL_eats_5 (by decide) ?_
  refine zr_idiv X dL_eats_6 (by decide) ?_
  refine zr_aload_n X 1 dL_eats_7 rfl rfl ?_
  refine zr_iload_n X 3 dL_eats_8 rfl rfl ?_
  refine zr_iconst X (v := 1) dL_eats_9 (by decide) ?_
  refine zr_iadd X dL_eats_10 ?_
  refine zr_lld X hw lr_p (6 * k + 1) (55 + 6 * k + 1) (nI_add _ 1) (by omega) (by omega) dL_eats_11 ?_
  refine zr_iconst X (v := 2) dL_eats_12 (by decide) ?_
  refine zr_irem X dL_eats_13 (by decide) ?_
  refine zr_iadd X dL_eats_14 ?_
  have J41 : G (w, 0, 0) (lW cy f ((lEA s fr N).1)) [(0, .ref (w.2 (132))), (1, .ref (w.2 (134))), (2, .ref (w.2 (135))), (3, .int (nI (6 * k))), (4, .int (nI (lEA s fr N).2))] 41 [] := by
    refine zr_iconst X (v := 0) dL_eats_41 (by decide) ?_
    have J110 : G (w, 0, 0) (lW cy f ((lEB s fr N).1)) [(0, .ref (w.2 (132))), (1, .ref (w.2 (134))), (2, .ref (w.2 (135))), (3, .int (nI (6 * k))), (4, .int (nI (lEB s fr N).2.2)), (5, .int ((lEB s fr N).2.1))] 110 [] := by
      refine zr_iload X 4 dL_eats_110 rfl ?_
      refine zr_if_le X (tgt := 119) dL_eats_112 (by decide) (fun h1 => ?_) (fun h2 => ?_)
      · refine zr_iload X 5 dL_eats_119 rfl ?_
        refine zr_if_eq X (tgt := 128) dL_eats_121 (by decide) (fun h3 => ?_) (fun h4 => ?_)
        · refine zr_iconst X (v := 3) dL_eats_128 (by decide) ?_
          refine zr_istore X (ls' := [(6, .int (3)), (0, .ref (w.2 (132))), (1, .ref (w.2 (134))), (2, .ref (w.2 (135))), (3, .int (nI (6 * k))), (4, .int (nI (lEB s fr N).2.2)), (5, .int ((lEB s fr N).2.1))]) dL_eats_129 (by decide) rfl ?_
          refine zr_aload_n X 2 dL_eats_131 rfl rfl ?_
          refine zr_iload_n X 4 dL_eats_132 rfl rfl ?_
          refine zr_iconst X (v := 4) dL_eats_133 (by decide) ?_
          refine zr_iadd X dL_eats_134 ?_
          refine zr_dup2 X dL_eats_135 rfl rfl ?_
          refine zr_lld X hw lr_p (6 * k + 4) (55 + 6 * k + 4) (nI_add _ 4) (by omega) (by omega) dL_eats_136 ?_
          refine zr_iload X 0 dL_eats_137 rfl ?_
          refine zr_aload_n X 2 dL_eats_139 rfl rfl ?_
          refine zr_iload_n X 4 dL_eats_140 rfl rfl ?_
          refine zr_iconst X (v := 1) dL_eats_141 (by decide) ?_
          refine zr_iadd X dL_eats_142 ?_
          refine zr_lld X hw lr_p (6 * k + 1) (55 + 6 * k + 1) (nI_add _ 1) (by omega) (by omega) dL_eats_143 ?_
          refine zr_imul X dL_eats_144 ?_
          refine zr_iadd X dL_eats_145 ?_
          refine zr_lst X hw lr_p (6 * k + 4) (55 + 6 * k + 4) (nI_add _ 4) (by omega) (by omega) dL_eats_146 ?_
          refine zr_aload_n X 2 dL_eats_147 rfl rfl ?_
          refine zr_iload_n X 4 dL_eats_148 rfl rfl ?_
          refine zr_iconst X (v := 5) dL_eats_149 (by decide) ?_
          refine zr_iadd X dL_eats_150 ?_
          refine zr_dup2 X dL_eats_151 rfl rfl ?_
          refine zr_lld X hw lr_p (6 * k + 5) (55 + 6 * k + 5) (nI_add _ 5) (by omega) (by omega) dL_eats_152 ?_
          refine zr_iload X 5 dL_eats_153 rfl ?_
          refine zr_if_le X (tgt := 162) dL_eats_155 (by decide) (fun _ => ?_) (fun h5 => absurd h1 h5)
          refine zr_iconst X (v := 0) dL_eats_162 (by decide) ?_
          refine zr_iadd X dL_eats_163 ?_
          refine zr_lst X hw lr_p (6 * k + 5) (55 + 6 * k + 5) (nI_add _ 5) (by omega) (by omega) dL_eats_164 ?_
          refine zr_aload_n X 1 dL_eats_165 rfl rfl ?_
          refine zr_iconst X (v := 5) dL_eats_166 (by decide) ?_
          refine zr_dup2 X dL_eats_167 rfl rfl ?_
          refine zr_lld X hw lr_g (5) (5) (rfl) (by decide) rfl dL_eats_168 ?_
          refine zr_iload X 0 dL_eats_169 rfl ?_
          refine zr_aload_n X 2 dL_eats_171 rfl rfl ?_
          refine zr_iload_n X 4 dL_eats_172 rfl rfl ?_
          refine zr_iconst X (v := 1) dL_eats_173 (by decide) ?_
          refine zr_iadd X dL_eats_174 ?_
          refine zr_lld X hw lr_p (6 * k + 1) (55 + 6 * k + 1) (nI_add _ 1) (by omega) (by omega) dL_eats_175 ?_
          refine zr_imul X dL_eats_176 ?_
          refine zr_iadd X dL_eats_177 ?_
          refine zr_lst X hw lr_g (5) (5) (rfl) (by decide) rfl dL_eats_178 ?_
          refine zr_aload_n X 1 dL_eats_179 rfl rfl ?_
          refine zr_bipush X (v := 12) dL_eats_180 (by decide) ?_
          refine zr_dup2 X dL_eats_182 rfl rfl ?_
          refine zr_lld X hw lr_g (12) (12) (rfl) (by decide) rfl dL_eats_183 ?_
          refine zr_iload X 5 dL_eats_184 rfl ?_
          refine zr_if_le X (tgt := 193) dL_eats_186 (by decide) (fun _ => ?_) (fun h6 => absurd h1 h6)
          refine zr_iconst X (v := 0) dL_eats_193 (by decide) ?_
          refine zr_iadd X dL_eats_194 ?_
          refine zr_lst X hw lr_g (12) (12) (rfl) (by decide) rfl dL_eats_195 ?_
          refine zr_aload_n X 1 dL_eats_196 rfl rfl ?_
          refine zr_bipush X (v := 13) dL_eats_197 (by decide) ?_
          refine zr_dup2 X dL_eats_199 rfl rfl ?_
          refine zr_lld X hw lr_g (13) (13) (rfl) (by decide) rfl dL_eats_200 ?_
          refine zr_iload X 0 dL_eats_201 rfl ?_
          refine zr_aload_n X 2 dL_eats_203 rfl rfl ?_
          refine zr_iload_n X 4 dL_eats_204 rfl rfl ?_
          refine zr_iconst X (v := 1) dL_eats_205 (by decide) ?_
          refine zr_iadd X dL_eats_206 ?_
          refine zr_lld X hw lr_p (6 * k + 1) (55 + 6 * k + 1) (nI_add _ 1) (by omega) (by omega) dL_eats_207 ?_
          refine zr_imul X dL_eats_208 ?_
          refine zr_iadd X dL_eats_209 ?_
          refine zr_lst X hw lr_g (13) (13) (rfl) (by decide) rfl dL_eats_210 ?_
          exact zret_v E rfl dL_eats_211 (by unfold lEat; rw [if_pos h1, if_pos h3]; rfl)
        · refine zr_iconst X (v := 2) dL_eats_124 (by decide) ?_
          refine zr_goto X (tgt := 129) dL_eats_125 (by decide) ?_
          refine zr_istore X (ls' := [(6, .int (2)), (0, .ref (w.2 (132))), (1, .ref (w.2 (134))), (2, .ref (w.2 (135))), (3, .int (nI (6 * k))), (4, .int (nI (lEB s fr N).2.2)), (5, .int ((lEB s fr N).2.1))]) dL_eats_129 (by decide) rfl ?_
          refine zr_aload_n X 2 dL_eats_131 rfl rfl ?_
          refine zr_iload_n X 4 dL_eats_132 rfl rfl ?_
          refine zr_iconst X (v := 4) dL_eats_133 (by decide) ?_
          refine zr_iadd X dL_eats_134 ?_
          refine zr_dup2 X dL_eats_135 rfl rfl ?_
          refine zr_lld X hw lr_p (6 * k + 4) (55 + 6 * k + 4) (nI_add _ 4) (by omega) (by omega) dL_eats_136 ?_
          refine zr_iload X 0 dL_eats_137 rfl ?_
          refine zr_aload_n X 2 dL_eats_139 rfl rfl ?_
          refine zr_iload_n X 4 dL_eats_140 rfl rfl ?_
          refine zr_iconst X (v := 1) dL_eats_141 (by decide) ?_
          refine zr_iadd X dL_eats_142 ?_
          refine zr_lld X hw lr_p (6 * k + 1) (55 + 6 * k + 1) (nI_add _ 1) (by omega) (by omega) dL_eats_143 ?_
          refine zr_imul X dL_eats_144 ?_
          refine zr_iadd X dL_eats_145 ?_
          refine zr_lst X hw lr_p (6 * k + 4) (55 + 6 * k + 4) (nI_add _ 4) (by omega) (by omega) dL_eats_146 ?_
          refine zr_aload_n X 2 dL_eats_147 rfl rfl ?_
          refine zr_iload_n X 4 dL_eats_148 rfl rfl ?_
          refine zr_iconst X (v := 5) dL_eats_149 (by decide) ?_
          refine zr_iadd X dL_eats_150 ?_
          refine zr_dup2 X dL_eats_151 rfl rfl ?_
          refine zr_lld X hw lr_p (6 * k + 5) (55 + 6 * k + 5) (nI_add _ 5) (by omega) (by omega) dL_eats_152 ?_
          refine zr_iload X 5 dL_eats_153 rfl ?_
          refine zr_if_le X (tgt := 162) dL_eats_155 (by decide) (fun _ => ?_) (fun h7 => absurd h1 h7)
          refine zr_iconst X (v := 0) dL_eats_162 (by decide) ?_
          refine zr_iadd X dL_eats_163 ?_
          refine zr_lst X hw lr_p (6 * k + 5) (55 + 6 * k + 5) (nI_add _ 5) (by omega) (by omega) dL_eats_164 ?_
          refine zr_aload_n X 1 dL_eats_165 rfl rfl ?_
          refine zr_iconst X (v := 5) dL_eats_166 (by decide) ?_
          refine zr_dup2 X dL_eats_167 rfl rfl ?_
          refine zr_lld X hw lr_g (5) (5) (rfl) (by decide) rfl dL_eats_168 ?_
          refine zr_iload X 0 dL_eats_169 rfl ?_
          refine zr_aload_n X 2 dL_eats_171 rfl rfl ?_
          refine zr_iload_n X 4 dL_eats_172 rfl rfl ?_
          refine zr_iconst X (v := 1) dL_eats_173 (by decide) ?_
          refine zr_iadd X dL_eats_174 ?_
          refine zr_lld X hw lr_p (6 * k + 1) (55 + 6 * k + 1) (nI_add _ 1) (by omega) (by omega) dL_eats_175 ?_
          refine zr_imul X dL_eats_176 ?_
          refine zr_iadd X dL_eats_177 ?_
          refine zr_lst X hw lr_g (5) (5) (rfl) (by decide) rfl dL_eats_178 ?_
          refine zr_aload_n X 1 dL_eats_179 rfl rfl ?_
          refine zr_bipush X (v := 12) dL_eats_180 (by decide) ?_
          refine zr_dup2 X dL_eats_182 rfl rfl ?_
          refine zr_lld X hw lr_g (12) (12) (rfl) (by decide) rfl dL_eats_183 ?_
          refine zr_iload X 5 dL_eats_184 rfl ?_
          refine zr_if_le X (tgt := 193) dL_eats_186 (by decide) (fun _ => ?_) (fun h8 => absurd h1 h8)
          refine zr_iconst X (v := 0) dL_eats_193 (by decide) ?_
          refine zr_iadd X dL_eats_194 ?_
          refine zr_lst X hw lr_g (12) (12) (rfl) (by decide) rfl dL_eats_195 ?_
          refine zr_aload_n X 1 dL_eats_196 rfl rfl ?_
          refine zr_bipush X (v := 13) dL_eats_197 (by decide) ?_
          refine zr_dup2 X dL_eats_199 rfl rfl ?_
          refine zr_lld X hw lr_g (13) (13) (rfl) (by decide) rfl dL_eats_200 ?_
          refine zr_iload X 0 dL_eats_201 rfl ?_
          refine zr_aload_n X 2 dL_eats_203 rfl rfl ?_
          refine zr_iload_n X 4 dL_eats_204 rfl rfl ?_
          refine zr_iconst X (v := 1) dL_eats_205 (by decide) ?_
          refine zr_iadd X dL_eats_206 ?_
          refine zr_lld X hw lr_p (6 * k + 1) (55 + 6 * k + 1) (nI_add _ 1) (by omega) (by omega) dL_eats_207 ?_
          refine zr_imul X dL_eats_208 ?_
          refine zr_iadd X dL_eats_209 ?_
          refine zr_lst X hw lr_g (13) (13) (rfl) (by decide) rfl dL_eats_210 ?_
          exact zret_v E rfl dL_eats_211 (by unfold lEat; rw [if_pos h1, if_neg h4]; rfl)
      · refine zr_iconst X (v := 1) dL_eats_115 (by decide) ?_
        refine zr_goto X (tgt := 129) dL_eats_116 (by decide) ?_
        refine zr_istore X (ls' := [(6, .int (1)), (0, .ref (w.2 (132))), (1, .ref (w.2 (134))), (2, .ref (w.2 (135))), (3, .int (nI (6 * k))), (4, .int (nI (lEB s fr N).2.2)), (5, .int ((lEB s fr N).2.1))]) dL_eats_129 (by decide) rfl ?_
        refine zr_aload_n X 2 dL_eats_131 rfl rfl ?_
        refine zr_iload_n X 4 dL_eats_132 rfl rfl ?_
        refine zr_iconst X (v := 4) dL_eats_133 (by decide) ?_
        refine zr_iadd X dL_eats_134 ?_
        refine zr_dup2 X dL_eats_135 rfl rfl ?_
        refine zr_lld X hw lr_p (6 * k + 4) (55 + 6 * k + 4) (nI_add _ 4) (by omega) (by omega) dL_eats_136 ?_
        refine zr_iload X 0 dL_eats_137 rfl ?_
        refine zr_aload_n X 2 dL_eats_139 rfl rfl ?_
        refine zr_iload_n X 4 dL_eats_140 rfl rfl ?_
        refine zr_iconst X (v := 1) dL_eats_141 (by decide) ?_
        refine zr_iadd X dL_eats_142 ?_
        refine zr_lld X hw lr_p (6 * k + 1) (55 + 6 * k + 1) (nI_add _ 1) (by omega) (by omega) dL_eats_143 ?_
        refine zr_imul X dL_eats_144 ?_
        refine zr_iadd X dL_eats_145 ?_
        refine zr_lst X hw lr_p (6 * k + 4) (55 + 6 * k + 4) (nI_add _ 4) (by omega) (by omega) dL_eats_146 ?_
        refine zr_aload_n X 2 dL_eats_147 rfl rfl ?_
        refine zr_iload_n X 4 dL_eats_148 rfl rfl ?_
        refine zr_iconst X (v := 5) dL_eats_149 (by decide) ?_
        refine zr_iadd X dL_eats_150 ?_
        refine zr_dup2 X dL_eats_151 rfl rfl ?_
        refine zr_lld X hw lr_p (6 * k + 5) (55 + 6 * k + 5) (nI_add _ 5) (by omega) (by omega) dL_eats_152 ?_
        refine zr_iload X 5 dL_eats_153 rfl ?_
        refine zr_if_le X (tgt := 162) dL_eats_155 (by decide) (fun h9 => absurd h9 h2) (fun _ => ?_)
        refine zr_iconst X (v := 1) dL_eats_158 (by decide) ?_
        refine zr_goto X (tgt := 163) dL_eats_159 (by decide) ?_
        refine zr_iadd X dL_eats_163 ?_
        refine zr_lst X hw lr_p (6 * k + 5) (55 + 6 * k + 5) (nI_add _ 5) (by omega) (by omega) dL_eats_164 ?_
        refine zr_aload_n X 1 dL_eats_165 rfl rfl ?_
        refine zr_iconst X (v := 5) dL_eats_166 (by decide) ?_
        refine zr_dup2 X dL_eats_167 rfl rfl ?_
        refine zr_lld X hw lr_g (5) (5) (rfl) (by decide) rfl dL_eats_168 ?_
        refine zr_iload X 0 dL_eats_169 rfl ?_
        refine zr_aload_n X 2 dL_eats_171 rfl rfl ?_
        refine zr_iload_n X 4 dL_eats_172 rfl rfl ?_
        refine zr_iconst X (v := 1) dL_eats_173 (by decide) ?_
        refine zr_iadd X dL_eats_174 ?_
        refine zr_lld X hw lr_p (6 * k + 1) (55 + 6 * k + 1) (nI_add _ 1) (by omega) (by omega) dL_eats_175 ?_
        refine zr_imul X dL_eats_176 ?_
        refine zr_iadd X dL_eats_177 ?_
        refine zr_lst X hw lr_g (5) (5) (rfl) (by decide) rfl dL_eats_178 ?_
        refine zr_aload_n X 1 dL_eats_179 rfl rfl ?_
        refine zr_bipush X (v := 12) dL_eats_180 (by decide) ?_
        refine zr_dup2 X dL_eats_182 rfl rfl ?_
        refine zr_lld X hw lr_g (12) (12) (rfl) (by decide) rfl dL_eats_183 ?_
        refine zr_iload X 5 dL_eats_184 rfl ?_
        refine zr_if_le X (tgt := 193) dL_eats_186 (by decide) (fun h10 => absurd h10 h2) (fun _ => ?_)
        refine zr_iconst X (v := 1) dL_eats_189 (by decide) ?_
        refine zr_goto X (tgt := 194) dL_eats_190 (by decide) ?_
        refine zr_iadd X dL_eats_194 ?_
        refine zr_lst X hw lr_g (12) (12) (rfl) (by decide) rfl dL_eats_195 ?_
        refine zr_aload_n X 1 dL_eats_196 rfl rfl ?_
        refine zr_bipush X (v := 13) dL_eats_197 (by decide) ?_
        refine zr_dup2 X dL_eats_199 rfl rfl ?_
        refine zr_lld X hw lr_g (13) (13) (rfl) (by decide) rfl dL_eats_200 ?_
        refine zr_iload X 0 dL_eats_201 rfl ?_
        refine zr_aload_n X 2 dL_eats_203 rfl rfl ?_
        refine zr_iload_n X 4 dL_eats_204 rfl rfl ?_
        refine zr_iconst X (v := 1) dL_eats_205 (by decide) ?_
        refine zr_iadd X dL_eats_206 ?_
        refine zr_lld X hw lr_p (6 * k + 1) (55 + 6 * k + 1) (nI_add _ 1) (by omega) (by omega) dL_eats_207 ?_
        refine zr_imul X dL_eats_208 ?_
        refine zr_iadd X dL_eats_209 ?_
        refine zr_lst X hw lr_g (13) (13) (rfl) (by decide) rfl dL_eats_210 ?_
        exact zret_v E rfl dL_eats_211 (by unfold lEat; rw [if_neg h2]; rfl)
    refine zr_istore X (ls' := [(5, .int (0)), (0, .ref (w.2 (132))), (1, .ref (w.2 (134))), (2, .ref (w.2 (135))), (3, .int (nI (6 * k))), (4, .int (nI (lEA s fr N).2))]) dL_eats_42 (by decide) rfl ?_
    refine zr_loc X (ls' := [(0, .ref (w.2 (132))), (1, .ref (w.2 (134))), (2, .ref (w.2 (135))), (3, .int (nI (6 * k))), (4, .int (nI (lEA s fr N).2)), (5, .int (0))]) [1, 2, 3, 4, 5, 0] rfl ?_
    refine zcast (f2 := lW cy f ((lEA s fr N).1)) (ls2 := [(0, .ref (w.2 (132))), (1, .ref (w.2 (134))), (2, .ref (w.2 (135))), (3, .int (nI (6 * k))), (4, .int (nI (lEA s fr N).2)), (5, .int (0))]) rfl rfl ?_
    refine zupw (P := fun m => ∀ (u : Nat → Int32) (b9 : Int32), lEb fr (m) u b9 = lEB s fr N → u 17 = nI fr → G (w, 0, 0) (lW cy f u) [(0, .ref (w.2 (132))), (1, .ref (w.2 (134))), (2, .ref (w.2 (135))), (3, .int (nI (6 * k))), (4, .int (nI (m))), (5, .int (b9))] 44 []) (B := (lEA s fr N).2) ?_ (fun m hn44 ih44 => ?_) _ 0 rfl ((lEa_lo (by decide) (by decide) N s).trans hf)
    · show ∀ (u : Nat → Int32) (b9 : Int32), lEb fr (0) u b9 = lEB s fr N → u 17 = nI fr → G (w, 0, 0) (lW cy f u) [(0, .ref (w.2 (132))), (1, .ref (w.2 (134))), (2, .ref (w.2 (135))), (3, .int (nI (6 * k))), (4, .int (nI (0))), (5, .int (b9))] 44 []
      intro u b9 q g17
      refine zr_iload X 4 dL_eats_44 rfl ?_
      refine zr_if_le X (tgt := 110) dL_eats_46 (by decide) (fun _ => ?_) (fun h => False.elim (h (by decide)))
      exact zjoin (by rw [← q]; rfl) (by rw [← q]; rfl) rfl J110
    · show ∀ (u : Nat → Int32) (b9 : Int32), lEb fr (m + 1) u b9 = lEB s fr N → u 17 = nI fr → G (w, 0, 0) (lW cy f u) [(0, .ref (w.2 (132))), (1, .ref (w.2 (134))), (2, .ref (w.2 (135))), (3, .int (nI (6 * k))), (4, .int (nI (m + 1))), (5, .int (b9))] 44 []
      intro u b9 q g17
      refine zr_iload X 4 dL_eats_44 rfl ?_
      refine zr_if_le X (tgt := 110) dL_eats_46 (by decide) (fun h => False.elim (nI_nle (Nat.succ_pos _) (by have q9 : (lEA s fr N).2 ≤ N := lEa_m N s; omega) h)) (fun _ => ?_)
      refine zr_aload_n X 2 dL_eats_49 rfl rfl ?_
      refine zr_aload_n X 0 dL_eats_50 rfl rfl ?_
      refine zr_bipush X (v := 17) dL_eats_51 (by decide) ?_
      refine zr_lld X hw lr_g (17) (17) (rfl) (by decide) rfl dL_eats_53 ?_
      refine zr_iconst X (v := 1) dL_eats_54 (by decide) ?_
      refine zr_iadd X dL_eats_55 ?_
      refine zr_bipush X (v := 20) dL_eats_56 (by decide) ?_
      refine zr_cS X (As := [.ref (w.2 (135)), .int ((u 17) + 1), .int (20)]) (rest := []) (f' := lW cy f u) (st' := [.int (dLF u (fr + 1) (20 + 1 - (fr + 1)))]) zc_L_sum (kl_sum (s := u) (a := fr + 1) (b := 20) hw (by rw [g17]; exact nI_1 fr) rfl (by omega) (by decide)) ⟨Nat.le_of_ble_eq_true rfl, Nat.le_of_ble_eq_true rfl⟩ ⟨Nat.le_refl _, Nat.le_refl _⟩ rfl (Nat.le_of_ble_eq_true rfl) zm_3_15 rfl dL_eats_58 rfl ?_
      refine zr_iconst X (v := 1) dL_eats_61 (by decide) ?_
      refine zr_icmp_le X (tgt := 110) dL_eats_62 (by decide) (fun h11 => ?_) (fun h12 => ?_)
      · exact zjoin (by rw [← q]; simp only [lEb, if_pos h11]) (by rw [← q]; simp only [lEb, if_pos h11]) rfl J110
      · refine zr_aload_n X 0 dL_eats_65 rfl rfl ?_
        refine zr_aload_n X 2 dL_eats_66 rfl rfl ?_
        refine zr_aload_n X 0 dL_eats_67 rfl rfl ?_
        refine zr_bipush X (v := 17) dL_eats_68 (by decide) ?_
        refine zr_lld X hw lr_g (17) (17) (rfl) (by decide) rfl dL_eats_70 ?_
        refine zr_iconst X (v := 1) dL_eats_71 (by decide) ?_
        refine zr_iadd X dL_eats_72 ?_
        refine zr_bipush X (v := 20) dL_eats_73 (by decide) ?_
        refine zr_cS X (As := [.ref (w.2 (132)), .ref (w.2 (135)), .int ((u 17) + 1), .int (20)]) (rest := []) (f' := lW cy f ((lT2 u fr).1)) (st' := [.int ((lT2 u fr).2)]) zc_L_takes (kl_takes (s := u) (e := fr + 1) (g := 20) hw (by rw [g17]; exact nI_1 fr) rfl (by decide) (by omega)) ⟨Nat.le_of_ble_eq_true rfl, Nat.le_of_ble_eq_true rfl⟩ ⟨Nat.le_refl _, Nat.le_refl _⟩ rfl (Nat.le_of_ble_eq_true rfl) zm_3_21 rfl dL_eats_75 rfl ?_
        refine zr_if_eq X (tgt := 101) dL_eats_78 (by decide) (fun h13 => ?_) (fun h14 => ?_)
        · refine zr_iconst X (v := 0) dL_eats_101 (by decide) ?_
          refine zr_istore X (ls' := [(5, .int (0)), (0, .ref (w.2 (132))), (1, .ref (w.2 (134))), (2, .ref (w.2 (135))), (3, .int (nI (6 * k))), (4, .int (nI (m + 1)))]) dL_eats_102 (by decide) rfl ?_
          refine zr_iinc X (v := zpr (m + 1)) (ls' := [(4, .int (zpr (m + 1))), (5, .int (0)), (0, .ref (w.2 (132))), (1, .ref (w.2 (134))), (2, .ref (w.2 (135))), (3, .int (nI (6 * k)))]) 5 dL_eats_104 rfl (zdec1 _) (by decide) rfl ?_
          refine zr_goto X (tgt := 44) dL_eats_107 (by decide) ?_
          refine zr_loc X (ls' := [(0, .ref (w.2 (132))), (1, .ref (w.2 (134))), (2, .ref (w.2 (135))), (3, .int (nI (6 * k))), (4, .int (zpr (m + 1))), (5, .int (0))]) [2, 3, 4, 5, 0, 1] rfl ?_
          exact zcast (f2 := lW cy f ((lT2 u fr).1)) (ls2 := [(0, .ref (w.2 (132))), (1, .ref (w.2 (134))), (2, .ref (w.2 (135))), (3, .int (nI (6 * k))), (4, .int (zpr (m + 1))), (5, .int (0))]) rfl rfl (ih44 _ _ (by rw [← q]; simp only [lEb, if_neg h12, if_pos h13]) ((lTk_lo (by decide) (by decide) _).trans g17))
        · refine zr_aload_n X 0 dL_eats_81 rfl rfl ?_
          refine zr_aload_n X 2 dL_eats_82 rfl rfl ?_
          refine zr_aload_n X 0 dL_eats_83 rfl rfl ?_
          refine zr_bipush X (v := 17) dL_eats_84 (by decide) ?_
          refine zr_lld X hw lr_g (17) (17) (rfl) (by decide) rfl dL_eats_86 ?_
          refine zr_iconst X (v := 1) dL_eats_87 (by decide) ?_
          refine zr_iadd X dL_eats_88 ?_
          refine zr_bipush X (v := 20) dL_eats_89 (by decide) ?_
          refine zr_cS X (As := [.ref (w.2 (132)), .ref (w.2 (135)), .int ((((lT2 u fr).1) 17) + 1), .int (20)]) (rest := []) (f' := lW cy f ((lT2 ((lT2 u fr).1) fr).1)) (st' := [.int ((lT2 ((lT2 u fr).1) fr).2)]) zc_L_takes (kl_takes (s := (lT2 u fr).1) (e := fr + 1) (g := 20) hw (by rw [lTk_lo (by decide) (by decide), g17]; exact nI_1 fr) rfl (by decide) (by omega)) ⟨Nat.le_of_ble_eq_true rfl, Nat.le_of_ble_eq_true rfl⟩ ⟨Nat.le_refl _, Nat.le_refl _⟩ rfl (Nat.le_of_ble_eq_true rfl) zm_3_21 rfl dL_eats_91 rfl ?_
          refine zr_if_eq X (tgt := 101) dL_eats_94 (by decide) (fun h15 => ?_) (fun h16 => ?_)
          · refine zr_iconst X (v := 0) dL_eats_101 (by decide) ?_
            refine zr_istore X (ls' := [(5, .int (0)), (0, .ref (w.2 (132))), (1, .ref (w.2 (134))), (2, .ref (w.2 (135))), (3, .int (nI (6 * k))), (4, .int (nI (m + 1)))]) dL_eats_102 (by decide) rfl ?_
            refine zr_iinc X (v := zpr (m + 1)) (ls' := [(4, .int (zpr (m + 1))), (5, .int (0)), (0, .ref (w.2 (132))), (1, .ref (w.2 (134))), (2, .ref (w.2 (135))), (3, .int (nI (6 * k)))]) 5 dL_eats_104 rfl (zdec1 _) (by decide) rfl ?_
            refine zr_goto X (tgt := 44) dL_eats_107 (by decide) ?_
            refine zr_loc X (ls' := [(0, .ref (w.2 (132))), (1, .ref (w.2 (134))), (2, .ref (w.2 (135))), (3, .int (nI (6 * k))), (4, .int (zpr (m + 1))), (5, .int (0))]) [2, 3, 4, 5, 0, 1] rfl ?_
            exact zcast (f2 := lW cy f ((lT2 ((lT2 u fr).1) fr).1)) (ls2 := [(0, .ref (w.2 (132))), (1, .ref (w.2 (134))), (2, .ref (w.2 (135))), (3, .int (nI (6 * k))), (4, .int (zpr (m + 1))), (5, .int (0))]) rfl rfl (ih44 _ _ (by rw [← q]; simp only [lEb, if_neg h12, if_neg h14, if_pos h15]) ((lTk_lo (by decide) (by decide) _).trans ((lTk_lo (by decide) (by decide) _).trans g17)))
          · refine zr_iconst X (v := 1) dL_eats_97 (by decide) ?_
            refine zr_goto X (tgt := 102) dL_eats_98 (by decide) ?_
            refine zr_istore X (ls' := [(5, .int (1)), (0, .ref (w.2 (132))), (1, .ref (w.2 (134))), (2, .ref (w.2 (135))), (3, .int (nI (6 * k))), (4, .int (nI (m + 1)))]) dL_eats_102 (by decide) rfl ?_
            refine zr_iinc X (v := zpr (m + 1)) (ls' := [(4, .int (zpr (m + 1))), (5, .int (1)), (0, .ref (w.2 (132))), (1, .ref (w.2 (134))), (2, .ref (w.2 (135))), (3, .int (nI (6 * k)))]) 5 dL_eats_104 rfl (zdec1 _) (by decide) rfl ?_
            refine zr_goto X (tgt := 44) dL_eats_107 (by decide) ?_
            refine zr_loc X (ls' := [(0, .ref (w.2 (132))), (1, .ref (w.2 (134))), (2, .ref (w.2 (135))), (3, .int (nI (6 * k))), (4, .int (zpr (m + 1))), (5, .int (1))]) [2, 3, 4, 5, 0, 1] rfl ?_
            exact zcast (f2 := lW cy f ((lT2 ((lT2 u fr).1) fr).1)) (ls2 := [(0, .ref (w.2 (132))), (1, .ref (w.2 (134))), (2, .ref (w.2 (135))), (3, .int (nI (6 * k))), (4, .int (zpr (m + 1))), (5, .int (1))]) rfl rfl (ih44 _ _ (by rw [← q]; simp only [lEb, if_neg h12, if_neg h14, if_neg h16]) ((lTk_lo (by decide) (by decide) _).trans ((lTk_lo (by decide) (by decide) _).trans g17)))
  refine zr_istore X (ls' := [(4, .int (((s (55 + 6 * k + 1)) / 2) + ((s (55 + 6 * k + 1)) - (s (55 + 6 * k + 1)) / 2 * 2))), (0, .ref (w.2 (132))), (1, .ref (w.2 (134))), (2, .ref (w.2 (135))), (3, .int (nI (6 * k)))]) dL_eats_15 (by decide) rfl ?_
  refine zr_loc X (ls' := [(0, .ref (w.2 (132))), (1, .ref (w.2 (134))), (2, .ref (w.2 (135))), (3, .int (nI (6 * k))), (4, .int (((s (55 + 6 * k + 1)) / 2) + ((s (55 + 6 * k + 1)) - (s (55 + 6 * k + 1)) / 2 * 2)))]) [1, 2, 3, 4, 0] rfl ?_
  refine zcast (f2 := lW cy f s) (ls2 := [(0, .ref (w.2 (132))), (1, .ref (w.2 (134))), (2, .ref (w.2 (135))), (3, .int (nI (6 * k))), (4, .int (nI (N)))]) rfl (by rw [hN]) ?_
  refine zupw (P := fun m => ∀ u : Nat → Int32, lEa fr (m) u = lEA s fr N → u 17 = nI fr → G (w, 0, 0) (lW cy f u) [(0, .ref (w.2 (132))), (1, .ref (w.2 (134))), (2, .ref (w.2 (135))), (3, .int (nI (6 * k))), (4, .int (nI (m)))] 17 []) (B := N) ?_ (fun m hn17 ih17 => ?_) s rfl hf
  · show ∀ u : Nat → Int32, lEa fr (0) u = lEA s fr N → u 17 = nI fr → G (w, 0, 0) (lW cy f u) [(0, .ref (w.2 (132))), (1, .ref (w.2 (134))), (2, .ref (w.2 (135))), (3, .int (nI (6 * k))), (4, .int (nI (0)))] 17 []
    intro u q h17
    refine zr_iload X 4 dL_eats_17 rfl ?_
    refine zr_if_le X (tgt := 41) dL_eats_19 (by decide) (fun _ => ?_) (fun h => False.elim (h (by decide)))
    exact zjoin (by rw [← q]; rfl) (by rw [← q]; rfl) rfl J41
  · show ∀ u : Nat → Int32, lEa fr (m + 1) u = lEA s fr N → u 17 = nI fr → G (w, 0, 0) (lW cy f u) [(0, .ref (w.2 (132))), (1, .ref (w.2 (134))), (2, .ref (w.2 (135))), (3, .int (nI (6 * k))), (4, .int (nI (m + 1)))] 17 []
    intro u q h17
    refine zr_iload X 4 dL_eats_17 rfl ?_
    refine zr_if_le X (tgt := 41) dL_eats_19 (by decide) (fun h => False.elim (nI_nle (Nat.succ_pos _) (by omega) h)) (fun _ => ?_)
    refine zr_aload_n X 0 dL_eats_22 rfl rfl ?_
    refine zr_aload_n X 2 dL_eats_23 rfl rfl ?_
    refine zr_iconst X (v := 0) dL_eats_24 (by decide) ?_
    refine zr_aload_n X 0 dL_eats_25 rfl rfl ?_
    refine zr_bipush X (v := 17) dL_eats_26 (by decide) ?_
    refine zr_lld X hw lr_g (17) (17) (rfl) (by decide) rfl dL_eats_28 ?_
    refine zr_cS X (As := [.ref (w.2 (132)), .ref (w.2 (135)), .int (0), .int (u 17)]) (rest := []) (f' := lW cy f ((lTk u 0 (fr + 1 - 0)).1)) (st' := [.int ((lTk u 0 (fr + 1 - 0)).2)]) zc_L_takes (kl_takes (s := u) (e := 0) (g := fr) hw rfl h17 (by omega) (by omega)) ⟨Nat.le_of_ble_eq_true rfl, Nat.le_of_ble_eq_true rfl⟩ ⟨Nat.le_refl _, Nat.le_refl _⟩ rfl (Nat.le_of_ble_eq_true rfl) zm_3_21 rfl dL_eats_29 rfl ?_
    refine zr_if_eq X (tgt := 41) dL_eats_32 (by decide) (fun h17 => ?_) (fun h18 => ?_)
    · exact zjoin (by rw [← q]; simp only [lEa, if_pos h17]) (by rw [← q]; simp only [lEa, if_pos h17]) rfl J41
    · refine zr_iinc X (v := zpr (m + 1)) (ls' := [(4, .int (zpr (m + 1))), (0, .ref (w.2 (132))), (1, .ref (w.2 (134))), (2, .ref (w.2 (135))), (3, .int (nI (6 * k)))]) 4 dL_eats_35 rfl (zdec1 _) (by decide) rfl ?_
      refine zr_goto X (tgt := 17) dL_eats_38 (by decide) ?_
      refine zr_loc X (ls' := [(0, .ref (w.2 (132))), (1, .ref (w.2 (134))), (2, .ref (w.2 (135))), (3, .int (nI (6 * k))), (4, .int (zpr (m + 1)))]) [1, 2, 3, 4, 0] rfl ?_
      exact zcast (f2 := lW cy f ((lTk u 0 (fr + 1 - 0)).1)) (ls2 := [(0, .ref (w.2 (132))), (1, .ref (w.2 (134))), (2, .ref (w.2 (135))), (3, .int (nI (6 * k))), (4, .int (zpr (m + 1)))]) rfl rfl (ih17 _ (by rw [← q]; simp only [lEa, if_neg h18]) ((lTk_lo (by decide) (by decide) _).trans h17))
theorem nI_ml {c k : Nat} : nI c * nI k = nI (c * k) := (Int32.ofNat_mul c k).symm
theorem lgo_1 {s : Nat → Int32} {k b n : Nat} : (6 : Int32) * (dGoL s k b n) 1 = nI (6 * b) := by
  rw [dGoL_1]
  exact nI_ml (c := 6)
set_option maxHeartbeats 4000000 in
set_option maxRecDepth 100000 in
theorem kl_goes {l : Launch} {D : va_G} {cy : Nat → ClassId} {w : zW} {f : zF} {s : Nat → Int32} {k b : Nat} (hw : w.1 = 136) (hg : s 1 = nI (b + 1)) (hk : k ≤ b) (hb : b < 10) : zSd l D cy yL_goes cL_goes 4 none 0 0 [.ref (w.2 (132)), .ref (w.2 (134)), .int (nI k)] w (lW cy f s) none (lW cy f (dGo s k b)) := by
  refine zSd.intro (by decide) (Nat.le_of_ble_eq_true rfl) (fun G X E => ?_)
  show G (w, 0, 0) (lW cy f s) [(0, .ref (w.2 (132))), (1, .ref (w.2 (134))), (2, .int (nI k))] 0 []
  refine zr_aload_n X 0 dL_goes_0 rfl rfl ?_
  refine zr_iconst X (v := 1) dL_goes_1 (by decide) ?_
  refine zr_dup2 X dL_goes_2 rfl rfl ?_
  refine zr_lld X hw lr_g (1) (1) (rfl) (by decide) rfl dL_goes_3 ?_
  refine zr_iconst X (v := 1) dL_goes_4 (by decide) ?_
  refine zr_isub X dL_goes_5 ?_
  refine zr_lst X hw lr_g (1) (1) (rfl) (by decide) rfl dL_goes_6 ?_
  refine zcw (f2 := lW cy f (dGoL s k b 0)) (by rw [hg, nI_pred]; rfl) ?_
  refine zr_bipush X (v := 6) dL_goes_7 (by decide) ?_
  refine zr_iload_n X 2 dL_goes_9 rfl rfl ?_
  refine zr_imul X dL_goes_10 ?_
  refine zr_istore_n X (ls' := [(3, .int (6 * (nI k))), (0, .ref (w.2 (132))), (1, .ref (w.2 (134))), (2, .int (nI k))]) dL_goes_11 rfl (by decide) rfl ?_
  refine zr_loc X (ls' := [(0, .ref (w.2 (132))), (1, .ref (w.2 (134))), (2, .int (nI k)), (3, .int (6 * (nI k)))]) [1, 2, 3, 0] rfl ?_
  refine zcast (f2 := lW cy f (dGoL s k b (0))) (ls2 := [(0, .ref (w.2 (132))), (1, .ref (w.2 (134))), (2, .int (nI k)), (3, .int (nI (6 * k + (0))))]) rfl (by rw [show (6 : Int32) * nI k = nI (6 * k) from nI_ml (c := 6)]; rfl) ?_
  refine zdown (P := fun n => G (w, 0, 0) (lW cy f (dGoL s k b (n))) [(0, .ref (w.2 (132))), (1, .ref (w.2 (134))), (2, .int (nI k)), (3, .int (nI (6 * k + (n))))] 12 []) (B := 6 * (b - k)) ?_ (fun n hn12 ih12 => ?_) 0 (Nat.zero_le _) 
  · show G (w, 0, 0) (lW cy f (dGoL s k b (6 * (b - k)))) [(0, .ref (w.2 (132))), (1, .ref (w.2 (134))), (2, .int (nI k)), (3, .int (nI (6 * k + (6 * (b - k)))))] 12 []
    refine zr_iload_n X 3 dL_goes_12 rfl rfl ?_
    refine zr_bipush X (v := 6) dL_goes_13 (by decide) ?_
    refine zr_aload_n X 0 dL_goes_15 rfl rfl ?_
    refine zr_iconst X (v := 1) dL_goes_16 (by decide) ?_
    refine zr_lld X hw lr_g (1) (1) (rfl) (by decide) rfl dL_goes_17 ?_
    refine zr_imul X dL_goes_18 ?_
    refine zr_icmp_ge X (tgt := 37) dL_goes_19 (by decide) (fun _ => ?_) (fun h => False.elim (h (by rw [lgo_1, show 6 * k + 6 * (b - k) = 6 * b by omega]; exact Int32.le_refl _)))
    exact zret_v E rfl dL_goes_37 rfl
  · show G (w, 0, 0) (lW cy f (dGoL s k b (n))) [(0, .ref (w.2 (132))), (1, .ref (w.2 (134))), (2, .int (nI k)), (3, .int (nI (6 * k + (n))))] 12 []
    refine zr_iload_n X 3 dL_goes_12 rfl rfl ?_
    refine zr_bipush X (v := 6) dL_goes_13 (by decide) ?_
    refine zr_aload_n X 0 dL_goes_15 rfl rfl ?_
    refine zr_iconst X (v := 1) dL_goes_16 (by decide) ?_
    refine zr_lld X hw lr_g (1) (1) (rfl) (by decide) rfl dL_goes_17 ?_
    refine zr_imul X dL_goes_18 ?_
    refine zr_icmp_ge X (tgt := 37) dL_goes_19 (by decide) (fun h => False.elim (nI_ge (show 6 * k + n < 6 * b by omega) (by omega) (by rw [← lgo_1 (s := s) (k := k) (n := n)]; exact h))) (fun _ => ?_)
    refine zr_aload_n X 1 dL_goes_22 rfl rfl ?_
    refine zr_iload_n X 3 dL_goes_23 rfl rfl ?_
    refine zr_aload_n X 1 dL_goes_24 rfl rfl ?_
    refine zr_iload_n X 3 dL_goes_25 rfl rfl ?_
    refine zr_bipush X (v := 6) dL_goes_26 (by decide) ?_
    refine zr_iadd X dL_goes_28 ?_
    refine zr_lld X hw lr_p (6 * k + n + 6) (55 + 6 * k + n + 6) (nI_add _ 6) (by omega) (by omega) dL_goes_29 ?_
    refine zr_lst X hw lr_p (6 * k + n) (55 + 6 * k + n) (rfl) (by omega) (by omega) dL_goes_30 ?_
    refine zcw (f2 := lW cy f (dGoL s k b (n + 1))) rfl ?_
    refine zr_iinc X (v := nI (6 * k + (n) + 1)) (ls' := [(3, .int (nI (6 * k + (n) + 1))), (0, .ref (w.2 (132))), (1, .ref (w.2 (134))), (2, .int (nI k))]) 3 dL_goes_31 rfl (zinc1 _) (by decide) rfl ?_
    refine zr_goto X (tgt := 12) dL_goes_34 (by decide) ?_
    refine zr_loc X (ls' := [(0, .ref (w.2 (132))), (1, .ref (w.2 (134))), (2, .int (nI k)), (3, .int (nI (6 * k + (n) + 1)))]) [1, 2, 3, 0] rfl ?_
    exact zcast (f2 := lW cy f (dGoL s k b (n + 1))) (ls2 := [(0, .ref (w.2 (132))), (1, .ref (w.2 (134))), (2, .int (nI k)), (3, .int (nI (6 * k + (n + 1))))]) rfl rfl ih12
def lWhy (s : Nat → Int32) (k : Nat) (n : Int32) : Int32 := if s (19 + 9 * k + 2) ≤ 0 then (if n ≤ s (19 + 9 * k) then (if s 6 + s 15 * n ≤ s 16 then 0 else 3) else 2) else 1
set_option maxHeartbeats 4000000 in
set_option maxRecDepth 100000 in
theorem kl_why {l : Launch} {D : va_G} {cy : Nat → ClassId} {w : zW} {f : zF} {s : Nat → Int32} {k : Nat} {n : Int32} (hw : w.1 = 136) (hk : k < 4) : zSd l D cy yL_why cL_why 4 (some .int) 0 0 [.ref (w.2 (132)), .ref (w.2 (133)), .int (nI k), .int (n)] w (lW cy f s) (some (.int (lWhy s k n))) (lW cy f s) := by
  refine zSd.intro (by decide) (Nat.le_of_ble_eq_true rfl) (fun G X E => ?_)
  show G (w, 0, 0) (lW cy f s) [(0, .ref (w.2 (132))), (1, .ref (w.2 (133))), (2, .int (nI k)), (3, .int (n))] 0 []
  refine zr_aload_n X 1 dL_why_0 rfl rfl ?_
  refine zr_bipush X (v := 9) dL_why_1 (by decide) ?_
  refine zr_iload_n X 2 dL_why_3 rfl rfl ?_
  refine zr_imul X dL_why_4 ?_
  refine zr_iconst X (v := 2) dL_why_5 (by decide) ?_
  refine zr_iadd X dL_why_6 ?_
  refine zr_lld X hw lr_m (9 * k + 2) (19 + 9 * k + 2) (nI_mul9 (c := 9) (i := 2)) (by omega) (by omega) dL_why_7 ?_
  refine zr_if_le X (tgt := 15) dL_why_8 (by decide) (fun h1 => ?_) (fun h2 => ?_)
  · refine zr_iload_n X 3 dL_why_15 rfl rfl ?_
    refine zr_aload_n X 1 dL_why_16 rfl rfl ?_
    refine zr_bipush X (v := 9) dL_why_17 (by decide) ?_
    refine zr_iload_n X 2 dL_why_19 rfl rfl ?_
    refine zr_imul X dL_why_20 ?_
    refine zr_lld X hw lr_m (9 * k) (19 + 9 * k) (nI_ml (c := 9)) (by omega) (by omega) dL_why_21 ?_
    refine zr_icmp_le X (tgt := 29) dL_why_22 (by decide) (fun h3 => ?_) (fun h4 => ?_)
    · refine zr_aload_n X 0 dL_why_29 rfl rfl ?_
      refine zr_bipush X (v := 6) dL_why_30 (by decide) ?_
      refine zr_lld X hw lr_g (6) (6) (rfl) (by decide) rfl dL_why_32 ?_
      refine zr_aload_n X 0 dL_why_33 rfl rfl ?_
      refine zr_bipush X (v := 15) dL_why_34 (by decide) ?_
      refine zr_lld X hw lr_g (15) (15) (rfl) (by decide) rfl dL_why_36 ?_
      refine zr_iload_n X 3 dL_why_37 rfl rfl ?_
      refine zr_imul X dL_why_38 ?_
      refine zr_iadd X dL_why_39 ?_
      refine zr_aload_n X 0 dL_why_40 rfl rfl ?_
      refine zr_bipush X (v := 16) dL_why_41 (by decide) ?_
      refine zr_lld X hw lr_g (16) (16) (rfl) (by decide) rfl dL_why_43 ?_
      refine zr_icmp_le X (tgt := 51) dL_why_44 (by decide) (fun h5 => ?_) (fun h6 => ?_)
      · refine zr_iconst X (v := 0) dL_why_51 (by decide) ?_
        exact zret_i E rfl dL_why_52 (by simp only [lWhy, if_pos h1, if_pos h3, if_pos h5]) rfl
      · refine zr_iconst X (v := 3) dL_why_47 (by decide) ?_
        refine zr_goto X (tgt := 52) dL_why_48 (by decide) ?_
        exact zret_i E rfl dL_why_52 (by simp only [lWhy, if_pos h1, if_pos h3, if_neg h6]) rfl
    · refine zr_iconst X (v := 2) dL_why_25 (by decide) ?_
      refine zr_goto X (tgt := 52) dL_why_26 (by decide) ?_
      exact zret_i E rfl dL_why_52 (by simp only [lWhy, if_pos h1, if_neg h4]) rfl
  · refine zr_iconst X (v := 1) dL_why_11 (by decide) ?_
    refine zr_goto X (tgt := 52) dL_why_12 (by decide) ?_
    exact zret_i E rfl dL_why_52 (by simp only [lWhy, if_neg h2]) rfl
def lCoN (t : Nat → Int32) (k : Nat) : Nat → Int32 := lCo t k (t (19 + 9 * k + 4)).toNatClampNeg
def lMuS (sn : Int32) (k : Nat) (t : Nat → Int32) : Nat → Int32 := if t (19 + 9 * k + 2) = 3 then lCoN t k else if t (19 + 9 * k + 2) ≤ 0 then t else if sn = 0 then lCoN t k else t
def lMu (s : Nat → Int32) (sn : Int32) (n : Nat) : Nat → Int32 := zfold (lMuS sn) s n
theorem lMu_s {s : Nat → Int32} {sn : Int32} {n : Nat} : lMu s sn (n + 1) = lMuS sn n (lMu s sn n) := rfl
def lWn (t : Nat → Int32) (k : Nat) : Int32 := t (55 + 6 * k + 1) / 2 + (t (55 + 6 * k + 1) - t (55 + 6 * k + 1) / 2 * 2)
def lEaS (fr k : Nat) (t : Nat → Int32) : Nat → Int32 := if t 3 < t (55 + 6 * k + 2) then t else if t (55 + 6 * k + 2) + t (55 + 6 * k + 3) ≤ t 3 then t else lEat t k fr (lWn t k).toNatClampNeg
def lEf (s : Nat → Int32) (fr n : Nat) : Nat → Int32 := zfold (lEaS fr) s n
theorem lEf_s {s : Nat → Int32} {fr n : Nat} : lEf s fr (n + 1) = lEaS fr n (lEf s fr n) := rfl
def lGz : Nat → Nat → Nat → (Nat → Int32) → Nat → Int32
  | 0, _, _, u => u
  | m + 1, k, b, u => if u (55 + 6 * k + 2) + u (55 + 6 * k + 3) = u 3 then lGz m k (b - 1) (dGo u k (b - 1)) else lGz m (k + 1) b u
theorem lGz_s {m k b : Nat} {u : Nat → Int32} : lGz (m + 1) k b u = if u (55 + 6 * k + 2) + u (55 + 6 * k + 3) = u 3 then lGz m k (b - 1) (dGo u k (b - 1)) else lGz m (k + 1) b u := rfl
def lB1 (s : Nat → Int32) (mc : Nat) : Nat → Int32 := lMu (dN1 s) (dSn s) mc
def lB2 (s : Nat → Int32) (mc bk fr : Nat) : Nat → Int32 := lEf (lB1 s mc) fr bk
def lB3 (s : Nat → Int32) (mc bk fr : Nat) : Nat → Int32 := dSft (lB2 s mc bk fr)
def lB4 (s : Nat → Int32) (mc bk fr : Nat) : Nat → Int32 := upd (lB3 s mc bk fr) 3 ((lB3 s mc bk fr) 3 + 1)
def lDay (s : Nat → Int32) (mc bk fr : Nat) : Nat → Int32 := lGz bk 0 bk (lB4 s mc bk fr)
theorem lS1_ne {A : Int32} {t : Nat → Int32} {i : Nat} (h : i < 115) (h9 : i ≠ 9) (h10 : i ≠ 10) : lS1 A t i = t i := by
  unfold lS1
  split
  · split
    · exact upd_ne h10
    · exact upd_ne (by omega)
  · exact upd_ne h9
theorem lSt_ne {A : Int32} {t : Nat → Int32} {i : Nat} (h : i < 115) (h9 : i ≠ 9) (h10 : i ≠ 10) : ∀ n, lSt t A n i = t i
  | 0 => rfl
  | n + 1 => (lS1_ne h h9 h10).trans (lSt_ne h h9 h10 n)
theorem lCo_ne {s : Nat → Int32} {k N i : Nat} (h : i < 19 + 9 * k ∨ 19 + 9 * k + 9 ≤ i) (h3 : i < 115) (h9 : i ≠ 9) (h10 : i ≠ 10) : lCo s k N i = s i := by
  have e : (dC1 s k) i = s i := dC1_ne (by omega)
  have hm : lHm s k i = s i := by
    unfold lHm
    split
    · rw [upd_ne (by omega), upd_ne (by omega), e]
    · rw [upd_ne (by omega), upd_ne (by omega), e]
  unfold lCo
  split
  · split
    · unfold lUp
      rw [upd_ne (by omega), upd_ne (by omega), upd_ne (by omega), lSt_ne h3 h9 h10]
      unfold lC2
      rw [upd_ne (by omega), e]
    · split
      · split
        · exact hm
        · unfold lLm
          rw [upd_ne (by omega), upd_ne (by omega), upd_ne (by omega), e]
      · exact hm
  · exact e
theorem lMuS_ne {sn : Int32} {s : Nat → Int32} {k i : Nat} (h : i < 19 + 9 * k ∨ 19 + 9 * k + 9 ≤ i) (h3 : i < 115) (h9 : i ≠ 9) (h10 : i ≠ 10) : lMuS sn k s i = s i := by
  unfold lMuS
  split
  · exact lCo_ne h h3 h9 h10
  · split
    · rfl
    · split
      · exact lCo_ne h h3 h9 h10
      · rfl
theorem lMu_ne {sn : Int32} {s : Nat → Int32} {i : Nat} (h3 : i < 115) (h9 : i ≠ 9) (h10 : i ≠ 10) : ∀ n, (i < 19 ∨ 19 + 9 * n ≤ i) → lMu s sn n i = s i
  | 0, _ => rfl
  | n + 1, h => (lMuS_ne (by omega) h3 h9 h10).trans (lMu_ne h3 h9 h10 n (by omega))
theorem lE3_ne {t : Nat → Int32} {k i : Nat} {p h : Int32} (h3 : i ≠ 5) (h4 : i ≠ 12) (h5 : i ≠ 13) (h6 : i ≠ 55 + 6 * k + 4) (h7 : i ≠ 55 + 6 * k + 5) : lE3 t k p h i = t i := by
  unfold lE3
  rw [upd_ne h5, upd_ne h4, upd_ne h3, upd_ne h7, upd_ne h6]
theorem lEat_ne {s : Nat → Int32} {k fr N i : Nat} (h1 : i < 115) (h2 : i ≠ 8) (h3 : i ≠ 5) (h4 : i ≠ 12) (h5 : i ≠ 13) (h6 : i ≠ 55 + 6 * k + 4) (h7 : i ≠ 55 + 6 * k + 5) : lEat s k fr N i = s i := by
  have e : (lEB s fr N).1 i = s i := (lEb_lo h1 h2 _ _ _).trans (lEa_lo h1 h2 _ _)
  unfold lEat
  split
  · split
    · rw [lE3_ne h3 h4 h5 h6 h7, e]
    · rw [lE3_ne h3 h4 h5 h6 h7, e]
  · rw [lE3_ne h3 h4 h5 h6 h7, e]
theorem lEaS_ne {s : Nat → Int32} {k fr i : Nat} (h1 : i < 115) (h2 : i ≠ 8) (h3 : i ≠ 5) (h4 : i ≠ 12) (h5 : i ≠ 13) (h6 : i ≠ 55 + 6 * k + 4) (h7 : i ≠ 55 + 6 * k + 5) : lEaS fr k s i = s i := by
  unfold lEaS
  split
  · rfl
  · split
    · rfl
    · exact lEat_ne h1 h2 h3 h4 h5 h6 h7
theorem lEf_ne {s : Nat → Int32} {fr i : Nat} (h1 : i < 115) (h2 : i ≠ 8) (h3 : i ≠ 5) (h4 : i ≠ 12) (h5 : i ≠ 13) : ∀ n, (∀ k, k < n → i ≠ 55 + 6 * k + 4 ∧ i ≠ 55 + 6 * k + 5) → lEf s fr n i = s i
  | 0, _ => rfl
  | n + 1, h => (lEaS_ne h1 h2 h3 h4 h5 (h n (Nat.lt_succ_self n)).1 (h n (Nat.lt_succ_self n)).2).trans (lEf_ne h1 h2 h3 h4 h5 n (fun k hk => h k (by omega)))
theorem lB1_lo {s : Nat → Int32} {mc i : Nat} (h : i < 19) (h1 : i ≠ 4) (h2 : i ≠ 9) (h3 : i ≠ 10) (h4 : i ≠ 11) : lB1 s mc i = s i := (lMu_ne (by omega) h2 h3 _ (.inl h)).trans (dN1_ne h1 h4)
theorem lB2_lo {s : Nat → Int32} {mc bk fr i : Nat} (h : i < 19) (h1 : i ≠ 4) (h2 : i ≠ 9) (h3 : i ≠ 10) (h4 : i ≠ 11) (h5 : i ≠ 5) (h6 : i ≠ 8) (h7 : i ≠ 12) (h8 : i ≠ 13) : lB2 s mc bk fr i = s i := (lEf_ne (by omega) h6 h5 h7 h8 _ (fun k hk => ⟨by omega, by omega⟩)).trans (lB1_lo h h1 h2 h3 h4)
theorem lB3_lo {s : Nat → Int32} {mc bk fr i : Nat} (h : i < 19) (h1 : i ≠ 4) (h2 : i ≠ 9) (h3 : i ≠ 10) (h4 : i ≠ 11) (h5 : i ≠ 5) (h6 : i ≠ 8) (h7 : i ≠ 12) (h8 : i ≠ 13) : lB3 s mc bk fr i = s i := (dSft_lo (by omega) h2).trans (lB2_lo h h1 h2 h3 h4 h5 h6 h7 h8)
/-- what a day asks of a hut -/
def lDg (s : Nat → Int32) (mc bk fr : Nat) : Prop := s 0 = nI mc ∧ mc ≤ 4 ∧ s 1 = nI bk ∧ bk ≤ 10 ∧ s 17 = nI fr ∧ fr ≤ 15 ∧ (∀ m, m < mc → (∃ N, N ≤ 30 ∧ s (19 + 9 * m + 4) = nI N) ∧ (s (19 + 9 * m + 2) = 1 → ¬ (s 3 - s (19 + 9 * m + 5)) < 0)) ∧ ∀ j, j < bk → ∃ N, N ≤ 6 ∧ lWn s j = nI N
theorem lcl {x : Int32} {N M : Nat} (h : x = nI N) (hN : N ≤ M) (hM : M < 2147483648) : x = nI x.toNatClampNeg ∧ x.toNatClampNeg ≤ M := by
  rw [h, nI_clamp (by omega)]
  exact ⟨rfl, hN⟩
theorem ld_mu {s : Nat → Int32} {sn : Int32} {k i : Nat} (h : k < 4) (hi : i < 9) : lMu (dN1 s) sn k (19 + 9 * k + i) = s (19 + 9 * k + i) := (lMu_ne (by omega) (by omega) (by omega) k (.inr (by omega))).trans (dN1_ne (by omega) (by omega))
theorem ld_ea {s : Nat → Int32} {mc fr n k i : Nat} (hmc : mc ≤ 4) (h : k < 10) (hi : i < 4) : lEf (lB1 s mc) fr n (55 + 6 * k + i) = s (55 + 6 * k + i) := (lEf_ne (by omega) (by omega) (by omega) (by omega) (by omega) n (fun j hj => ⟨by omega, by omega⟩)).trans ((lMu_ne (by omega) (by omega) (by omega) _ (.inr (by omega))).trans (dN1_ne (by omega) (by omega)) : lB1 s mc (55 + 6 * k + i) = s (55 + 6 * k + i))
set_option maxHeartbeats 4000000 in
set_option maxRecDepth 100000 in
theorem kl_day {l : Launch} {D : va_G} {cy : Nat → ClassId} {w : zW} {f : zF} {s : Nat → Int32} {mc bk fr : Nat} (hw : w.1 = 136) (hdg : lDg s mc bk fr) : zSd l D cy yL_day cL_day 6 none 2 51 [.ref (w.2 (132)), .ref (w.2 (133)), .ref (w.2 (134)), .ref (w.2 (135))] w (lW cy f s) none (lW cy f (lDay s mc bk fr)) := by
  refine zSd.intro (by decide) (Nat.le_of_ble_eq_true rfl) (fun G X E => ?_)
  obtain ⟨hm, hmc, hg, hbk, hf, hfr, hd, hj9⟩ := hdg
  show G (w, 0, 0) (lW cy f s) [(0, .ref (w.2 (132))), (1, .ref (w.2 (133))), (2, .ref (w.2 (134))), (3, .ref (w.2 (135)))] 0 []
  refine zr_aload_n X 0 dL_day_0 rfl rfl ?_
  refine zr_iconst X (v := 4) dL_day_1 (by decide) ?_
  refine zr_sipush X (v := 421) dL_day_2 (by decide) ?_
  refine zr_aload_n X 0 dL_day_5 rfl rfl ?_
  refine zr_iconst X (v := 4) dL_day_6 (by decide) ?_
  refine zr_lld X hw lr_g (4) (4) (rfl) (by decide) rfl dL_day_7 ?_
  refine zr_imul X dL_day_8 ?_
  refine zr_sipush X (v := 1663) dL_day_9 (by decide) ?_
  refine zr_iadd X dL_day_12 ?_
  refine zr_sipush X (v := 10000) dL_day_13 (by decide) ?_
  refine zr_irem X dL_day_16 (by decide) ?_
  refine zr_lst X hw lr_g (4) (4) (rfl) (by decide) rfl dL_day_17 ?_
  refine zcw (f2 := lW cy f (dN0 s)) (by unfold dN0; rw [Int32.mul_comm (s 4) 421]) ?_
  have J55 : G (w, 0, 0) (lW cy f (dN1 s)) [(0, .ref (w.2 (132))), (1, .ref (w.2 (133))), (2, .ref (w.2 (134))), (3, .ref (w.2 (135))), (4, .int (dSn s))] 55 [] := by
    refine zr_iconst X (v := 0) dL_day_55 (by decide) ?_
    refine zr_istore X (ls' := [(5, .int (0)), (0, .ref (w.2 (132))), (1, .ref (w.2 (133))), (2, .ref (w.2 (134))), (3, .ref (w.2 (135))), (4, .int (dSn s))]) dL_day_56 (by decide) rfl ?_
    refine zr_loc X (ls' := [(0, .ref (w.2 (132))), (1, .ref (w.2 (133))), (2, .ref (w.2 (134))), (3, .ref (w.2 (135))), (4, .int (dSn s)), (5, .int (0))]) [1, 2, 3, 4, 5, 0] rfl ?_
    refine zcast (f2 := lW cy f (lMu (dN1 s) (dSn s) (0))) (ls2 := [(0, .ref (w.2 (132))), (1, .ref (w.2 (133))), (2, .ref (w.2 (134))), (3, .ref (w.2 (135))), (4, .int (dSn s)), (5, .int (nI (9 * (0))))]) rfl rfl ?_
    refine zdown (P := fun n => G (w, 0, 0) (lW cy f (lMu (dN1 s) (dSn s) (n))) [(0, .ref (w.2 (132))), (1, .ref (w.2 (133))), (2, .ref (w.2 (134))), (3, .ref (w.2 (135))), (4, .int (dSn s)), (5, .int (nI (9 * (n))))] 58 []) (B := mc) ?_ (fun n hn58 ih58 => ?_) 0 (Nat.zero_le _) 
    · show G (w, 0, 0) (lW cy f (lMu (dN1 s) (dSn s) (mc))) [(0, .ref (w.2 (132))), (1, .ref (w.2 (133))), (2, .ref (w.2 (134))), (3, .ref (w.2 (135))), (4, .int (dSn s)), (5, .int (nI (9 * (mc))))] 58 []
      refine zr_iload X 5 dL_day_58 rfl ?_
      refine zr_bipush X (v := 9) dL_day_60 (by decide) ?_
      refine zr_aload_n X 0 dL_day_62 rfl rfl ?_
      refine zr_iconst X (v := 0) dL_day_63 (by decide) ?_
      refine zr_lld X hw lr_g (0) (0) (rfl) (by decide) rfl dL_day_64 ?_
      refine zr_imul X dL_day_65 ?_
      refine zr_icmp_ge X (tgt := 107) dL_day_66 (by decide) (fun _ => ?_) (fun h => False.elim (h (by rw [lMu_ne (by decide) (by decide) (by decide) mc (.inl (by decide)), dN1_ne (by decide) (by decide), hm, show (9 : Int32) * nI mc = nI (9 * mc) from nI_ml (c := 9)]; exact Int32.le_refl _)))
      refine zr_iconst X (v := 0) dL_day_107 (by decide) ?_
      refine zr_istore X (ls' := [(5, .int (0)), (0, .ref (w.2 (132))), (1, .ref (w.2 (133))), (2, .ref (w.2 (134))), (3, .ref (w.2 (135))), (4, .int (dSn s))]) dL_day_108 (by decide) rfl ?_
      refine zr_loc X (ls' := [(0, .ref (w.2 (132))), (1, .ref (w.2 (133))), (2, .ref (w.2 (134))), (3, .ref (w.2 (135))), (4, .int (dSn s)), (5, .int (0))]) [1, 2, 3, 4, 5, 0] rfl ?_
      refine zcast (f2 := lW cy f (lEf (lB1 s mc) fr (0))) (ls2 := [(0, .ref (w.2 (132))), (1, .ref (w.2 (133))), (2, .ref (w.2 (134))), (3, .ref (w.2 (135))), (4, .int (dSn s)), (5, .int (nI (6 * (0))))]) rfl rfl ?_
      refine zdown (P := fun n => G (w, 0, 0) (lW cy f (lEf (lB1 s mc) fr (n))) [(0, .ref (w.2 (132))), (1, .ref (w.2 (133))), (2, .ref (w.2 (134))), (3, .ref (w.2 (135))), (4, .int (dSn s)), (5, .int (nI (6 * (n))))] 110 []) (B := bk) ?_ (fun n hn110 ih110 => ?_) 0 (Nat.zero_le _) 
      · show G (w, 0, 0) (lW cy f (lEf (lB1 s mc) fr (bk))) [(0, .ref (w.2 (132))), (1, .ref (w.2 (133))), (2, .ref (w.2 (134))), (3, .ref (w.2 (135))), (4, .int (dSn s)), (5, .int (nI (6 * (bk))))] 110 []
        refine zr_iload X 5 dL_day_110 rfl ?_
        refine zr_bipush X (v := 6) dL_day_112 (by decide) ?_
        refine zr_aload_n X 0 dL_day_114 rfl rfl ?_
        refine zr_iconst X (v := 1) dL_day_115 (by decide) ?_
        refine zr_lld X hw lr_g (1) (1) (rfl) (by decide) rfl dL_day_116 ?_
        refine zr_imul X dL_day_117 ?_
        refine zr_icmp_ge X (tgt := 166) dL_day_118 (by decide) (fun _ => ?_) (fun h => False.elim (h (by rw [lEf_ne (by decide) (by decide) (by decide) (by decide) (by decide) bk (fun j hj => ⟨by omega, by omega⟩), lB1_lo (by decide) (by decide) (by decide) (by decide) (by decide), hg, show (6 : Int32) * nI bk = nI (6 * bk) from nI_ml (c := 6)]; exact Int32.le_refl _)))
        refine zr_aload_n X 0 dL_day_166 rfl rfl ?_
        refine zr_bipush X (v := 9) dL_day_167 (by decide) ?_
        refine zr_dup2 X dL_day_169 rfl rfl ?_
        refine zr_lld X hw lr_g (9) (9) (rfl) (by decide) rfl dL_day_170 ?_
        refine zr_aload_n X 3 dL_day_171 rfl rfl ?_
        refine zr_bipush X (v := 20) dL_day_172 (by decide) ?_
        refine zr_lld X hw lr_a (20) (135) (rfl) (by decide) rfl dL_day_174 ?_
        refine zr_iadd X dL_day_175 ?_
        refine zr_lst X hw lr_g (9) (9) (rfl) (by decide) rfl dL_day_176 ?_
        refine zcw (f2 := lW cy f (dThr (lB2 s mc bk fr))) (rfl) ?_
        refine zr_bipush X (v := 20) dL_day_177 (by decide) ?_
        refine zr_istore X (ls' := [(5, .int (20)), (0, .ref (w.2 (132))), (1, .ref (w.2 (133))), (2, .ref (w.2 (134))), (3, .ref (w.2 (135))), (4, .int (dSn s))]) dL_day_179 (by decide) rfl ?_
        refine zr_loc X (ls' := [(0, .ref (w.2 (132))), (1, .ref (w.2 (133))), (2, .ref (w.2 (134))), (3, .ref (w.2 (135))), (5, .int (20))]) [1, 2, 3, 4, 0] rfl ?_
        refine zcast (f2 := lW cy f (dSh (dThr (lB2 s mc bk fr)) (0))) (ls2 := [(0, .ref (w.2 (132))), (1, .ref (w.2 (133))), (2, .ref (w.2 (134))), (3, .ref (w.2 (135))), (5, .int (nI (20 - (0))))]) rfl rfl ?_
        refine zdown (P := fun n => G (w, 0, 0) (lW cy f (dSh (dThr (lB2 s mc bk fr)) (n))) [(0, .ref (w.2 (132))), (1, .ref (w.2 (133))), (2, .ref (w.2 (134))), (3, .ref (w.2 (135))), (5, .int (nI (20 - (n))))] 181 []) (B := 20) ?_ (fun n hn181 ih181 => ?_) 0 (Nat.zero_le _) 
        · show G (w, 0, 0) (lW cy f (dSh (dThr (lB2 s mc bk fr)) (20))) [(0, .ref (w.2 (132))), (1, .ref (w.2 (133))), (2, .ref (w.2 (134))), (3, .ref (w.2 (135))), (5, .int (nI (20 - (20))))] 181 []
          refine zr_iload X 4 dL_day_181 rfl ?_
          refine zr_if_le X (tgt := 202) dL_day_183 (by decide) (fun _ => ?_) (fun h => False.elim (h (by decide)))
          refine zr_aload_n X 3 dL_day_202 rfl rfl ?_
          refine zr_iconst X (v := 0) dL_day_203 (by decide) ?_
          refine zr_iconst X (v := 0) dL_day_204 (by decide) ?_
          refine zr_lst X hw lr_a (0) (115) (rfl) (by decide) rfl dL_day_205 ?_
          refine zcw (f2 := lW cy f (lB3 s mc bk fr)) (rfl) ?_
          refine zr_aload_n X 0 dL_day_206 rfl rfl ?_
          refine zr_iconst X (v := 3) dL_day_207 (by decide) ?_
          refine zr_dup2 X dL_day_208 rfl rfl ?_
          refine zr_lld X hw lr_g (3) (3) (rfl) (by decide) rfl dL_day_209 ?_
          refine zr_iconst X (v := 1) dL_day_210 (by decide) ?_
          refine zr_iadd X dL_day_211 ?_
          refine zr_lst X hw lr_g (3) (3) (rfl) (by decide) rfl dL_day_212 ?_
          refine zcw (f2 := lW cy f (lB4 s mc bk fr)) (rfl) ?_
          refine zr_iconst X (v := 0) dL_day_213 (by decide) ?_
          refine zr_istore X (ls' := [(5, .int (0)), (0, .ref (w.2 (132))), (1, .ref (w.2 (133))), (2, .ref (w.2 (134))), (3, .ref (w.2 (135)))]) dL_day_214 (by decide) rfl ?_
          refine zr_loc X (ls' := [(0, .ref (w.2 (132))), (1, .ref (w.2 (133))), (2, .ref (w.2 (134))), (3, .ref (w.2 (135))), (5, .int (0))]) [1, 2, 3, 4, 0] rfl ?_
          refine zcast (f2 := lW cy f (lB4 s mc bk fr)) (ls2 := [(0, .ref (w.2 (132))), (1, .ref (w.2 (133))), (2, .ref (w.2 (134))), (3, .ref (w.2 (135))), (5, .int (0))]) rfl rfl ?_
          refine zdown (P := fun n => ∀ (k b : Nat) (u : Nat → Int32), lGz (bk - (n)) k b u = lGz bk 0 bk (lB4 s mc bk fr) → u 1 = nI b → b = k + (bk - (n)) → b ≤ 10 → G (w, 0, 0) (lW cy f u) [(0, .ref (w.2 (132))), (1, .ref (w.2 (133))), (2, .ref (w.2 (134))), (3, .ref (w.2 (135))), (5, .int (nI k))] 216 []) (B := bk) ?_ (fun n hn216 ih216 => ?_) 0 (Nat.zero_le _) 0 bk _ rfl (((upd_ne (by decide)).trans (lB3_lo (by decide) (by decide) (by decide) (by decide) (by decide) (by decide) (by decide) (by decide) (by decide))).trans hg) (by omega) hbk
          · show ∀ (k b : Nat) (u : Nat → Int32), lGz (bk - (bk)) k b u = lGz bk 0 bk (lB4 s mc bk fr) → u 1 = nI b → b = k + (bk - (bk)) → b ≤ 10 → G (w, 0, 0) (lW cy f u) [(0, .ref (w.2 (132))), (1, .ref (w.2 (133))), (2, .ref (w.2 (134))), (3, .ref (w.2 (135))), (5, .int (nI k))] 216 []
            intro k b u q g1 g2 g3
            rw [Nat.sub_self] at q
            refine zr_iload X 4 dL_day_216 rfl ?_
            refine zr_aload_n X 0 dL_day_218 rfl rfl ?_
            refine zr_iconst X (v := 1) dL_day_219 (by decide) ?_
            refine zr_lld X hw lr_g (1) (1) (rfl) (by decide) rfl dL_day_220 ?_
            refine zr_icmp_ge X (tgt := 265) dL_day_221 (by decide) (fun _ => ?_) (fun h => False.elim (h (by rw [g1, show b = k by omega]; exact Int32.le_refl _)))
            exact zret_v E rfl dL_day_265 (by unfold lDay; rw [← q]; rfl)
          · show ∀ (k b : Nat) (u : Nat → Int32), lGz (bk - (n)) k b u = lGz bk 0 bk (lB4 s mc bk fr) → u 1 = nI b → b = k + (bk - (n)) → b ≤ 10 → G (w, 0, 0) (lW cy f u) [(0, .ref (w.2 (132))), (1, .ref (w.2 (133))), (2, .ref (w.2 (134))), (3, .ref (w.2 (135))), (5, .int (nI k))] 216 []
            intro k b u q g1 g2 g3
            rw [show bk - n = (bk - (n + 1)) + 1 by omega] at q
            refine zr_iload X 4 dL_day_216 rfl ?_
            refine zr_aload_n X 0 dL_day_218 rfl rfl ?_
            refine zr_iconst X (v := 1) dL_day_219 (by decide) ?_
            refine zr_lld X hw lr_g (1) (1) (rfl) (by decide) rfl dL_day_220 ?_
            refine zr_icmp_ge X (tgt := 265) dL_day_221 (by decide) (fun h => False.elim (nI_ge (show k < b by omega) (by omega) (by rw [← g1]; exact h))) (fun _ => ?_)
            refine zr_aload_n X 2 dL_day_224 rfl rfl ?_
            refine zr_bipush X (v := 6) dL_day_225 (by decide) ?_
            refine zr_iload X 4 dL_day_227 rfl ?_
            refine zr_imul X dL_day_229 ?_
            refine zr_iconst X (v := 2) dL_day_230 (by decide) ?_
            refine zr_iadd X dL_day_231 ?_
            refine zr_lld X hw lr_p (6 * k + 2) (55 + 6 * k + 2) (nI_mul9 (c := 6) (i := 2)) (by omega) (by omega) dL_day_232 ?_
            refine zr_aload_n X 2 dL_day_233 rfl rfl ?_
            refine zr_bipush X (v := 6) dL_day_234 (by decide) ?_
            refine zr_iload X 4 dL_day_236 rfl ?_
            refine zr_imul X dL_day_238 ?_
            refine zr_iconst X (v := 3) dL_day_239 (by decide) ?_
            refine zr_iadd X dL_day_240 ?_
            refine zr_lld X hw lr_p (6 * k + 3) (55 + 6 * k + 3) (nI_mul9 (c := 6) (i := 3)) (by omega) (by omega) dL_day_241 ?_
            refine zr_iadd X dL_day_242 ?_
            refine zr_aload_n X 0 dL_day_243 rfl rfl ?_
            refine zr_iconst X (v := 3) dL_day_244 (by decide) ?_
            refine zr_lld X hw lr_g (3) (3) (rfl) (by decide) rfl dL_day_245 ?_
            refine zr_icmp_ne X (tgt := 259) dL_day_246 (by decide) (fun h1 => ?_) (fun h2 => ?_)
            · refine zr_iinc X (v := nI (k + 1)) (ls' := [(5, .int (nI (k + 1))), (0, .ref (w.2 (132))), (1, .ref (w.2 (133))), (2, .ref (w.2 (134))), (3, .ref (w.2 (135)))]) 4 dL_day_259 rfl (zinc1 _) (by decide) rfl ?_
              refine zr_goto X (tgt := 216) dL_day_262 (by decide) ?_
              refine zr_loc X (ls' := [(0, .ref (w.2 (132))), (1, .ref (w.2 (133))), (2, .ref (w.2 (134))), (3, .ref (w.2 (135))), (5, .int (nI (k + 1)))]) [1, 2, 3, 4, 0] rfl ?_
              exact zcast (f2 := lW cy f u) (ls2 := [(0, .ref (w.2 (132))), (1, .ref (w.2 (133))), (2, .ref (w.2 (134))), (3, .ref (w.2 (135))), (5, .int (nI (k + 1)))]) rfl rfl (ih216 (k + 1) b _ (by rw [← q, lGz_s, if_neg h1]) g1 (by omega) g3)
            · refine zr_aload_n X 0 dL_day_249 rfl rfl ?_
              refine zr_aload_n X 2 dL_day_250 rfl rfl ?_
              refine zr_iload X 4 dL_day_251 rfl ?_
              refine zr_cS X (As := [.ref (w.2 (132)), .ref (w.2 (134)), .int (nI k)]) (rest := []) (f' := lW cy f (dGo u k (b - 1))) (st' := []) zc_L_goes (kl_goes (k := k) (b := b - 1) hw (by rw [show b - 1 + 1 = b by omega]; exact g1) (by omega) (by omega)) ⟨Nat.le_of_ble_eq_true rfl, Nat.le_of_ble_eq_true rfl⟩ ⟨Nat.le_refl _, Nat.le_refl _⟩ rfl (Nat.le_of_ble_eq_true rfl) zm_2_183 rfl dL_day_253 rfl ?_
              refine zr_goto X (tgt := 216) dL_day_256 (by decide) ?_
              exact zcast (f2 := lW cy f (dGo u k (b - 1))) (ls2 := [(0, .ref (w.2 (132))), (1, .ref (w.2 (133))), (2, .ref (w.2 (134))), (3, .ref (w.2 (135))), (5, .int (nI k))]) rfl rfl (ih216 k (b - 1) _ (by rw [← q, lGz_s, if_pos h2]) dGo_1 (by omega) (by omega))
        · show G (w, 0, 0) (lW cy f (dSh (dThr (lB2 s mc bk fr)) (n))) [(0, .ref (w.2 (132))), (1, .ref (w.2 (133))), (2, .ref (w.2 (134))), (3, .ref (w.2 (135))), (5, .int (nI (20 - (n))))] 181 []
          refine zr_iload X 4 dL_day_181 rfl ?_
          refine zr_if_le X (tgt := 202) dL_day_183 (by decide) (fun h => False.elim (nI_nle (show 0 < 20 - n by omega) (by omega) h)) (fun _ => ?_)
          refine zr_aload_n X 3 dL_day_186 rfl rfl ?_
          refine zr_iload X 4 dL_day_187 rfl ?_
          refine zr_aload_n X 3 dL_day_189 rfl rfl ?_
          refine zr_iload X 4 dL_day_190 rfl ?_
          refine zr_iconst X (v := 1) dL_day_192 (by decide) ?_
          refine zr_isub X dL_day_193 ?_
          refine zr_lld X hw lr_a (20 - n - 1) (115 + (20 - n - 1)) (nI_pred' (by omega)) (by omega) (by omega) dL_day_194 ?_
          refine zr_lst X hw lr_a (20 - n) (115 + (20 - n)) (rfl) (by omega) (by omega) dL_day_195 ?_
          refine zcw (f2 := lW cy f (dSh (dThr (lB2 s mc bk fr)) (n + 1))) (rfl) ?_
          refine zr_iinc X (v := zpr (20 - (n))) (ls' := [(5, .int (zpr (20 - (n)))), (0, .ref (w.2 (132))), (1, .ref (w.2 (133))), (2, .ref (w.2 (134))), (3, .ref (w.2 (135)))]) 4 dL_day_196 rfl (zdec1 _) (by decide) rfl ?_
          refine zr_goto X (tgt := 181) dL_day_199 (by decide) ?_
          refine zr_loc X (ls' := [(0, .ref (w.2 (132))), (1, .ref (w.2 (133))), (2, .ref (w.2 (134))), (3, .ref (w.2 (135))), (5, .int (zpr (20 - (n))))]) [1, 2, 3, 4, 0] rfl ?_
          exact zcast (f2 := lW cy f (dSh (dThr (lB2 s mc bk fr)) (n + 1))) (ls2 := [(0, .ref (w.2 (132))), (1, .ref (w.2 (133))), (2, .ref (w.2 (134))), (3, .ref (w.2 (135))), (5, .int (nI (20 - (n + 1))))]) rfl (by rw [zpr_dn hn181]) ih181
      · show G (w, 0, 0) (lW cy f (lEf (lB1 s mc) fr (n))) [(0, .ref (w.2 (132))), (1, .ref (w.2 (133))), (2, .ref (w.2 (134))), (3, .ref (w.2 (135))), (4, .int (dSn s)), (5, .int (nI (6 * (n))))] 110 []
        refine zr_iload X 5 dL_day_110 rfl ?_
        refine zr_bipush X (v := 6) dL_day_112 (by decide) ?_
        refine zr_aload_n X 0 dL_day_114 rfl rfl ?_
        refine zr_iconst X (v := 1) dL_day_115 (by decide) ?_
        refine zr_lld X hw lr_g (1) (1) (rfl) (by decide) rfl dL_day_116 ?_
        refine zr_imul X dL_day_117 ?_
        refine zr_icmp_ge X (tgt := 166) dL_day_118 (by decide) (fun h => False.elim (nI_ge (show 6 * n < 6 * bk by omega) (by omega) (by rw [lEf_ne (by decide) (by decide) (by decide) (by decide) (by decide) n (fun j hj => ⟨by omega, by omega⟩), lB1_lo (by decide) (by decide) (by decide) (by decide) (by decide), hg, show (6 : Int32) * nI bk = nI (6 * bk) from nI_ml (c := 6)] at h; exact h))) (fun _ => ?_)
        refine zr_aload_n X 0 dL_day_121 rfl rfl ?_
        refine zr_iconst X (v := 3) dL_day_122 (by decide) ?_
        refine zr_lld X hw lr_g (3) (3) (rfl) (by decide) rfl dL_day_123 ?_
        refine zr_aload_n X 2 dL_day_124 rfl rfl ?_
        refine zr_iload X 5 dL_day_125 rfl ?_
        refine zr_iconst X (v := 2) dL_day_127 (by decide) ?_
        refine zr_iadd X dL_day_128 ?_
        refine zr_lld X hw lr_p (6 * (n) + 2) (55 + 6 * (n) + 2) (nI_add _ 2) (by omega) (by omega) dL_day_129 ?_
        refine zr_icmp_lt X (tgt := 160) dL_day_130 (by decide) (fun h3 => ?_) (fun h4 => ?_)
        · refine zr_iinc X (v := (nI (6 * (n))) + 6) (ls' := [(5, .int ((nI (6 * (n))) + 6)), (0, .ref (w.2 (132))), (1, .ref (w.2 (133))), (2, .ref (w.2 (134))), (3, .ref (w.2 (135))), (4, .int (dSn s))]) 5 dL_day_160 rfl rfl (by decide) rfl ?_
          refine zr_goto X (tgt := 110) dL_day_163 (by decide) ?_
          refine zr_loc X (ls' := [(0, .ref (w.2 (132))), (1, .ref (w.2 (133))), (2, .ref (w.2 (134))), (3, .ref (w.2 (135))), (4, .int (dSn s)), (5, .int ((nI (6 * (n))) + 6))]) [1, 2, 3, 4, 5, 0] rfl ?_
          exact zcast (f2 := lW cy f (lEf (lB1 s mc) fr (n + 1))) (ls2 := [(0, .ref (w.2 (132))), (1, .ref (w.2 (133))), (2, .ref (w.2 (134))), (3, .ref (w.2 (135))), (4, .int (dSn s)), (5, .int (nI (6 * (n + 1))))]) (by rw [lEf_s]; unfold lEaS; rw [if_pos h3]) (by rw [Nat.mul_succ, ← nI_add]; rfl) ih110
        · refine zr_aload_n X 0 dL_day_133 rfl rfl ?_
          refine zr_iconst X (v := 3) dL_day_134 (by decide) ?_
          refine zr_lld X hw lr_g (3) (3) (rfl) (by decide) rfl dL_day_135 ?_
          refine zr_aload_n X 2 dL_day_136 rfl rfl ?_
          refine zr_iload X 5 dL_day_137 rfl ?_
          refine zr_iconst X (v := 2) dL_day_139 (by decide) ?_
          refine zr_iadd X dL_day_140 ?_
          refine zr_lld X hw lr_p (6 * (n) + 2) (55 + 6 * (n) + 2) (nI_add _ 2) (by omega) (by omega) dL_day_141 ?_
          refine zr_aload_n X 2 dL_day_142 rfl rfl ?_
          refine zr_iload X 5 dL_day_143 rfl ?_
          refine zr_iconst X (v := 3) dL_day_145 (by decide) ?_
          refine zr_iadd X dL_day_146 ?_
          refine zr_lld X hw lr_p (6 * (n) + 3) (55 + 6 * (n) + 3) (nI_add _ 3) (by omega) (by omega) dL_day_147 ?_
          refine zr_iadd X dL_day_148 ?_
          refine zr_icmp_ge X (tgt := 160) dL_day_149 (by decide) (fun h5 => ?_) (fun h6 => ?_)
          · refine zr_iinc X (v := (nI (6 * (n))) + 6) (ls' := [(5, .int ((nI (6 * (n))) + 6)), (0, .ref (w.2 (132))), (1, .ref (w.2 (133))), (2, .ref (w.2 (134))), (3, .ref (w.2 (135))), (4, .int (dSn s))]) 5 dL_day_160 rfl rfl (by decide) rfl ?_
            refine zr_goto X (tgt := 110) dL_day_163 (by decide) ?_
            refine zr_loc X (ls' := [(0, .ref (w.2 (132))), (1, .ref (w.2 (133))), (2, .ref (w.2 (134))), (3, .ref (w.2 (135))), (4, .int (dSn s)), (5, .int ((nI (6 * (n))) + 6))]) [1, 2, 3, 4, 5, 0] rfl ?_
            exact zcast (f2 := lW cy f (lEf (lB1 s mc) fr (n + 1))) (ls2 := [(0, .ref (w.2 (132))), (1, .ref (w.2 (133))), (2, .ref (w.2 (134))), (3, .ref (w.2 (135))), (4, .int (dSn s)), (5, .int (nI (6 * (n + 1))))]) (by rw [lEf_s]; unfold lEaS; rw [if_neg h4, if_pos h5]) (by rw [Nat.mul_succ, ← nI_add]; rfl) ih110
          · refine zr_aload_n X 0 dL_day_152 rfl rfl ?_
            refine zr_aload_n X 2 dL_day_153 rfl rfl ?_
            refine zr_aload_n X 3 dL_day_154 rfl rfl ?_
            refine zr_iload X 5 dL_day_155 rfl ?_
            obtain ⟨N9, hN9, eN9⟩ := hj9 n hn110
            have eW : lWn (lEf (lB1 s mc) fr n) n = nI N9 := by unfold lWn; rw [ld_ea hmc (by omega) (by decide)]; exact eN9
            have qN := lcl eW hN9 (by decide)
            refine zr_cS X (As := [.ref (w.2 (132)), .ref (w.2 (134)), .ref (w.2 (135)), .int (nI (6 * (n)))]) (rest := []) (f' := lW cy f (lEat (lEf (lB1 s mc) fr n) n fr (lWn (lEf (lB1 s mc) fr n) n).toNatClampNeg)) (st' := []) zc_L_eats (kl_eats (k := n) (fr := fr) hw (by omega) ((lEf_ne (by decide) (by decide) (by decide) (by decide) (by decide) n (fun j hj => ⟨by omega, by omega⟩)).trans ((lB1_lo (by decide) (by decide) (by decide) (by decide) (by decide)).trans hf)) hfr qN.1 qN.2) ⟨Nat.le_of_ble_eq_true rfl, Nat.le_of_ble_eq_true rfl⟩ ⟨Nat.le_refl _, Nat.le_refl _⟩ rfl (Nat.le_of_ble_eq_true rfl) zm_3_18 rfl dL_day_157 rfl ?_
            refine zr_iinc X (v := (nI (6 * (n))) + 6) (ls' := [(5, .int ((nI (6 * (n))) + 6)), (0, .ref (w.2 (132))), (1, .ref (w.2 (133))), (2, .ref (w.2 (134))), (3, .ref (w.2 (135))), (4, .int (dSn s))]) 5 dL_day_160 rfl rfl (by decide) rfl ?_
            refine zr_goto X (tgt := 110) dL_day_163 (by decide) ?_
            refine zr_loc X (ls' := [(0, .ref (w.2 (132))), (1, .ref (w.2 (133))), (2, .ref (w.2 (134))), (3, .ref (w.2 (135))), (4, .int (dSn s)), (5, .int ((nI (6 * (n))) + 6))]) [1, 2, 3, 4, 5, 0] rfl ?_
            exact zcast (f2 := lW cy f (lEf (lB1 s mc) fr (n + 1))) (ls2 := [(0, .ref (w.2 (132))), (1, .ref (w.2 (133))), (2, .ref (w.2 (134))), (3, .ref (w.2 (135))), (4, .int (dSn s)), (5, .int (nI (6 * (n + 1))))]) (by rw [lEf_s]; unfold lEaS; rw [if_neg h4, if_neg h6]) (by rw [Nat.mul_succ, ← nI_add]; rfl) ih110
    · show G (w, 0, 0) (lW cy f (lMu (dN1 s) (dSn s) (n))) [(0, .ref (w.2 (132))), (1, .ref (w.2 (133))), (2, .ref (w.2 (134))), (3, .ref (w.2 (135))), (4, .int (dSn s)), (5, .int (nI (9 * (n))))] 58 []
      refine zr_iload X 5 dL_day_58 rfl ?_
      refine zr_bipush X (v := 9) dL_day_60 (by decide) ?_
      refine zr_aload_n X 0 dL_day_62 rfl rfl ?_
      refine zr_iconst X (v := 0) dL_day_63 (by decide) ?_
      refine zr_lld X hw lr_g (0) (0) (rfl) (by decide) rfl dL_day_64 ?_
      refine zr_imul X dL_day_65 ?_
      refine zr_icmp_ge X (tgt := 107) dL_day_66 (by decide) (fun h => False.elim (nI_ge (show 9 * n < 9 * mc by omega) (by omega) (by rw [lMu_ne (by decide) (by decide) (by decide) n (.inl (by decide)), dN1_ne (by decide) (by decide), hm, show (9 : Int32) * nI mc = nI (9 * mc) from nI_ml (c := 9)] at h; exact h))) (fun _ => ?_)
      refine zr_aload_n X 1 dL_day_69 rfl rfl ?_
      refine zr_iload X 5 dL_day_70 rfl ?_
      refine zr_iconst X (v := 2) dL_day_72 (by decide) ?_
      refine zr_iadd X dL_day_73 ?_
      refine zr_lld X hw lr_m (9 * (n) + 2) (19 + 9 * (n) + 2) (nI_add _ 2) (by omega) (by omega) dL_day_74 ?_
      refine zr_iconst X (v := 3) dL_day_75 (by decide) ?_
      refine zr_icmp_eq X (tgt := 93) dL_day_76 (by decide) (fun h7 => ?_) (fun h8 => ?_)
      · refine zr_aload_n X 0 dL_day_93 rfl rfl ?_
        refine zr_aload_n X 1 dL_day_94 rfl rfl ?_
        refine zr_aload_n X 3 dL_day_95 rfl rfl ?_
        refine zr_iload X 5 dL_day_96 rfl ?_
        obtain ⟨N9, hN9, eN9⟩ := (hd n hn58).1
        have qN := lcl ((ld_mu (s := s) (sn := dSn s) (k := n) (i := 4) (by omega) (by decide)).trans eN9) hN9 (by decide)
        refine zr_cS X (As := [.ref (w.2 (132)), .ref (w.2 (133)), .ref (w.2 (135)), .int (nI (9 * (n)))]) (rest := []) (f' := lW cy f (lCoN (lMu (dN1 s) (dSn s) n) n)) (st' := []) zc_L_comes (kl_comes (k := n) hw (by omega) qN.1 qN.2 (fun q9 => by unfold lAge; rw [dC1_ne (by omega), dC1_ne (by omega), lMu_ne (by decide) (by decide) (by decide) n (.inl (by decide)), dN1_ne (by decide) (by decide), ld_mu (by omega) (by decide)]; rw [dC1_ne (by omega), ld_mu (by omega) (by decide)] at q9; exact (hd n hn58).2 q9)) ⟨Nat.le_of_ble_eq_true rfl, Nat.le_of_ble_eq_true rfl⟩ ⟨Nat.le_refl _, Nat.le_refl _⟩ rfl (Nat.le_of_ble_eq_true rfl) zm_3_12 rfl dL_day_98 rfl ?_
        refine zr_iinc X (v := (nI (9 * (n))) + 9) (ls' := [(5, .int ((nI (9 * (n))) + 9)), (0, .ref (w.2 (132))), (1, .ref (w.2 (133))), (2, .ref (w.2 (134))), (3, .ref (w.2 (135))), (4, .int (dSn s))]) 5 dL_day_101 rfl rfl (by decide) rfl ?_
        refine zr_goto X (tgt := 58) dL_day_104 (by decide) ?_
        refine zr_loc X (ls' := [(0, .ref (w.2 (132))), (1, .ref (w.2 (133))), (2, .ref (w.2 (134))), (3, .ref (w.2 (135))), (4, .int (dSn s)), (5, .int ((nI (9 * (n))) + 9))]) [1, 2, 3, 4, 5, 0] rfl ?_
        exact zcast (f2 := lW cy f (lMu (dN1 s) (dSn s) (n + 1))) (ls2 := [(0, .ref (w.2 (132))), (1, .ref (w.2 (133))), (2, .ref (w.2 (134))), (3, .ref (w.2 (135))), (4, .int (dSn s)), (5, .int (nI (9 * (n + 1))))]) (by rw [lMu_s]; unfold lMuS; rw [if_pos h7]) (by rw [Nat.mul_succ, ← nI_add]; rfl) ih58
      · refine zr_aload_n X 1 dL_day_79 rfl rfl ?_
        refine zr_iload X 5 dL_day_80 rfl ?_
        refine zr_iconst X (v := 2) dL_day_82 (by decide) ?_
        refine zr_iadd X dL_day_83 ?_
        refine zr_lld X hw lr_m (9 * (n) + 2) (19 + 9 * (n) + 2) (nI_add _ 2) (by omega) (by omega) dL_day_84 ?_
        refine zr_if_le X (tgt := 101) dL_day_85 (by decide) (fun h9 => ?_) (fun h10 => ?_)
        · refine zr_iinc X (v := (nI (9 * (n))) + 9) (ls' := [(5, .int ((nI (9 * (n))) + 9)), (0, .ref (w.2 (132))), (1, .ref (w.2 (133))), (2, .ref (w.2 (134))), (3, .ref (w.2 (135))), (4, .int (dSn s))]) 5 dL_day_101 rfl rfl (by decide) rfl ?_
          refine zr_goto X (tgt := 58) dL_day_104 (by decide) ?_
          refine zr_loc X (ls' := [(0, .ref (w.2 (132))), (1, .ref (w.2 (133))), (2, .ref (w.2 (134))), (3, .ref (w.2 (135))), (4, .int (dSn s)), (5, .int ((nI (9 * (n))) + 9))]) [1, 2, 3, 4, 5, 0] rfl ?_
          exact zcast (f2 := lW cy f (lMu (dN1 s) (dSn s) (n + 1))) (ls2 := [(0, .ref (w.2 (132))), (1, .ref (w.2 (133))), (2, .ref (w.2 (134))), (3, .ref (w.2 (135))), (4, .int (dSn s)), (5, .int (nI (9 * (n + 1))))]) (by rw [lMu_s]; unfold lMuS; rw [if_neg h8, if_pos h9]) (by rw [Nat.mul_succ, ← nI_add]; rfl) ih58
        · refine zr_iload X 4 dL_day_88 rfl ?_
          refine zr_if_ne X (tgt := 101) dL_day_90 (by decide) (fun h11 => ?_) (fun h12 => ?_)
          · refine zr_iinc X (v := (nI (9 * (n))) + 9) (ls' := [(5, .int ((nI (9 * (n))) + 9)), (0, .ref (w.2 (132))), (1, .ref (w.2 (133))), (2, .ref (w.2 (134))), (3, .ref (w.2 (135))), (4, .int (dSn s))]) 5 dL_day_101 rfl rfl (by decide) rfl ?_
            refine zr_goto X (tgt := 58) dL_day_104 (by decide) ?_
            refine zr_loc X (ls' := [(0, .ref (w.2 (132))), (1, .ref (w.2 (133))), (2, .ref (w.2 (134))), (3, .ref (w.2 (135))), (4, .int (dSn s)), (5, .int ((nI (9 * (n))) + 9))]) [1, 2, 3, 4, 5, 0] rfl ?_
            exact zcast (f2 := lW cy f (lMu (dN1 s) (dSn s) (n + 1))) (ls2 := [(0, .ref (w.2 (132))), (1, .ref (w.2 (133))), (2, .ref (w.2 (134))), (3, .ref (w.2 (135))), (4, .int (dSn s)), (5, .int (nI (9 * (n + 1))))]) (by rw [lMu_s]; unfold lMuS; rw [if_neg h8, if_neg h10, if_neg h11]) (by rw [Nat.mul_succ, ← nI_add]; rfl) ih58
          · refine zr_aload_n X 0 dL_day_93 rfl rfl ?_
            refine zr_aload_n X 1 dL_day_94 rfl rfl ?_
            refine zr_aload_n X 3 dL_day_95 rfl rfl ?_
            refine zr_iload X 5 dL_day_96 rfl ?_
            obtain ⟨N9, hN9, eN9⟩ := (hd n hn58).1
            have qN := lcl ((ld_mu (s := s) (sn := dSn s) (k := n) (i := 4) (by omega) (by decide)).trans eN9) hN9 (by decide)
            refine zr_cS X (As := [.ref (w.2 (132)), .ref (w.2 (133)), .ref (w.2 (135)), .int (nI (9 * (n)))]) (rest := []) (f' := lW cy f (lCoN (lMu (dN1 s) (dSn s) n) n)) (st' := []) zc_L_comes (kl_comes (k := n) hw (by omega) qN.1 qN.2 (fun q9 => by unfold lAge; rw [dC1_ne (by omega), dC1_ne (by omega), lMu_ne (by decide) (by decide) (by decide) n (.inl (by decide)), dN1_ne (by decide) (by decide), ld_mu (by omega) (by decide)]; rw [dC1_ne (by omega), ld_mu (by omega) (by decide)] at q9; exact (hd n hn58).2 q9)) ⟨Nat.le_of_ble_eq_true rfl, Nat.le_of_ble_eq_true rfl⟩ ⟨Nat.le_refl _, Nat.le_refl _⟩ rfl (Nat.le_of_ble_eq_true rfl) zm_3_12 rfl dL_day_98 rfl ?_
            refine zr_iinc X (v := (nI (9 * (n))) + 9) (ls' := [(5, .int ((nI (9 * (n))) + 9)), (0, .ref (w.2 (132))), (1, .ref (w.2 (133))), (2, .ref (w.2 (134))), (3, .ref (w.2 (135))), (4, .int (dSn s))]) 5 dL_day_101 rfl rfl (by decide) rfl ?_
            refine zr_goto X (tgt := 58) dL_day_104 (by decide) ?_
            refine zr_loc X (ls' := [(0, .ref (w.2 (132))), (1, .ref (w.2 (133))), (2, .ref (w.2 (134))), (3, .ref (w.2 (135))), (4, .int (dSn s)), (5, .int ((nI (9 * (n))) + 9))]) [1, 2, 3, 4, 5, 0] rfl ?_
            exact zcast (f2 := lW cy f (lMu (dN1 s) (dSn s) (n + 1))) (ls2 := [(0, .ref (w.2 (132))), (1, .ref (w.2 (133))), (2, .ref (w.2 (134))), (3, .ref (w.2 (135))), (4, .int (dSn s)), (5, .int (nI (9 * (n + 1))))]) (by rw [lMu_s]; unfold lMuS; rw [if_neg h8, if_neg h10, if_pos h12]) (by rw [Nat.mul_succ, ← nI_add]; rfl) ih58
  refine zr_aload_n X 0 dL_day_18 rfl rfl ?_
  refine zr_iconst X (v := 4) dL_day_19 (by decide) ?_
  refine zr_lld X hw lr_g (4) (4) (rfl) (by decide) rfl dL_day_20 ?_
  refine zr_bipush X (v := 100) dL_day_21 (by decide) ?_
  refine zr_irem X dL_day_23 (by decide) ?_
  refine zr_aload_n X 0 dL_day_24 rfl rfl ?_
  refine zr_bipush X (v := 18) dL_day_25 (by decide) ?_
  refine zr_lld X hw lr_g (18) (18) (rfl) (by decide) rfl dL_day_27 ?_
  refine zr_icmp_ge X (tgt := 35) dL_day_28 (by decide) (fun h13 => ?_) (fun h14 => ?_)
  · refine zr_iconst X (v := 0) dL_day_35 (by decide) ?_
    refine zr_istore X (ls' := [(4, .int (0)), (0, .ref (w.2 (132))), (1, .ref (w.2 (133))), (2, .ref (w.2 (134))), (3, .ref (w.2 (135)))]) dL_day_36 (by decide) rfl ?_
    refine zr_aload_n X 1 dL_day_38 rfl rfl ?_
    refine zr_bipush X (v := 11) dL_day_39 (by decide) ?_
    refine zr_dup2 X dL_day_41 rfl rfl ?_
    refine zr_lld X hw lr_g (11) (11) (rfl) (by decide) rfl dL_day_42 ?_
    refine zr_iload X 0 dL_day_43 rfl ?_
    refine zr_if_eq X (tgt := 52) dL_day_45 (by decide) (fun _ => ?_) (fun h => absurd rfl h)
    refine zr_iconst X (v := 0) dL_day_52 (by decide) ?_
    refine zr_iadd X dL_day_53 ?_
    refine zr_lst X hw lr_g (11) (11) (rfl) (by decide) rfl dL_day_54 ?_
    refine zr_loc X (ls' := [(0, .ref (w.2 (132))), (1, .ref (w.2 (133))), (2, .ref (w.2 (134))), (3, .ref (w.2 (135))), (4, .int (0))]) [1, 2, 3, 4, 0] rfl ?_
    exact zjoin (by unfold dN1 dSn; rw [if_pos h13]) (by unfold dSn; rw [if_pos h13]) rfl J55
  · refine zr_iconst X (v := 1) dL_day_31 (by decide) ?_
    refine zr_goto X (tgt := 36) dL_day_32 (by decide) ?_
    refine zr_istore X (ls' := [(4, .int (1)), (0, .ref (w.2 (132))), (1, .ref (w.2 (133))), (2, .ref (w.2 (134))), (3, .ref (w.2 (135)))]) dL_day_36 (by decide) rfl ?_
    refine zr_aload_n X 1 dL_day_38 rfl rfl ?_
    refine zr_bipush X (v := 11) dL_day_39 (by decide) ?_
    refine zr_dup2 X dL_day_41 rfl rfl ?_
    refine zr_lld X hw lr_g (11) (11) (rfl) (by decide) rfl dL_day_42 ?_
    refine zr_iload X 0 dL_day_43 rfl ?_
    refine zr_if_eq X (tgt := 52) dL_day_45 (by decide) (fun h => absurd h (by decide)) (fun _ => ?_)
    refine zr_iconst X (v := 1) dL_day_48 (by decide) ?_
    refine zr_goto X (tgt := 53) dL_day_49 (by decide) ?_
    refine zr_iadd X dL_day_53 ?_
    refine zr_lst X hw lr_g (11) (11) (rfl) (by decide) rfl dL_day_54 ?_
    refine zr_loc X (ls' := [(0, .ref (w.2 (132))), (1, .ref (w.2 (133))), (2, .ref (w.2 (134))), (3, .ref (w.2 (135))), (4, .int (1))]) [1, 2, 3, 4, 0] rfl ?_
    exact zjoin (by unfold dN1 dSn; rw [if_neg h14]) (by unfold dSn; rw [if_neg h14]) rfl J55
