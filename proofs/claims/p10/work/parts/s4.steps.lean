/-! THE LAW, a step of the script. Printed by wip/whole/gen9k.py -/
set_option maxRecDepth 100000 in
theorem lc_0 {L : Nat} {xs : Nat → Int32} {nn : Nat} {m : yM} {Q : xO → yM → Nat → Prop} {i : Int} (hL : L ≤ 2048) (hi : 0 ≤ i ∧ i + 4 ≤ (L : Int)) (h : LI m) {x5 x6 : Option Value} (hK : ∀ (y5 y6 : Option Value) (m' : yM) (n' : Nat), LI m' → n' ≤ nn + 1 → YW (gZ L xs) 218 1200 617 [some (.retAddr 0), some (.ref 0), some (.ref 376), some (.ref 413), some (yI i), y5, y6] [] m' n' Q) (hZ : ∀ (m' : yM) (n' : Nat), n' ≤ nn + 1 → Q (.inl (some (yI 0))) m' n') : YW (gZ L xs) 218 1200 108 [some (.retAddr 0), some (.ref 0), some (.ref 376), some (.ref 413), some (yI i), x5, x6] [] m nn Q := by
  have hT := h.2.1.1
  have l0 := hT.atp 0 6 0 320 rfl
  have l1 := hT.atp 376 1 0 320 rfl
  have l2 := h.2.2
  refine y_aload 109 c218_108 rfl rfl rfl ?_
  refine y_aload 110 c218_109 rfl rfl rfl ?_
  refine y_iload 112 c218_110 rfl rfl ?_
  refine y_iconst 113 c218_112 rfl ?_
  refine y_iadd 114 c218_113 rfl ?_
  refine s_sc 115 c218_114 rfl hL (by omega) (fun s1 hs1 gs1 => ?_)
  refine y_i2l 116 c218_115 rfl ?_
  refine y_iconst 118 c218_116 rfl ?_
  refine y_lshl 119 c218_118 rfl ?_
  refine y_aload 120 c218_119 rfl rfl rfl ?_
  refine y_iload 122 c218_120 rfl rfl ?_
  refine y_iconst 123 c218_122 rfl ?_
  refine y_iadd 124 c218_123 rfl ?_
  refine s_sc 125 c218_124 rfl hL (by omega) (fun s2 hs2 gs2 => ?_)
  refine y_i2l 126 c218_125 rfl ?_
  refine y_lconst 129 c218_126 rfl ?_
  refine y_land 130 c218_129 rfl ?_
  refine y_lor 131 c218_130 rfl ?_
  refine y_aload 132 c218_131 rfl rfl rfl ?_
  refine y_iload 134 c218_132 rfl rfl ?_
  refine y_iconst 135 c218_134 rfl ?_
  refine y_iadd 136 c218_135 rfl ?_
  refine s_sc 137 c218_136 rfl hL (by omega) (fun s3 hs3 gs3 => ?_)
  refine y_aload 138 c218_137 rfl rfl rfl ?_
  refine y_callIB 141 [.ref 0, .long ((((Int32.ofInt s1).toInt64) <<< ((Int32.ofInt 32).toInt64 &&& 63)) ||| (((Int32.ofInt s2).toInt64) &&& (Int64.ofInt 4294967295))), yI s3, .ref 413] [] c218_138 rfl rfl rfl rfl rfl (ycanS km21) (t21T (d := 1196) hT (by omega) (by omega) (by omega)) (fun rq mq nq hq => ?_)
  rcases hq with ⟨e1, ha, e2, e3⟩ | ⟨e1, ha, hf, e2, e3⟩ | ⟨e1, ha, hf, e3, m1, e2, k1, k2, k3, k4, k5⟩
  · subst e1
    obtain rfl : m = mq := e2.symm
    refine y_istore 143 c218_141 rfl rfl ?_
    refine y_aload 144 c218_143 rfl rfl rfl ?_
    refine y_aload 145 c218_144 rfl rfl rfl ?_
    refine y_iload 147 c218_145 rfl rfl ?_
    refine y_iconst 148 c218_147 rfl ?_
    refine y_iadd 149 c218_148 rfl ?_
    refine s_scX 150 s1 c218_149 rfl hL (by omega) hs1 ?_
    refine y_i2l 151 c218_150 rfl ?_
    refine y_iconst 153 c218_151 rfl ?_
    refine y_lshl 154 c218_153 rfl ?_
    refine y_aload 155 c218_154 rfl rfl rfl ?_
    refine y_iload 157 c218_155 rfl rfl ?_
    refine y_iconst 158 c218_157 rfl ?_
    refine y_iadd 159 c218_158 rfl ?_
    refine s_scX 160 s2 c218_159 rfl hL (by omega) hs2 ?_
    refine y_i2l 161 c218_160 rfl ?_
    refine y_lconst 164 c218_161 rfl ?_
    refine y_land 165 c218_164 rfl ?_
    refine y_lor 166 c218_165 rfl ?_
    refine y_aload 167 c218_166 rfl rfl rfl ?_
    refine y_iload 169 c218_167 rfl rfl ?_
    refine y_iconst 170 c218_169 rfl ?_
    refine y_iadd 171 c218_170 rfl ?_
    refine s_scX 172 s3 c218_171 rfl hL (by omega) hs3 ?_
    refine y_callIB 175 [.ref 376, .long ((((Int32.ofInt s1).toInt64) <<< ((Int32.ofInt 32).toInt64 &&& 63)) ||| (((Int32.ofInt s2).toInt64) &&& (Int64.ofInt 4294967295))), yI s3] [] c218_172 rfl rfl rfl rfl rfl (ycanO km25 ko376) (t25T (d := 1198) hT (by omega) (by omega) (by omega)) (fun rz mz nz hz => ?_)
    obtain ⟨e5, hz⟩ := hz
    rcases hz with ⟨y1, e6⟩ | ⟨y1, y2, e6⟩ | ⟨y1, y2, z1, z2, z3, z4, z5, z6, z7⟩
    · have hz1 : mz 376 57 = 1 := by rw [e6]; exact yup_eq _ _ _ _
      have hz2 : LI mz := by rw [e6]; exact h.cod (by decide)
      have hTz := hz2.2.1.1
      refine y_istore 177 c218_175 rfl rfl ?_
      refine y_goto 617 c218_177 rfl ?_
      exact hK _ _ _ _ hz2 (by omega)
    · exact absurd y1 ha
    · exact absurd y1 ha
  · subst e1
    obtain rfl : m = mq := e2.symm
    refine y_istore 143 c218_141 rfl rfl ?_
    refine y_aload 144 c218_143 rfl rfl rfl ?_
    refine y_aload 145 c218_144 rfl rfl rfl ?_
    refine y_iload 147 c218_145 rfl rfl ?_
    refine y_iconst 148 c218_147 rfl ?_
    refine y_iadd 149 c218_148 rfl ?_
    refine s_scX 150 s1 c218_149 rfl hL (by omega) hs1 ?_
    refine y_i2l 151 c218_150 rfl ?_
    refine y_iconst 153 c218_151 rfl ?_
    refine y_lshl 154 c218_153 rfl ?_
    refine y_aload 155 c218_154 rfl rfl rfl ?_
    refine y_iload 157 c218_155 rfl rfl ?_
    refine y_iconst 158 c218_157 rfl ?_
    refine y_iadd 159 c218_158 rfl ?_
    refine s_scX 160 s2 c218_159 rfl hL (by omega) hs2 ?_
    refine y_i2l 161 c218_160 rfl ?_
    refine y_lconst 164 c218_161 rfl ?_
    refine y_land 165 c218_164 rfl ?_
    refine y_lor 166 c218_165 rfl ?_
    refine y_aload 167 c218_166 rfl rfl rfl ?_
    refine y_iload 169 c218_167 rfl rfl ?_
    refine y_iconst 170 c218_169 rfl ?_
    refine y_iadd 171 c218_170 rfl ?_
    refine s_scX 172 s3 c218_171 rfl hL (by omega) hs3 ?_
    refine y_callIB 175 [.ref 376, .long ((((Int32.ofInt s1).toInt64) <<< ((Int32.ofInt 32).toInt64 &&& 63)) ||| (((Int32.ofInt s2).toInt64) &&& (Int64.ofInt 4294967295))), yI s3] [] c218_172 rfl rfl rfl rfl rfl (ycanO km25 ko376) (t25T (d := 1198) hT (by omega) (by omega) (by omega)) (fun rz mz nz hz => ?_)
    obtain ⟨e5, hz⟩ := hz
    rcases hz with ⟨y1, e6⟩ | ⟨y1, y2, e6⟩ | ⟨y1, y2, z1, z2, z3, z4, z5, z6, z7⟩
    · exact absurd ha y1
    · have hz1 : mz 376 57 = 2 := by rw [e6]; exact yup_eq _ _ _ _
      have hz2 : LI mz := by rw [e6]; exact h.cod (by decide)
      have hTz := hz2.2.1.1
      refine y_istore 177 c218_175 rfl rfl ?_
      refine y_goto 617 c218_177 rfl ?_
      exact hK _ _ _ _ hz2 (by omega)
    · exfalso; omega
  · subst e1
    have ha1 := ha.1
    have ha2 := ha.2.1
    have hTq : Ty gT mq := by rw [e2]; exact k5.up 413 0 _ (-2147483648) 2147483647 rfl (by omega)
    have c1 : ∀ a q, a ≠ 1 → ¬ (a = 0 ∧ q = 6) → a ≠ 413 → mq a q = m a q := fun a q h1 h2 h3 => by rw [e2, yup_na h3]; exact k2 a q h1 h2
    have c2 : mq 0 6 = m 0 6 + s3 := by rw [e2, yup_na (by decide)]; exact k1
    have c3 : mq 413 0 = m 0 6 + s3 := by rw [e2]; exact yup_eq _ _ _ _
    have c4 : mq 376 1 = m 376 1 := c1 376 1 (by decide) (by decide) (by decide)
    refine y_istore 143 c218_141 rfl rfl ?_
    refine y_aload 144 c218_143 rfl rfl rfl ?_
    refine y_aload 145 c218_144 rfl rfl rfl ?_
    refine y_iload 147 c218_145 rfl rfl ?_
    refine y_iconst 148 c218_147 rfl ?_
    refine y_iadd 149 c218_148 rfl ?_
    refine s_scX 150 s1 c218_149 rfl hL (by omega) hs1 ?_
    refine y_i2l 151 c218_150 rfl ?_
    refine y_iconst 153 c218_151 rfl ?_
    refine y_lshl 154 c218_153 rfl ?_
    refine y_aload 155 c218_154 rfl rfl rfl ?_
    refine y_iload 157 c218_155 rfl rfl ?_
    refine y_iconst 158 c218_157 rfl ?_
    refine y_iadd 159 c218_158 rfl ?_
    refine s_scX 160 s2 c218_159 rfl hL (by omega) hs2 ?_
    refine y_i2l 161 c218_160 rfl ?_
    refine y_lconst 164 c218_161 rfl ?_
    refine y_land 165 c218_164 rfl ?_
    refine y_lor 166 c218_165 rfl ?_
    refine y_aload 167 c218_166 rfl rfl rfl ?_
    refine y_iload 169 c218_167 rfl rfl ?_
    refine y_iconst 170 c218_169 rfl ?_
    refine y_iadd 171 c218_170 rfl ?_
    refine s_scX 172 s3 c218_171 rfl hL (by omega) hs3 ?_
    refine y_callIB 175 [.ref 376, .long ((((Int32.ofInt s1).toInt64) <<< ((Int32.ofInt 32).toInt64 &&& 63)) ||| (((Int32.ofInt s2).toInt64) &&& (Int64.ofInt 4294967295))), yI s3] [] c218_172 rfl rfl rfl rfl rfl (ycanO km25 ko376) (t25T (d := 1198) hTq (by omega) (by omega) (by omega)) (fun rz mz nz hz => ?_)
    obtain ⟨e5, hz⟩ := hz
    rcases hz with ⟨y1, e6⟩ | ⟨y1, y2, e6⟩ | ⟨y1, y2, z1, z2, z3, z4, z5, z6, z7⟩
    · exact absurd ha y1
    · exfalso; omega
    · have hz1 := z1
      have hz2 : LI mz := h.app z7 c1 c2 z4 (by omega)
      have hTz := z7
      have hz3 : mz 413 0 = m 0 6 + s3 := (z4 413 0 (by decide) (by decide)).trans c3
      refine y_istore 177 c218_175 rfl rfl ?_
      refine y_goto 617 c218_177 rfl ?_
      exact hK _ _ _ _ hz2 (by omega)
set_option maxRecDepth 100000 in
theorem lc_1 {L : Nat} {xs : Nat → Int32} {nn : Nat} {m : yM} {Q : xO → yM → Nat → Prop} {i : Int} (hL : L ≤ 2048) (hi : 0 ≤ i ∧ i + 4 ≤ (L : Int)) (h : LI m) {x5 x6 : Option Value} (hK : ∀ (y5 y6 : Option Value) (m' : yM) (n' : Nat), LI m' → n' ≤ nn + 1 → YW (gZ L xs) 218 1200 617 [some (.retAddr 0), some (.ref 0), some (.ref 376), some (.ref 413), some (yI i), y5, y6] [] m' n' Q) (hZ : ∀ (m' : yM) (n' : Nat), n' ≤ nn + 1 → Q (.inl (some (yI 0))) m' n') : YW (gZ L xs) 218 1200 180 [some (.retAddr 0), some (.ref 0), some (.ref 376), some (.ref 413), some (yI i), x5, x6] [] m nn Q := by
  have hT := h.2.1.1
  have l0 := hT.atp 0 6 0 320 rfl
  have l1 := hT.atp 376 1 0 320 rfl
  have l2 := h.2.2
  refine y_aload 181 c218_180 rfl rfl rfl ?_
  refine y_aload 182 c218_181 rfl rfl rfl ?_
  refine y_iload 184 c218_182 rfl rfl ?_
  refine y_iconst 185 c218_184 rfl ?_
  refine y_iadd 186 c218_185 rfl ?_
  refine s_sc 187 c218_186 rfl hL (by omega) (fun s4 hs4 gs4 => ?_)
  refine y_aload 188 c218_187 rfl rfl rfl ?_
  refine y_callIB 191 [.ref 0, yI s4, .ref 413] [] c218_188 rfl rfl rfl rfl rfl (ycanS km28) (t28 (d := 1198) hT (by omega)) (fun rq mq nq hq => ?_)
  obtain ⟨hTq, hq⟩ := hq
  rcases hq with ⟨e1, hb, e3, e2⟩ | ⟨e1, hb, e3, e2⟩
  · subst e1
    obtain rfl : m = mq := e2.symm
    refine y_istore 193 c218_191 rfl rfl ?_
    refine y_aload 194 c218_193 rfl rfl rfl ?_
    refine y_aload 195 c218_194 rfl rfl rfl ?_
    refine y_iload 197 c218_195 rfl rfl ?_
    refine y_iconst 198 c218_197 rfl ?_
    refine y_iadd 199 c218_198 rfl ?_
    refine s_scX 200 s4 c218_199 rfl hL (by omega) hs4 ?_
    refine y_callIB 203 [.ref 376, yI s4] [] c218_200 rfl rfl rfl rfl rfl (ycanO km29 ko376) (t29w (by omega) hT) (fun rz mz nz hz => ?_)
    obtain ⟨e5, hTz, hz⟩ := hz
    rcases hz with ⟨y1, e7, e6⟩ | ⟨y1, e7, e6⟩
    · have hz1 : mz 376 57 = 1 := by rw [e6]; exact yup_eq _ _ _ _
      have hz2 : LI mz := by rw [e6]; exact h.cod (by decide)
      refine y_istore 205 c218_203 rfl rfl ?_
      refine y_goto 617 c218_205 rfl ?_
      exact hK _ _ _ _ hz2 (by omega)
    · exfalso; omega
  · subst e1
    have c1 : ∀ a q, a ≠ 1 → ¬ (a = 0 ∧ q = 6) → a ≠ 413 → mq a q = m a q := fun a q h1 h2 h3 => by rw [e2, yup_na h3, yup_ne h2]
    have c2 : mq 0 6 = m 0 6 + (-s4) := by rw [e2, yup_na (by decide), yup_eq]; omega
    have c3 : mq 413 0 = m 0 6 - s4 := by rw [e2]; exact yup_eq _ _ _ _
    have c4 : mq 376 1 = m 376 1 := c1 376 1 (by decide) (by decide) (by decide)
    refine y_istore 193 c218_191 rfl rfl ?_
    refine y_aload 194 c218_193 rfl rfl rfl ?_
    refine y_aload 195 c218_194 rfl rfl rfl ?_
    refine y_iload 197 c218_195 rfl rfl ?_
    refine y_iconst 198 c218_197 rfl ?_
    refine y_iadd 199 c218_198 rfl ?_
    refine s_scX 200 s4 c218_199 rfl hL (by omega) hs4 ?_
    refine y_callIB 203 [.ref 376, yI s4] [] c218_200 rfl rfl rfl rfl rfl (ycanO km29 ko376) (t29w (by omega) hTq) (fun rz mz nz hz => ?_)
    obtain ⟨e5, hTz, hz⟩ := hz
    rcases hz with ⟨y1, e7, e6⟩ | ⟨y1, e7, e6⟩
    · exfalso; omega
    · have hz1 : mz 376 57 = 0 := by rw [e6, yup_nk (by decide)]; exact yup_eq _ _ _ _
      have hz2 : LI mz := h.app (n := -s4) hTz c1 c2 (fun a q h1 h2 => by rw [e6, yup_ne (by omega), yup_ne (by omega)]) (by rw [e6, yup_eq]; omega)
      have hz3 : mz 413 0 = m 0 6 - s4 := by rw [e6, yup_na (by decide), yup_na (by decide)]; exact c3
      refine y_istore 205 c218_203 rfl rfl ?_
      refine y_goto 617 c218_205 rfl ?_
      exact hK _ _ _ _ hz2 (by omega)
set_option maxRecDepth 100000 in
theorem lc_2 {L : Nat} {xs : Nat → Int32} {nn : Nat} {m : yM} {Q : xO → yM → Nat → Prop} {i : Int} (hL : L ≤ 2048) (hi : 0 ≤ i ∧ i + 4 ≤ (L : Int)) (h : LI m) {x5 x6 : Option Value} (hK : ∀ (y5 y6 : Option Value) (m' : yM) (n' : Nat), LI m' → n' ≤ nn + 1 → YW (gZ L xs) 218 1200 617 [some (.retAddr 0), some (.ref 0), some (.ref 376), some (.ref 413), some (yI i), y5, y6] [] m' n' Q) (hZ : ∀ (m' : yM) (n' : Nat), n' ≤ nn + 1 → Q (.inl (some (yI 0))) m' n') : YW (gZ L xs) 218 1200 208 [some (.retAddr 0), some (.ref 0), some (.ref 376), some (.ref 413), some (yI i), x5, x6] [] m nn Q := by
  have hT := h.2.1.1
  have l0 := hT.atp 0 6 0 320 rfl
  have l1 := hT.atp 376 1 0 320 rfl
  have l2 := h.2.2
  refine y_aload 209 c218_208 rfl rfl rfl ?_
  refine y_aload 210 c218_209 rfl rfl rfl ?_
  refine y_callIB 213 [.ref 0, .ref 413] [] c218_210 rfl rfl rfl rfl rfl (ycanS km95) (t95w h) (fun rq5 mq5 nq5 hq5 => ?_)
  obtain ⟨hrq5, hnq5, hLq5⟩ := hq5
  have hTq5 := hLq5.2.1.1
  refine y_istore 215 c218_213 rfl rfl ?_
  refine y_aload 216 c218_215 rfl rfl rfl ?_
  refine y_callIB 219 [.ref 376] [] c218_216 rfl rfl rfl rfl rfl (ycanO km152 ko376) (t152w hLq5) (fun rq6 mq6 nq6 hq6 => ?_)
  obtain ⟨hrq6, hnq6, hLq6⟩ := hq6
  have hTq6 := hLq6.2.1.1
  refine y_istore 221 c218_219 rfl rfl ?_
  refine y_goto 617 c218_221 rfl ?_
  exact hK _ _ _ _ hLq6 (by omega)
set_option maxRecDepth 100000 in
theorem lc_3 {L : Nat} {xs : Nat → Int32} {nn : Nat} {m : yM} {Q : xO → yM → Nat → Prop} {i : Int} (hL : L ≤ 2048) (hi : 0 ≤ i ∧ i + 4 ≤ (L : Int)) (h : LI m) {x5 x6 : Option Value} (hK : ∀ (y5 y6 : Option Value) (m' : yM) (n' : Nat), LI m' → n' ≤ nn + 1 → YW (gZ L xs) 218 1200 617 [some (.retAddr 0), some (.ref 0), some (.ref 376), some (.ref 413), some (yI i), y5, y6] [] m' n' Q) (hZ : ∀ (m' : yM) (n' : Nat), n' ≤ nn + 1 → Q (.inl (some (yI 0))) m' n') : YW (gZ L xs) 218 1200 224 [some (.retAddr 0), some (.ref 0), some (.ref 376), some (.ref 413), some (yI i), x5, x6] [] m nn Q := by
  have hT := h.2.1.1
  have l0 := hT.atp 0 6 0 320 rfl
  have l1 := hT.atp 376 1 0 320 rfl
  have l2 := h.2.2
  refine y_aload 225 c218_224 rfl rfl rfl ?_
  refine y_inlB 228 [.ref 0] [] [some (.ref 0)] c218_225 rfl rfl rfl rfl rfl (ycanO km153 ko0) kn153 rfl rfl ?_
  refine y_aload 1 c153_0 rfl rfl rfl ?_
  refine y_getX 4 (m 0 7) c153_1 rfl kf0_7 rfl ?_
  have tb7 := hT.atp 0 7 ((-2147483648)) 2147483647 rfl
  refine y_ireturnK c153_4 (y_fit0 _) ?_
  refine y_pop 229 c218_228 rfl rfl ?_
  refine y_aload 230 c218_229 rfl rfl rfl ?_
  refine y_inlB 233 [.ref 376] [] [some (.ref 376)] c218_230 rfl rfl rfl rfl rfl (ycanO km154 ko376) kn154 rfl rfl ?_
  refine y_aload 1 c154_0 rfl rfl rfl ?_
  refine y_iconst 2 c154_1 rfl ?_
  refine y_putI 5 c154_2 rfl kf376_57 (y_fit0 _) ?_
  have hT8 := hT.up 376 57 0 0 4 rfl (by omega)
  refine y_aload 6 c154_5 rfl rfl rfl ?_
  refine y_getX 9 (m 376 2) c154_6 rfl kf376_2 rfl ?_
  have tb10 := hT.atp 376 2 ((-2147483648)) 2147483647 rfl
  refine y_ireturnK c154_9 (y_fit0 _) ?_
  refine y_pop 234 c218_233 rfl rfl ?_
  refine y_goto 617 c218_234 rfl ?_
  exact hK _ _ _ _ (h.cod (by decide)) (by omega)
set_option maxRecDepth 100000 in
theorem lc_4 {L : Nat} {xs : Nat → Int32} {nn : Nat} {m : yM} {Q : xO → yM → Nat → Prop} {i : Int} (hL : L ≤ 2048) (hi : 0 ≤ i ∧ i + 4 ≤ (L : Int)) (h : LI m) {x5 x6 : Option Value} (hK : ∀ (y5 y6 : Option Value) (m' : yM) (n' : Nat), LI m' → n' ≤ nn + 1 → YW (gZ L xs) 218 1200 617 [some (.retAddr 0), some (.ref 0), some (.ref 376), some (.ref 413), some (yI i), y5, y6] [] m' n' Q) (hZ : ∀ (m' : yM) (n' : Nat), n' ≤ nn + 1 → Q (.inl (some (yI 0))) m' n') : YW (gZ L xs) 218 1200 237 [some (.retAddr 0), some (.ref 0), some (.ref 376), some (.ref 413), some (yI i), x5, x6] [] m nn Q := by
  have hT := h.2.1.1
  have l0 := hT.atp 0 6 0 320 rfl
  have l1 := hT.atp 376 1 0 320 rfl
  have l2 := h.2.2
  refine y_aload 238 c218_237 rfl rfl rfl ?_
  refine y_aload 239 c218_238 rfl rfl rfl ?_
  refine y_iload 241 c218_239 rfl rfl ?_
  refine y_iconst 242 c218_241 rfl ?_
  refine y_iadd 243 c218_242 rfl ?_
  refine s_sc 244 c218_243 rfl hL (by omega) (fun s11 hs11 gs11 => ?_)
  refine y_aload 245 c218_244 rfl rfl rfl ?_
  refine y_iload 247 c218_245 rfl rfl ?_
  refine y_iconst 248 c218_247 rfl ?_
  refine y_iadd 249 c218_248 rfl ?_
  refine s_sc 250 c218_249 rfl hL (by omega) (fun s12 hs12 gs12 => ?_)
  refine y_aload 251 c218_250 rfl rfl rfl ?_
  refine y_callIB 254 [.ref 0, yI s11, yI s12, .ref 413] [] c218_251 rfl rfl rfl rfl rfl (ycanS km159) (t159w (by omega) (by omega) h) (fun rq13 mq13 nq13 hq13 => ?_)
  obtain ⟨hrq13, hnq13, hLq13⟩ := hq13
  have hTq13 := hLq13.2.1.1
  refine y_istore 256 c218_254 rfl rfl ?_
  refine y_aload 257 c218_256 rfl rfl rfl ?_
  refine y_aload 258 c218_257 rfl rfl rfl ?_
  refine y_iload 260 c218_258 rfl rfl ?_
  refine y_iconst 261 c218_260 rfl ?_
  refine y_iadd 262 c218_261 rfl ?_
  refine s_scX 263 s11 c218_262 rfl hL (by omega) hs11 ?_
  refine y_aload 264 c218_263 rfl rfl rfl ?_
  refine y_iload 266 c218_264 rfl rfl ?_
  refine y_iconst 267 c218_266 rfl ?_
  refine y_iadd 268 c218_267 rfl ?_
  refine s_scX 269 s12 c218_268 rfl hL (by omega) hs12 ?_
  refine y_callIB 272 [.ref 376, yI s11, yI s12] [] c218_269 rfl rfl rfl rfl rfl (ycanO km163 ko376) (t163w (by omega) (by omega) hLq13) (fun rq14 mq14 nq14 hq14 => ?_)
  obtain ⟨hrq14, hnq14, hLq14⟩ := hq14
  have hTq14 := hLq14.2.1.1
  refine y_istore 274 c218_272 rfl rfl ?_
  refine y_goto 617 c218_274 rfl ?_
  exact hK _ _ _ _ hLq14 (by omega)
set_option maxRecDepth 100000 in
theorem lc_5 {L : Nat} {xs : Nat → Int32} {nn : Nat} {m : yM} {Q : xO → yM → Nat → Prop} {i : Int} (hL : L ≤ 2048) (hi : 0 ≤ i ∧ i + 4 ≤ (L : Int)) (h : LI m) {x5 x6 : Option Value} (hK : ∀ (y5 y6 : Option Value) (m' : yM) (n' : Nat), LI m' → n' ≤ nn + 1 → YW (gZ L xs) 218 1200 617 [some (.retAddr 0), some (.ref 0), some (.ref 376), some (.ref 413), some (yI i), y5, y6] [] m' n' Q) (hZ : ∀ (m' : yM) (n' : Nat), n' ≤ nn + 1 → Q (.inl (some (yI 0))) m' n') : YW (gZ L xs) 218 1200 277 [some (.retAddr 0), some (.ref 0), some (.ref 376), some (.ref 413), some (yI i), x5, x6] [] m nn Q := by
  have hT := h.2.1.1
  have l0 := hT.atp 0 6 0 320 rfl
  have l1 := hT.atp 376 1 0 320 rfl
  have l2 := h.2.2
  refine y_aload 278 c218_277 rfl rfl rfl ?_
  refine y_aload 279 c218_278 rfl rfl rfl ?_
  refine y_iload 281 c218_279 rfl rfl ?_
  refine y_iconst 282 c218_281 rfl ?_
  refine y_iadd 283 c218_282 rfl ?_
  refine s_sc 284 c218_283 rfl hL (by omega) (fun s15 hs15 gs15 => ?_)
  refine y_aload 285 c218_284 rfl rfl rfl ?_
  refine y_iload 287 c218_285 rfl rfl ?_
  refine y_iconst 288 c218_287 rfl ?_
  refine y_iadd 289 c218_288 rfl ?_
  refine s_sc 290 c218_289 rfl hL (by omega) (fun s16 hs16 gs16 => ?_)
  refine y_aload 291 c218_290 rfl rfl rfl ?_
  refine y_iload 293 c218_291 rfl rfl ?_
  refine y_iconst 294 c218_293 rfl ?_
  refine y_iadd 295 c218_294 rfl ?_
  refine s_sc 296 c218_295 rfl hL (by omega) (fun s17 hs17 gs17 => ?_)
  refine y_aload 297 c218_296 rfl rfl rfl ?_
  refine y_callIB 300 [.ref 0, yI s15, yI s16, yI s17, .ref 413] [] c218_297 rfl rfl rfl rfl rfl (ycanS km165) (t165w (by omega) (by omega) (by omega) h) (fun rq18 mq18 nq18 hq18 => ?_)
  obtain ⟨hrq18, hnq18, hLq18⟩ := hq18
  have hTq18 := hLq18.2.1.1
  refine y_istore 302 c218_300 rfl rfl ?_
  refine y_aload 303 c218_302 rfl rfl rfl ?_
  refine y_aload 304 c218_303 rfl rfl rfl ?_
  refine y_iload 306 c218_304 rfl rfl ?_
  refine y_iconst 307 c218_306 rfl ?_
  refine y_iadd 308 c218_307 rfl ?_
  refine s_scX 309 s15 c218_308 rfl hL (by omega) hs15 ?_
  refine y_aload 310 c218_309 rfl rfl rfl ?_
  refine y_iload 312 c218_310 rfl rfl ?_
  refine y_iconst 313 c218_312 rfl ?_
  refine y_iadd 314 c218_313 rfl ?_
  refine s_scX 315 s16 c218_314 rfl hL (by omega) hs16 ?_
  refine y_aload 316 c218_315 rfl rfl rfl ?_
  refine y_iload 318 c218_316 rfl rfl ?_
  refine y_iconst 319 c218_318 rfl ?_
  refine y_iadd 320 c218_319 rfl ?_
  refine s_scX 321 s17 c218_320 rfl hL (by omega) hs17 ?_
  refine y_callIB 324 [.ref 376, yI s15, yI s16, yI s17] [] c218_321 rfl rfl rfl rfl rfl (ycanO km166 ko376) (t166w (by omega) (by omega) (by omega) hLq18) (fun rq19 mq19 nq19 hq19 => ?_)
  obtain ⟨hrq19, hnq19, hLq19⟩ := hq19
  have hTq19 := hLq19.2.1.1
  refine y_istore 326 c218_324 rfl rfl ?_
  refine y_goto 617 c218_326 rfl ?_
  exact hK _ _ _ _ hLq19 (by omega)
set_option maxRecDepth 100000 in
theorem lc_6 {L : Nat} {xs : Nat → Int32} {nn : Nat} {m : yM} {Q : xO → yM → Nat → Prop} {i : Int} (hL : L ≤ 2048) (hi : 0 ≤ i ∧ i + 4 ≤ (L : Int)) (h : LI m) {x5 x6 : Option Value} (hK : ∀ (y5 y6 : Option Value) (m' : yM) (n' : Nat), LI m' → n' ≤ nn + 1 → YW (gZ L xs) 218 1200 617 [some (.retAddr 0), some (.ref 0), some (.ref 376), some (.ref 413), some (yI i), y5, y6] [] m' n' Q) (hZ : ∀ (m' : yM) (n' : Nat), n' ≤ nn + 1 → Q (.inl (some (yI 0))) m' n') : YW (gZ L xs) 218 1200 329 [some (.retAddr 0), some (.ref 0), some (.ref 376), some (.ref 413), some (yI i), x5, x6] [] m nn Q := by
  have hT := h.2.1.1
  have l0 := hT.atp 0 6 0 320 rfl
  have l1 := hT.atp 376 1 0 320 rfl
  have l2 := h.2.2
  refine y_aload 330 c218_329 rfl rfl rfl ?_
  refine y_aload 331 c218_330 rfl rfl rfl ?_
  refine y_iload 333 c218_331 rfl rfl ?_
  refine y_iconst 334 c218_333 rfl ?_
  refine y_iadd 335 c218_334 rfl ?_
  refine s_sc 336 c218_335 rfl hL (by omega) (fun s20 hs20 gs20 => ?_)
  refine y_aload 337 c218_336 rfl rfl rfl ?_
  refine y_iload 339 c218_337 rfl rfl ?_
  refine y_iconst 340 c218_339 rfl ?_
  refine y_iadd 341 c218_340 rfl ?_
  refine s_sc 342 c218_341 rfl hL (by omega) (fun s21 hs21 gs21 => ?_)
  refine y_aload 343 c218_342 rfl rfl rfl ?_
  refine y_callIB 346 [.ref 0, yI s20, yI s21, .ref 413] [] c218_343 rfl rfl rfl rfl rfl (ycanS km169) (t169w (by omega) (by omega) h) (fun rq22 mq22 nq22 hq22 => ?_)
  obtain ⟨hrq22, hnq22, hLq22⟩ := hq22
  have hTq22 := hLq22.2.1.1
  refine y_istore 348 c218_346 rfl rfl ?_
  refine y_aload 349 c218_348 rfl rfl rfl ?_
  refine y_aload 350 c218_349 rfl rfl rfl ?_
  refine y_iload 352 c218_350 rfl rfl ?_
  refine y_iconst 353 c218_352 rfl ?_
  refine y_iadd 354 c218_353 rfl ?_
  refine s_scX 355 s20 c218_354 rfl hL (by omega) hs20 ?_
  refine y_aload 356 c218_355 rfl rfl rfl ?_
  refine y_iload 358 c218_356 rfl rfl ?_
  refine y_iconst 359 c218_358 rfl ?_
  refine y_iadd 360 c218_359 rfl ?_
  refine s_scX 361 s21 c218_360 rfl hL (by omega) hs21 ?_
  refine y_callIB 364 [.ref 376, yI s20, yI s21] [] c218_361 rfl rfl rfl rfl rfl (ycanO km171 ko376) (t171w (by omega) (by omega) hLq22) (fun rq23 mq23 nq23 hq23 => ?_)
  obtain ⟨hrq23, hnq23, hLq23⟩ := hq23
  have hTq23 := hLq23.2.1.1
  refine y_istore 366 c218_364 rfl rfl ?_
  refine y_goto 617 c218_366 rfl ?_
  exact hK _ _ _ _ hLq23 (by omega)
set_option maxRecDepth 100000 in
theorem lc_7 {L : Nat} {xs : Nat → Int32} {nn : Nat} {m : yM} {Q : xO → yM → Nat → Prop} {i : Int} (hL : L ≤ 2048) (hi : 0 ≤ i ∧ i + 4 ≤ (L : Int)) (h : LI m) {x5 x6 : Option Value} (hK : ∀ (y5 y6 : Option Value) (m' : yM) (n' : Nat), LI m' → n' ≤ nn + 1 → YW (gZ L xs) 218 1200 617 [some (.retAddr 0), some (.ref 0), some (.ref 376), some (.ref 413), some (yI i), y5, y6] [] m' n' Q) (hZ : ∀ (m' : yM) (n' : Nat), n' ≤ nn + 1 → Q (.inl (some (yI 0))) m' n') : YW (gZ L xs) 218 1200 369 [some (.retAddr 0), some (.ref 0), some (.ref 376), some (.ref 413), some (yI i), x5, x6] [] m nn Q := by
  have hT := h.2.1.1
  have l0 := hT.atp 0 6 0 320 rfl
  have l1 := hT.atp 376 1 0 320 rfl
  have l2 := h.2.2
  refine y_aload 370 c218_369 rfl rfl rfl ?_
  refine y_aload 371 c218_370 rfl rfl rfl ?_
  refine y_iload 373 c218_371 rfl rfl ?_
  refine y_iconst 374 c218_373 rfl ?_
  refine y_iadd 375 c218_374 rfl ?_
  refine s_sc 376 c218_375 rfl hL (by omega) (fun s24 hs24 gs24 => ?_)
  refine y_aload 377 c218_376 rfl rfl rfl ?_
  refine y_callIB 380 [.ref 0, yI s24, .ref 413] [] c218_377 rfl rfl rfl rfl rfl (ycanS km173) (t173w (by omega) h) (fun rq25 mq25 nq25 hq25 => ?_)
  obtain ⟨hrq25, hnq25, hLq25⟩ := hq25
  have hTq25 := hLq25.2.1.1
  refine y_istore 382 c218_380 rfl rfl ?_
  refine y_aload 383 c218_382 rfl rfl rfl ?_
  refine y_aload 384 c218_383 rfl rfl rfl ?_
  refine y_iload 386 c218_384 rfl rfl ?_
  refine y_iconst 387 c218_386 rfl ?_
  refine y_iadd 388 c218_387 rfl ?_
  refine s_scX 389 s24 c218_388 rfl hL (by omega) hs24 ?_
  refine y_callIB 392 [.ref 376, yI s24] [] c218_389 rfl rfl rfl rfl rfl (ycanO km174 ko376) (t174w (by omega) hLq25) (fun rq26 mq26 nq26 hq26 => ?_)
  obtain ⟨hrq26, hnq26, hLq26⟩ := hq26
  have hTq26 := hLq26.2.1.1
  refine y_istore 394 c218_392 rfl rfl ?_
  refine y_goto 617 c218_394 rfl ?_
  exact hK _ _ _ _ hLq26 (by omega)
set_option maxRecDepth 100000 in
theorem lc_8 {L : Nat} {xs : Nat → Int32} {nn : Nat} {m : yM} {Q : xO → yM → Nat → Prop} {i : Int} (hL : L ≤ 2048) (hi : 0 ≤ i ∧ i + 4 ≤ (L : Int)) (h : LI m) {x5 x6 : Option Value} (hK : ∀ (y5 y6 : Option Value) (m' : yM) (n' : Nat), LI m' → n' ≤ nn + 1 → YW (gZ L xs) 218 1200 617 [some (.retAddr 0), some (.ref 0), some (.ref 376), some (.ref 413), some (yI i), y5, y6] [] m' n' Q) (hZ : ∀ (m' : yM) (n' : Nat), n' ≤ nn + 1 → Q (.inl (some (yI 0))) m' n') : YW (gZ L xs) 218 1200 397 [some (.retAddr 0), some (.ref 0), some (.ref 376), some (.ref 413), some (yI i), x5, x6] [] m nn Q := by
  have hT := h.2.1.1
  have l0 := hT.atp 0 6 0 320 rfl
  have l1 := hT.atp 376 1 0 320 rfl
  have l2 := h.2.2
  refine y_aload 398 c218_397 rfl rfl rfl ?_
  refine y_aload 399 c218_398 rfl rfl rfl ?_
  refine y_iload 401 c218_399 rfl rfl ?_
  refine y_iconst 402 c218_401 rfl ?_
  refine y_iadd 403 c218_402 rfl ?_
  refine s_sc 404 c218_403 rfl hL (by omega) (fun s27 hs27 gs27 => ?_)
  refine y_aload 405 c218_404 rfl rfl rfl ?_
  refine y_callIB 408 [.ref 0, yI s27, .ref 413] [] c218_405 rfl rfl rfl rfl rfl (ycanS km177) (t177w (by omega) h) (fun rq28 mq28 nq28 hq28 => ?_)
  obtain ⟨hrq28, hnq28, hLq28⟩ := hq28
  have hTq28 := hLq28.2.1.1
  refine y_istore 410 c218_408 rfl rfl ?_
  refine y_aload 411 c218_410 rfl rfl rfl ?_
  refine y_aload 412 c218_411 rfl rfl rfl ?_
  refine y_iload 414 c218_412 rfl rfl ?_
  refine y_iconst 415 c218_414 rfl ?_
  refine y_iadd 416 c218_415 rfl ?_
  refine s_scX 417 s27 c218_416 rfl hL (by omega) hs27 ?_
  refine y_callIB 420 [.ref 376, yI s27] [] c218_417 rfl rfl rfl rfl rfl (ycanO km178 ko376) (t178w (by omega) hLq28) (fun rq29 mq29 nq29 hq29 => ?_)
  obtain ⟨hrq29, hnq29, hLq29⟩ := hq29
  have hTq29 := hLq29.2.1.1
  refine y_istore 422 c218_420 rfl rfl ?_
  refine y_aload 423 c218_422 rfl rfl rfl ?_
  refine y_inlB 426 [.ref 376] [] [some (.ref 376)] c218_423 rfl rfl rfl rfl rfl (ycanO km26 ko376) kn26 rfl rfl ?_
  refine y_aload 1 c26_0 rfl rfl rfl ?_
  refine y_getX 4 (mq29 376 57) c26_1 rfl kf376_57 rfl ?_
  have tb30 := hTq29.atp 376 57 0 4 rfl
  refine y_ireturnK c26_4 (y_fit0 _) ?_
  refine y_iload 428 c218_426 rfl rfl ?_
  refine y_icmp 433 431 c218_428 rfl rfl (yc_eq (by omega) (by omega)) (fun hb31 => ?_) (fun hb31 => ?_)
  · refine y_iload 435 c218_433 rfl rfl ?_
    refine y_if 450 438 c218_435 rfl rfl (yz_ne (by omega)) (fun hb32 => ?_) (fun hb32 => ?_)
    · refine y_goto 617 c218_450 rfl ?_
      exact hK _ _ _ _ hLq29 (by omega)
    · refine y_aload 439 c218_438 rfl rfl rfl ?_
      refine y_iconst 440 c218_439 rfl ?_
      refine y_laX 441 (mq29 413 0) c218_440 rfl kl413 (by decide) rfl ?_
      refine y_iload 443 c218_441 rfl rfl ?_
      refine y_i2l 444 c218_443 rfl ?_
      refine y_lcmpU 445 c218_444 rfl (fun zc33 gzc33 => ?_)
      refine y_if 450 448 c218_445 rfl rfl (yz_eq (by omega)) (fun hb34 => ?_) (fun hb34 => ?_)
      · refine y_goto 617 c218_450 rfl ?_
        exact hK _ _ _ _ hLq29 (by omega)
      · refine y_iconst 449 c218_448 rfl ?_
        exact y_ireturn c218_449 (y_fit1 (by omega)) (hZ _ _ (by omega))
  · refine y_iconst 432 c218_431 rfl ?_
    exact y_ireturn c218_432 (y_fit1 (by omega)) (hZ _ _ (by omega))
set_option maxRecDepth 100000 in
theorem lc_9 {L : Nat} {xs : Nat → Int32} {nn : Nat} {m : yM} {Q : xO → yM → Nat → Prop} {i : Int} (hL : L ≤ 2048) (hi : 0 ≤ i ∧ i + 4 ≤ (L : Int)) (h : LI m) {x5 x6 : Option Value} (hK : ∀ (y5 y6 : Option Value) (m' : yM) (n' : Nat), LI m' → n' ≤ nn + 1 → YW (gZ L xs) 218 1200 617 [some (.retAddr 0), some (.ref 0), some (.ref 376), some (.ref 413), some (yI i), y5, y6] [] m' n' Q) (hZ : ∀ (m' : yM) (n' : Nat), n' ≤ nn + 1 → Q (.inl (some (yI 0))) m' n') : YW (gZ L xs) 218 1200 453 [some (.retAddr 0), some (.ref 0), some (.ref 376), some (.ref 413), some (yI i), x5, x6] [] m nn Q := by
  have hT := h.2.1.1
  have l0 := hT.atp 0 6 0 320 rfl
  have l1 := hT.atp 376 1 0 320 rfl
  have l2 := h.2.2
  refine y_aload 454 c218_453 rfl rfl rfl ?_
  refine y_aload 455 c218_454 rfl rfl rfl ?_
  refine y_iload 457 c218_455 rfl rfl ?_
  refine y_iconst 458 c218_457 rfl ?_
  refine y_iadd 459 c218_458 rfl ?_
  refine s_sc 460 c218_459 rfl hL (by omega) (fun s35 hs35 gs35 => ?_)
  refine y_aload 461 c218_460 rfl rfl rfl ?_
  refine y_iload 463 c218_461 rfl rfl ?_
  refine y_iconst 464 c218_463 rfl ?_
  refine y_iadd 465 c218_464 rfl ?_
  refine s_sc 466 c218_465 rfl hL (by omega) (fun s36 hs36 gs36 => ?_)
  refine y_aload 467 c218_466 rfl rfl rfl ?_
  refine y_callIB 470 [.ref 0, yI s35, yI s36, .ref 413] [] c218_467 rfl rfl rfl rfl rfl (ycanS km181) (t181w (by omega) (by omega) h) (fun rq37 mq37 nq37 hq37 => ?_)
  obtain ⟨hrq37, hnq37, hLq37⟩ := hq37
  have hTq37 := hLq37.2.1.1
  refine y_istore 472 c218_470 rfl rfl ?_
  refine y_aload 473 c218_472 rfl rfl rfl ?_
  refine y_aload 474 c218_473 rfl rfl rfl ?_
  refine y_iload 476 c218_474 rfl rfl ?_
  refine y_iconst 477 c218_476 rfl ?_
  refine y_iadd 478 c218_477 rfl ?_
  refine s_scX 479 s35 c218_478 rfl hL (by omega) hs35 ?_
  refine y_aload 480 c218_479 rfl rfl rfl ?_
  refine y_iload 482 c218_480 rfl rfl ?_
  refine y_iconst 483 c218_482 rfl ?_
  refine y_iadd 484 c218_483 rfl ?_
  refine s_scX 485 s36 c218_484 rfl hL (by omega) hs36 ?_
  refine y_callIB 488 [.ref 376, yI s35, yI s36] [] c218_485 rfl rfl rfl rfl rfl (ycanO km182 ko376) (t182w (by omega) (by omega) hLq37) (fun rq38 mq38 nq38 hq38 => ?_)
  obtain ⟨hrq38, hnq38, hLq38⟩ := hq38
  have hTq38 := hLq38.2.1.1
  refine y_istore 490 c218_488 rfl rfl ?_
  refine y_goto 617 c218_490 rfl ?_
  exact hK _ _ _ _ hLq38 (by omega)
set_option maxRecDepth 100000 in
theorem lc_10 {L : Nat} {xs : Nat → Int32} {nn : Nat} {m : yM} {Q : xO → yM → Nat → Prop} {i : Int} (hL : L ≤ 2048) (hi : 0 ≤ i ∧ i + 4 ≤ (L : Int)) (h : LI m) {x5 x6 : Option Value} (hK : ∀ (y5 y6 : Option Value) (m' : yM) (n' : Nat), LI m' → n' ≤ nn + 1 → YW (gZ L xs) 218 1200 617 [some (.retAddr 0), some (.ref 0), some (.ref 376), some (.ref 413), some (yI i), y5, y6] [] m' n' Q) (hZ : ∀ (m' : yM) (n' : Nat), n' ≤ nn + 1 → Q (.inl (some (yI 0))) m' n') : YW (gZ L xs) 218 1200 493 [some (.retAddr 0), some (.ref 0), some (.ref 376), some (.ref 413), some (yI i), x5, x6] [] m nn Q := by
  have hT := h.2.1.1
  have l0 := hT.atp 0 6 0 320 rfl
  have l1 := hT.atp 376 1 0 320 rfl
  have l2 := h.2.2
  refine y_aload 494 c218_493 rfl rfl rfl ?_
  refine y_aload 495 c218_494 rfl rfl rfl ?_
  refine y_iload 497 c218_495 rfl rfl ?_
  refine y_iconst 498 c218_497 rfl ?_
  refine y_iadd 499 c218_498 rfl ?_
  refine s_sc 500 c218_499 rfl hL (by omega) (fun s39 hs39 gs39 => ?_)
  refine y_aload 501 c218_500 rfl rfl rfl ?_
  refine y_iload 503 c218_501 rfl rfl ?_
  refine y_iconst 504 c218_503 rfl ?_
  refine y_iadd 505 c218_504 rfl ?_
  refine s_sc 506 c218_505 rfl hL (by omega) (fun s40 hs40 gs40 => ?_)
  refine y_aload 507 c218_506 rfl rfl rfl ?_
  refine y_callIB 510 [.ref 0, yI s39, yI s40, .ref 413] [] c218_507 rfl rfl rfl rfl rfl (ycanS km184) (t184w (by omega) (by omega) h) (fun rq41 mq41 nq41 hq41 => ?_)
  obtain ⟨hrq41, hnq41, hLq41⟩ := hq41
  have hTq41 := hLq41.2.1.1
  refine y_istore 512 c218_510 rfl rfl ?_
  refine y_aload 513 c218_512 rfl rfl rfl ?_
  refine y_aload 514 c218_513 rfl rfl rfl ?_
  refine y_iload 516 c218_514 rfl rfl ?_
  refine y_iconst 517 c218_516 rfl ?_
  refine y_iadd 518 c218_517 rfl ?_
  refine s_scX 519 s39 c218_518 rfl hL (by omega) hs39 ?_
  refine y_aload 520 c218_519 rfl rfl rfl ?_
  refine y_iload 522 c218_520 rfl rfl ?_
  refine y_iconst 523 c218_522 rfl ?_
  refine y_iadd 524 c218_523 rfl ?_
  refine s_scX 525 s40 c218_524 rfl hL (by omega) hs40 ?_
  refine y_callIB 528 [.ref 376, yI s39, yI s40] [] c218_525 rfl rfl rfl rfl rfl (ycanO km185 ko376) (t185w (by omega) (by omega) hLq41) (fun rq42 mq42 nq42 hq42 => ?_)
  obtain ⟨hrq42, hnq42, hLq42⟩ := hq42
  have hTq42 := hLq42.2.1.1
  refine y_istore 530 c218_528 rfl rfl ?_
  refine y_goto 617 c218_530 rfl ?_
  exact hK _ _ _ _ hLq42 (by omega)
set_option maxRecDepth 100000 in
theorem lc_11 {L : Nat} {xs : Nat → Int32} {nn : Nat} {m : yM} {Q : xO → yM → Nat → Prop} {i : Int} (hL : L ≤ 2048) (hi : 0 ≤ i ∧ i + 4 ≤ (L : Int)) (h : LI m) {x5 x6 : Option Value} (hK : ∀ (y5 y6 : Option Value) (m' : yM) (n' : Nat), LI m' → n' ≤ nn + 1 → YW (gZ L xs) 218 1200 617 [some (.retAddr 0), some (.ref 0), some (.ref 376), some (.ref 413), some (yI i), y5, y6] [] m' n' Q) (hZ : ∀ (m' : yM) (n' : Nat), n' ≤ nn + 1 → Q (.inl (some (yI 0))) m' n') : YW (gZ L xs) 218 1200 533 [some (.retAddr 0), some (.ref 0), some (.ref 376), some (.ref 413), some (yI i), x5, x6] [] m nn Q := by
  have hT := h.2.1.1
  have l0 := hT.atp 0 6 0 320 rfl
  have l1 := hT.atp 376 1 0 320 rfl
  have l2 := h.2.2
  refine y_aload 534 c218_533 rfl rfl rfl ?_
  refine y_aload 535 c218_534 rfl rfl rfl ?_
  refine y_callIB 538 [.ref 0, .ref 413] [] c218_535 rfl rfl rfl rfl rfl (ycanS km200) (t200w h) (fun rq43 mq43 nq43 hq43 => ?_)
  obtain ⟨hrq43, hnq43, hLq43⟩ := hq43
  have hTq43 := hLq43.2.1.1
  refine y_istore 540 c218_538 rfl rfl ?_
  refine y_aload 541 c218_540 rfl rfl rfl ?_
  refine y_callIB 544 [.ref 376] [] c218_541 rfl rfl rfl rfl rfl (ycanO km211 ko376) (t211w hLq43) (fun rq44 mq44 nq44 hq44 => ?_)
  obtain ⟨hrq44, hnq44, hLq44⟩ := hq44
  have hTq44 := hLq44.2.1.1
  refine y_istore 546 c218_544 rfl rfl ?_
  refine y_goto 617 c218_546 rfl ?_
  exact hK _ _ _ _ hLq44 (by omega)
set_option maxRecDepth 100000 in
theorem lc_12 {L : Nat} {xs : Nat → Int32} {nn : Nat} {m : yM} {Q : xO → yM → Nat → Prop} {i : Int} (hL : L ≤ 2048) (hi : 0 ≤ i ∧ i + 4 ≤ (L : Int)) (h : LI m) {x5 x6 : Option Value} (hK : ∀ (y5 y6 : Option Value) (m' : yM) (n' : Nat), LI m' → n' ≤ nn + 1 → YW (gZ L xs) 218 1200 617 [some (.retAddr 0), some (.ref 0), some (.ref 376), some (.ref 413), some (yI i), y5, y6] [] m' n' Q) (hZ : ∀ (m' : yM) (n' : Nat), n' ≤ nn + 1 → Q (.inl (some (yI 0))) m' n') : YW (gZ L xs) 218 1200 549 [some (.retAddr 0), some (.ref 0), some (.ref 376), some (.ref 413), some (yI i), x5, x6] [] m nn Q := by
  have hT := h.2.1.1
  have l0 := hT.atp 0 6 0 320 rfl
  have l1 := hT.atp 376 1 0 320 rfl
  have l2 := h.2.2
  refine y_aload 550 c218_549 rfl rfl rfl ?_
  refine y_aload 551 c218_550 rfl rfl rfl ?_
  refine y_iload 553 c218_551 rfl rfl ?_
  refine y_iconst 554 c218_553 rfl ?_
  refine y_iadd 555 c218_554 rfl ?_
  refine s_sc 556 c218_555 rfl hL (by omega) (fun s45 hs45 gs45 => ?_)
  refine y_aload 557 c218_556 rfl rfl rfl ?_
  refine y_iload 559 c218_557 rfl rfl ?_
  refine y_iconst 560 c218_559 rfl ?_
  refine y_iadd 561 c218_560 rfl ?_
  refine s_sc 562 c218_561 rfl hL (by omega) (fun s46 hs46 gs46 => ?_)
  refine y_aload 563 c218_562 rfl rfl rfl ?_
  refine y_callIB 566 [.ref 0, yI s45, yI s46, .ref 413] [] c218_563 rfl rfl rfl rfl rfl (ycanS km213) (t213w (by omega) (by omega) h) (fun rq47 mq47 nq47 hq47 => ?_)
  obtain ⟨hrq47, hnq47, hLq47⟩ := hq47
  have hTq47 := hLq47.2.1.1
  refine y_istore 568 c218_566 rfl rfl ?_
  refine y_aload 569 c218_568 rfl rfl rfl ?_
  refine y_aload 570 c218_569 rfl rfl rfl ?_
  refine y_iload 572 c218_570 rfl rfl ?_
  refine y_iconst 573 c218_572 rfl ?_
  refine y_iadd 574 c218_573 rfl ?_
  refine s_scX 575 s45 c218_574 rfl hL (by omega) hs45 ?_
  refine y_aload 576 c218_575 rfl rfl rfl ?_
  refine y_iload 578 c218_576 rfl rfl ?_
  refine y_iconst 579 c218_578 rfl ?_
  refine y_iadd 580 c218_579 rfl ?_
  refine s_scX 581 s46 c218_580 rfl hL (by omega) hs46 ?_
  refine y_callIB 584 [.ref 376, yI s45, yI s46] [] c218_581 rfl rfl rfl rfl rfl (ycanO km214 ko376) (t214w (by omega) (by omega) hLq47) (fun rq48 mq48 nq48 hq48 => ?_)
  obtain ⟨hrq48, hnq48, hLq48⟩ := hq48
  have hTq48 := hLq48.2.1.1
  refine y_istore 586 c218_584 rfl rfl ?_
  refine y_goto 617 c218_586 rfl ?_
  exact hK _ _ _ _ hLq48 (by omega)
set_option maxRecDepth 100000 in
theorem lc_13 {L : Nat} {xs : Nat → Int32} {nn : Nat} {m : yM} {Q : xO → yM → Nat → Prop} {i : Int} (hL : L ≤ 2048) (hi : 0 ≤ i ∧ i + 4 ≤ (L : Int)) (h : LI m) {x5 x6 : Option Value} (hK : ∀ (y5 y6 : Option Value) (m' : yM) (n' : Nat), LI m' → n' ≤ nn + 1 → YW (gZ L xs) 218 1200 617 [some (.retAddr 0), some (.ref 0), some (.ref 376), some (.ref 413), some (yI i), y5, y6] [] m' n' Q) (hZ : ∀ (m' : yM) (n' : Nat), n' ≤ nn + 1 → Q (.inl (some (yI 0))) m' n') : YW (gZ L xs) 218 1200 589 [some (.retAddr 0), some (.ref 0), some (.ref 376), some (.ref 413), some (yI i), x5, x6] [] m nn Q := by
  have hT := h.2.1.1
  have l0 := hT.atp 0 6 0 320 rfl
  have l1 := hT.atp 376 1 0 320 rfl
  have l2 := h.2.2
  refine y_aload 590 c218_589 rfl rfl rfl ?_
  refine y_aload 591 c218_590 rfl rfl rfl ?_
  refine y_iload 593 c218_591 rfl rfl ?_
  refine y_iconst 594 c218_593 rfl ?_
  refine y_iadd 595 c218_594 rfl ?_
  refine s_sc 596 c218_595 rfl hL (by omega) (fun s49 hs49 gs49 => ?_)
  refine y_aload 597 c218_596 rfl rfl rfl ?_
  refine y_callIB 600 [.ref 0, yI s49, .ref 413] [] c218_597 rfl rfl rfl rfl rfl (ycanS km216) (t216w (by omega) h) (fun rq50 mq50 nq50 hq50 => ?_)
  obtain ⟨hrq50, hnq50, hLq50⟩ := hq50
  have hTq50 := hLq50.2.1.1
  refine y_istore 602 c218_600 rfl rfl ?_
  refine y_aload 603 c218_602 rfl rfl rfl ?_
  refine y_aload 604 c218_603 rfl rfl rfl ?_
  refine y_iload 606 c218_604 rfl rfl ?_
  refine y_iconst 607 c218_606 rfl ?_
  refine y_iadd 608 c218_607 rfl ?_
  refine s_scX 609 s49 c218_608 rfl hL (by omega) hs49 ?_
  refine y_callIB 612 [.ref 376, yI s49] [] c218_609 rfl rfl rfl rfl rfl (ycanO km217 ko376) (t217w (by omega) hLq50) (fun rq51 mq51 nq51 hq51 => ?_)
  obtain ⟨hrq51, hnq51, hLq51⟩ := hq51
  have hTq51 := hLq51.2.1.1
  refine y_istore 614 c218_612 rfl rfl ?_
  refine y_goto 617 c218_614 rfl ?_
  exact hK _ _ _ _ hLq51 (by omega)
