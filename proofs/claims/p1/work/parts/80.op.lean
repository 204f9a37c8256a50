set_option maxRecDepth 100000 in
set_option maxHeartbeats 4000000 in
theorem g1_0 (xs : Nat → Int32) (x0 x1 x2 x3 : Int) (h0 : (xs 0).toInt = x0) (h1 : (xs 1).toInt = x1) (h2 : (xs 2).toInt = x2) (h3 : (xs 3).toInt = x3) (r1 : -2147483648 ≤ x1 ∧ x1 < 2147483648) (r2 : -2147483648 ≤ x2 ∧ x2 < 2147483648) (r3 : -2147483648 ≤ x3 ∧ x3 < 2147483648) (hop : (Int32.ofInt x0 &&& Int32.ofInt 15).toInt = 0) : YW (gZ 4 xs) 218 60 23 [some (.retAddr 0), some (.ref 0), some (.ref 376), some (.ref 413), some (yI 0), none, none] [] gMem 414 gQ1 := by
  refine y_iload 25 c218_23 rfl rfl ?_
  refine y_aload 26 c218_25 rfl rfl rfl ?_
  refine y_slen 27 c218_26 rfl ?_
  refine y_top 4 rfl ?_
  refine y_iconst 28 c218_27 rfl ?_
  refine y_isub 29 c218_28 rfl ?_
  refine y_top 0 (by decide) ?_
  refine y_icmp 959 32 c218_29 rfl rfl (yc_gt (by omega) (by omega)) (fun hb => ?_) (fun hb => ?_)
  · exfalso; omega
  · refine y_aload 33 c218_32 rfl rfl rfl ?_
    refine y_iload 35 c218_33 rfl rfl ?_
    refine s_load 36 x0 c218_35 rfl (by decide) h0 ?_
    refine y_iconst 38 c218_36 rfl ?_
    refine y_iand 39 c218_38 rfl ?_
    refine y_top 0 hop ?_
    refine y_tsw 108 c218_39 (by decide) (by decide) rfl rfl ?_
    refine y_aload 109 c218_108 rfl rfl rfl ?_
    refine y_aload 110 c218_109 rfl rfl rfl ?_
    refine y_iload 112 c218_110 rfl rfl ?_
    refine y_iconst 113 c218_112 rfl ?_
    refine y_iadd 114 c218_113 rfl ?_
    refine y_top 1 (by decide) ?_
    refine s_load 115 x1 c218_114 rfl (by decide) h1 ?_
    refine y_i2l 116 c218_115 rfl ?_
    refine y_iconst 118 c218_116 rfl ?_
    refine y_lshl 119 c218_118 rfl ?_
    refine y_aload 120 c218_119 rfl rfl rfl ?_
    refine y_iload 122 c218_120 rfl rfl ?_
    refine y_iconst 123 c218_122 rfl ?_
    refine y_iadd 124 c218_123 rfl ?_
    refine y_top 2 (by decide) ?_
    refine s_load 125 x2 c218_124 rfl (by decide) h2 ?_
    refine y_i2l 126 c218_125 rfl ?_
    refine y_lconst 129 c218_126 rfl ?_
    refine y_land 130 c218_129 rfl ?_
    refine y_lor 131 c218_130 rfl ?_
    refine y_aload 132 c218_131 rfl rfl rfl ?_
    refine y_iload 134 c218_132 rfl rfl ?_
    refine y_iconst 135 c218_134 rfl ?_
    refine y_iadd 136 c218_135 rfl ?_
    refine y_top 3 (by decide) ?_
    refine s_load 137 x3 c218_136 rfl (by decide) h3 ?_
    refine y_aload 138 c218_137 rfl rfl rfl ?_
    refine y_callIB 141 [.ref 0, .long ((((Int32.ofInt x1).toInt64) <<< ((Int32.ofInt 32).toInt64 &&& 63)) ||| (((Int32.ofInt x2).toInt64) &&& (Int64.ofInt 4294967295))), yI x3, .ref 413] [] c218_138 rfl rfl rfl rfl rfl (ycanS km21) (t21 (by decide) (by decide) r3) (fun r m1 n1 hr => ?_)
    have e1 : m1 376 1 = 0 := by
      rcases hr with ⟨-, -, rfl, -⟩ | ⟨-, -, -, rfl, -⟩ | ⟨-, -, -, -, m3, rfl, -, k2, -⟩
      · rfl
      · rfl
      · rw [yup_na (by decide)]; exact k2 376 1 (by decide) (by decide)
    refine y_istore 143 c218_141 rfl rfl ?_
    refine y_aload 144 c218_143 rfl rfl rfl ?_
    refine y_aload 145 c218_144 rfl rfl rfl ?_
    refine y_iload 147 c218_145 rfl rfl ?_
    refine y_iconst 148 c218_147 rfl ?_
    refine y_iadd 149 c218_148 rfl ?_
    refine y_top 1 (by decide) ?_
    refine s_load 150 x1 c218_149 rfl (by decide) h1 ?_
    refine y_i2l 151 c218_150 rfl ?_
    refine y_iconst 153 c218_151 rfl ?_
    refine y_lshl 154 c218_153 rfl ?_
    refine y_aload 155 c218_154 rfl rfl rfl ?_
    refine y_iload 157 c218_155 rfl rfl ?_
    refine y_iconst 158 c218_157 rfl ?_
    refine y_iadd 159 c218_158 rfl ?_
    refine y_top 2 (by decide) ?_
    refine s_load 160 x2 c218_159 rfl (by decide) h2 ?_
    refine y_i2l 161 c218_160 rfl ?_
    refine y_lconst 164 c218_161 rfl ?_
    refine y_land 165 c218_164 rfl ?_
    refine y_lor 166 c218_165 rfl ?_
    refine y_aload 167 c218_166 rfl rfl rfl ?_
    refine y_iload 169 c218_167 rfl rfl ?_
    refine y_iconst 170 c218_169 rfl ?_
    refine y_iadd 171 c218_170 rfl ?_
    refine y_top 3 (by decide) ?_
    refine s_load 172 x3 c218_171 rfl (by decide) h3 ?_
    refine y_callIB 175 [.ref 376, .long ((((Int32.ofInt x1).toInt64) <<< ((Int32.ofInt 32).toInt64 &&& 63)) ||| (((Int32.ofInt x2).toInt64) &&& (Int64.ofInt 4294967295))), yI x3] [] c218_172 rfl rfl rfl rfl rfl (ycanO km25 ko376) (t25 (by omega) (by omega) r3) (fun b m2 n2 hb2 => ?_)
    refine y_istore 177 c218_175 rfl rfl ?_
    refine y_aload 178 c218_177 rfl rfl rfl ?_
    have h06 : gMem 0 6 = 0 := rfl
    rcases hr with ⟨rfl, ha, rfl, rfl⟩ | ⟨rfl, ha, hf, rfl, rfl⟩ | ⟨rfl, ha, hf, rfl, m3, rfl, hl, k2, -, -⟩
    · obtain ⟨rfl, hb2⟩ := hb2
      rcases hb2 with ⟨-, rfl⟩ | ⟨hq, -⟩ | ⟨hq, -⟩
      · refine y_inlB 181 [.ref 376] [] [some (.ref 376)] c218_178 rfl rfl rfl rfl rfl (ycanO km26 ko376) kn26 rfl rfl ?_
        refine y_aload 1 c26_0 rfl rfl rfl ?_
        refine y_getX 4 1 c26_1 rfl kf376_57 rfl ?_
        refine y_ireturnK c26_4 (y_fit0 _) ?_
        refine y_iload 183 c218_181 rfl rfl ?_
        refine y_icmp 188 186 c218_183 rfl rfl (yc_eq (by omega) (by omega)) (fun hb => ?_) (fun hb => ?_)
        · refine y_iload 190 c218_188 rfl rfl ?_
          refine y_if 205 193 c218_190 rfl rfl (yz_ne (by omega)) (fun hb => ?_) (fun hb => ?_)
          · refine y_goto 953 c218_205 rfl ?_
            refine y_iincN 956 4 c218_953 rfl rfl (by decide) rfl ?_
            refine y_goto 23 c218_956 rfl ?_
            refine y_iload 25 c218_23 rfl rfl ?_
            refine y_aload 26 c218_25 rfl rfl rfl ?_
            refine y_slen 27 c218_26 rfl ?_
            refine y_top 4 rfl ?_
            refine y_iconst 28 c218_27 rfl ?_
            refine y_isub 29 c218_28 rfl ?_
            refine y_top 0 (by decide) ?_
            refine y_icmp 959 32 c218_29 rfl rfl (yc_gt (by omega) (by omega)) (fun hb => ?_) (fun hb => ?_)
            · refine y_iconst 960 c218_959 rfl ?_
              exact y_ireturn c218_960 (y_fit1 (by omega)) ⟨rfl, by omega⟩
            · exfalso; omega
          · exfalso; omega
        · exfalso; omega
      · exact absurd hq ha
      · exact absurd hq ha
    · obtain ⟨rfl, hb2⟩ := hb2
      rcases hb2 with ⟨hq, -⟩ | ⟨-, -, rfl⟩ | ⟨-, hq, -⟩
      · exact absurd ha hq
      · refine y_inlB 181 [.ref 376] [] [some (.ref 376)] c218_178 rfl rfl rfl rfl rfl (ycanO km26 ko376) kn26 rfl rfl ?_
        refine y_aload 1 c26_0 rfl rfl rfl ?_
        refine y_getX 4 2 c26_1 rfl kf376_57 rfl ?_
        refine y_ireturnK c26_4 (y_fit0 _) ?_
        refine y_iload 183 c218_181 rfl rfl ?_
        refine y_icmp 188 186 c218_183 rfl rfl (yc_eq (by omega) (by omega)) (fun hb => ?_) (fun hb => ?_)
        · refine y_iload 190 c218_188 rfl rfl ?_
          refine y_if 205 193 c218_190 rfl rfl (yz_ne (by omega)) (fun hb => ?_) (fun hb => ?_)
          · refine y_goto 953 c218_205 rfl ?_
            refine y_iincN 956 4 c218_953 rfl rfl (by decide) rfl ?_
            refine y_goto 23 c218_956 rfl ?_
            refine y_iload 25 c218_23 rfl rfl ?_
            refine y_aload 26 c218_25 rfl rfl rfl ?_
            refine y_slen 27 c218_26 rfl ?_
            refine y_top 4 rfl ?_
            refine y_iconst 28 c218_27 rfl ?_
            refine y_isub 29 c218_28 rfl ?_
            refine y_top 0 (by decide) ?_
            refine y_icmp 959 32 c218_29 rfl rfl (yc_gt (by omega) (by omega)) (fun hb => ?_) (fun hb => ?_)
            · refine y_iconst 960 c218_959 rfl ?_
              exact y_ireturn c218_960 (y_fit1 (by omega)) ⟨rfl, by omega⟩
            · exfalso; omega
          · exfalso; omega
        · exfalso; omega
      · exfalso; omega
    · obtain ⟨rfl, hb2⟩ := hb2
      rcases hb2 with ⟨hq, -⟩ | ⟨-, hq, -⟩ | ⟨-, -, k0, eb, -, q2, -, -⟩
      · exact absurd ha hq
      · exfalso; omega
      · have eo : m2 413 0 = gMem 0 6 + x3 := by rw [q2 413 0 (by decide) (by decide), yup_eq]
        rw [e1, ← h06] at eb
        have hx3 := ha.1
        have hx4 := ha.2.1
        refine y_inlB 181 [.ref 376] [] [some (.ref 376)] c218_178 rfl rfl rfl rfl rfl (ycanO km26 ko376) kn26 rfl rfl ?_
        refine y_aload 1 c26_0 rfl rfl rfl ?_
        refine y_getX 4 0 c26_1 rfl kf376_57 k0 ?_
        refine y_ireturnK c26_4 (y_fit0 _) ?_
        refine y_iload 183 c218_181 rfl rfl ?_
        refine y_icmp 188 186 c218_183 rfl rfl (yc_eq (by omega) (by omega)) (fun hb => ?_) (fun hb => ?_)
        · refine y_iload 190 c218_188 rfl rfl ?_
          refine y_if 205 193 c218_190 rfl rfl (yz_ne (by omega)) (fun hb => ?_) (fun hb => ?_)
          · exfalso; omega
          · refine y_aload 194 c218_193 rfl rfl rfl ?_
            refine y_iconst 195 c218_194 rfl ?_
            refine y_laX 196 (gMem 0 6 + x3) c218_195 rfl kl413 (by decide) eo ?_
            refine y_iload 198 c218_196 rfl rfl ?_
            refine y_i2l 199 c218_198 rfl ?_
            refine y_lcmp0 200 c218_199 rfl (by rw [eb]; exact y_long (by omega)) ?_
            refine y_if 205 203 c218_200 rfl rfl (yz_eq (by omega)) (fun hb => ?_) (fun hb => ?_)
            · refine y_goto 953 c218_205 rfl ?_
              refine y_iincN 956 4 c218_953 rfl rfl (by decide) rfl ?_
              refine y_goto 23 c218_956 rfl ?_
              refine y_iload 25 c218_23 rfl rfl ?_
              refine y_aload 26 c218_25 rfl rfl rfl ?_
              refine y_slen 27 c218_26 rfl ?_
              refine y_top 4 rfl ?_
              refine y_iconst 28 c218_27 rfl ?_
              refine y_isub 29 c218_28 rfl ?_
              refine y_top 0 (by decide) ?_
              refine y_icmp 959 32 c218_29 rfl rfl (yc_gt (by omega) (by omega)) (fun hb => ?_) (fun hb => ?_)
              · refine y_iconst 960 c218_959 rfl ?_
                exact y_ireturn c218_960 (y_fit1 (by omega)) ⟨rfl, by omega⟩
              · exfalso; omega
            · exfalso; omega
        · exfalso; omega
