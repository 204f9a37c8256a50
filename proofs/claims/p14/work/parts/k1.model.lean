/-! CONTRACTS: the model, facts. Printed by wip/whole/gen9c.py -/
set_option maxRecDepth 100000 in
theorem t144 {L : Nat} {xs : Nat → Int32} {d nn : Nat} {m : yM} {v : Int} (hT : Ty gT m) (hv : -2147483648 ≤ v ∧ v < 2147483648) : YC (gZ L xs) d 144 [.ref 376, yI v] m nn (qP m nn (fun r => r = 0 ∨ (r = 1 ∧ 0 ≤ v))) := by
  refine YC.mkB [some (.ref 376), some (yI v)] kn144 rfl rfl ?_
  refine y_iload 1 c144_0 rfl rfl ?_
  refine y_if 16 4 c144_1 rfl rfl (yz_lt (by omega)) (fun hb12316 => ?_) (fun hb12316 => ?_)
  · refine y_iconst 17 c144_16 rfl ?_
    exact y_retP c144_17 (y_fit1 (by omega)) (by omega)
  · refine y_iload 5 c144_4 rfl rfl ?_
    refine y_aload 6 c144_5 rfl rfl rfl ?_
    refine y_getX 9 (m 376 45) c144_6 rfl kf376_45 rfl ?_
    have tb12317 := hT.atp 376 45 ((-2147483648)) 2147483647 rfl
    refine y_icmp 16 12 c144_9 rfl rfl (yc_ge (by omega) (by omega)) (fun hb12318 => ?_) (fun hb12318 => ?_)
    · refine y_iconst 17 c144_16 rfl ?_
      exact y_retP c144_17 (y_fit1 (by omega)) (by omega)
    · refine y_iconst 13 c144_12 rfl ?_
      refine y_goto 17 c144_13 rfl ?_
      exact y_retP c144_17 (y_fit1 (by omega)) (by omega)
set_option maxRecDepth 100000 in
theorem t145 {L : Nat} {xs : Nat → Int32} {d nn : Nat} {m : yM} {v s : Int} (hT : Ty gT m) (hr : 1 ≤ m 376 45 ∧ m 376 45 ≤ 2000) (hv : 0 ≤ v ∧ v ≤ 47) (hs : 0 ≤ s ∧ s ≤ 11) : YC (gZ L xs) d 145 [.ref 376, yI v, yI s] m nn (qU (fun m' n' => n' = nn ∧ Ty gT m' ∧ Fr wAm m m' ∧ AN m m')) := by
  refine YC.mkB [some (.ref 376), some (yI v), some (yI s)] kn145 rfl rfl ?_
  have hF : Fr wAm m m := Fr.rf
  refine y_aload 1 c145_0 rfl rfl rfl ?_
  refine y_getR 4 c145_1 rfl kf376_41 ?_
  refine y_iconst 6 c145_4 rfl ?_
  refine y_iload 7 c145_6 rfl rfl ?_
  refine y_imul 8 c145_7 rfl ?_
  refine y_iload 9 c145_8 rfl rfl ?_
  refine y_iadd 10 c145_9 rfl ?_
  refine y_iaT 11 ((-2147483648)) 2147483647 c145_10 rfl ka404 (by omega) hT rfl (fun v12319 hv12319 gv12319 => ?_)
  refine y_if 15 14 c145_11 rfl rfl (yz_lt (by omega)) (fun hb12320 => ?_) (fun hb12320 => ?_)
  · refine y_aload 16 c145_15 rfl rfl rfl ?_
    refine y_getR 19 c145_16 rfl kf376_41 ?_
    refine y_iconst 21 c145_19 rfl ?_
    refine y_iload 22 c145_21 rfl rfl ?_
    refine y_imul 23 c145_22 rfl ?_
    refine y_iload 24 c145_23 rfl rfl ?_
    refine y_iadd 25 c145_24 rfl ?_
    refine y_aload 26 c145_25 rfl rfl rfl ?_
    refine y_getX 29 (m 376 45) c145_26 rfl kf376_45 rfl ?_
    have tb12321 := hT.atp 376 45 ((-2147483648)) 2147483647 rfl
    refine y_iastore 30 c145_29 rfl ka404 (by omega) (y_nar0 _) ?_
    have hT12322 := hT.up 404 (((12 * v) + s).toNat) (m 376 45) ((-2147483648)) 2147483647 rfl (by omega)
    have hF12323 := hF.up 404 (((12 * v) + s).toNat) (m 376 45) rfl
    refine y_aload 31 c145_30 rfl rfl rfl ?_
    refine y_iconst 32 c145_31 rfl ?_
    refine y_putI 35 c145_32 rfl kf376_46 (y_fit1 (by omega)) ?_
    have hT12324 := hT12322.up 376 46 1 0 1 rfl (by omega)
    have hF12325 := hF12323.up 376 46 1 rfl
    exact y_retU c145_35 ⟨rfl, hT12324, hF12325, AN.w (by omega) (by omega) (by omega)⟩
  · exact y_retU c145_14 ⟨rfl, hT, hF, AN.rf⟩
set_option maxRecDepth 100000 in
theorem t146a_0 {L : Nat} {xs : Nat → Int32} {d nn : Nat} {m : yM} {v u : Int} (hT : Ty gT m) (hr : 1 ≤ m 376 45 ∧ m 376 45 ≤ 2000) (hn : m 376 18 = 0) (hv : 0 ≤ v ∧ v ≤ 47) (hu : 0 ≤ u ∧ u ≤ 47) : ∀ (km : Nat) (i : Int) (mi : yM), m 388 0 - i = km → 0 ≤ i ∧ i ≤ m 388 0 → Ty gT mi → Fr wAm m mi → AN m mi → YW (gZ L xs) 146 (d + 1) 2 [some (.ref 376), some (yI v), some (yI u), some (yI i)] [] mi nn (qU (fun m' n' => n' = nn ∧ Ty gT m' ∧ Fr wAm m m' ∧ AN m m')) := by
  intro km
  induction km using Nat.strongRecOn with
  | ind km ih =>
    intro i mi hk hi hTi hFi hAi
    have tb388 := hT.atp 388 0 0 12 rfl
    refine y_iload 3 c146_2 rfl rfl ?_
    refine y_aload 4 c146_3 rfl rfl rfl ?_
    refine y_getR 7 c146_4 rfl kf376_25 ?_
    refine y_aload 8 c146_7 rfl rfl rfl ?_
    refine y_getX 11 (m 376 18) c146_8 rfl kf376_18 (hFi 376 18 rfl) ?_
    refine y_top 0 (by omega) ?_
    refine y_iaX 12 (m 388 0) c146_11 rfl ka388 (by decide) (hFi 388 0 rfl) ?_
    refine y_icmp 45 15 c146_12 rfl rfl (yc_ge (by omega) (by omega)) (fun hb12326 => ?_) (fun hb12326 => ?_)
    · exact y_retU c146_45 ⟨rfl, hTi, hFi, hAi⟩
    · refine y_aload 16 c146_15 rfl rfl rfl ?_
      refine y_aload 17 c146_16 rfl rfl rfl ?_
      refine y_getR 20 c146_17 rfl kf376_41 ?_
      refine y_iconst 22 c146_20 rfl ?_
      refine y_iload 23 c146_22 rfl rfl ?_
      refine y_imul 24 c146_23 rfl ?_
      refine y_iload 25 c146_24 rfl rfl ?_
      refine y_iadd 26 c146_25 rfl ?_
      refine y_iaT 27 ((-2147483648)) 2147483647 c146_26 rfl ka404 (by omega) hTi rfl (fun v12327 hv12327 gv12327 => ?_)
      refine y_callP 30 [.ref 376, yI v12327] [] c146_27 rfl rfl rfl rfl rfl (ycanO km144 ko376) (t144 hTi (by omega)) (fun r12328 hr12328 => ?_)
      refine y_if 39 33 c146_30 rfl rfl (yz_eq (by omega)) (fun hb12329 => ?_) (fun hb12329 => ?_)
      · refine y_iinc 42 c146_39 rfl rfl rfl ?_
        refine y_goto 2 c146_42 rfl ?_
        exact ih (m 388 0 - (i + 1) : Int).toNat (by omega) (i + 1)  _ (by omega) (by omega) hTi hFi hAi
      · refine y_aload 34 c146_33 rfl rfl rfl ?_
        refine y_iload 35 c146_34 rfl rfl ?_
        refine y_iload 36 c146_35 rfl rfl ?_
        have es12331 : mi 376 45 = m 376 45 := (hFi 376 45 rfl)
        have es12332 : mi 376 18 = m 376 18 := (hFi 376 18 rfl)
        refine y_callUB 39 [.ref 376, yI v, yI i] [] c146_36 rfl rfl rfl rfl rfl (ycanO km145 ko376) (t145 hTi (by omega) (by omega) (by omega)) (fun mq12330 nq12330 hq12330 => ?_)
        obtain ⟨rfl, hTq12330, hFq12330, hAq12330⟩ := hq12330
        have hF12333 := hFi.tr hFq12330 (fun _ _ e => e)
        refine y_iinc 42 c146_39 rfl rfl rfl ?_
        refine y_goto 2 c146_42 rfl ?_
        exact ih (m 388 0 - (i + 1) : Int).toNat (by omega) (i + 1)  _ (by omega) (by omega) hTq12330 hF12333 (hAi.tr hAq12330)
set_option maxRecDepth 100000 in
theorem t146_0 {L : Nat} {xs : Nat → Int32} {d nn : Nat} {m : yM} {v u : Int} (hT : Ty gT m) (hr : 1 ≤ m 376 45 ∧ m 376 45 ≤ 2000) (hn : m 376 18 = 0) (hv : 0 ≤ v ∧ v ≤ 47) (hu : 0 ≤ u ∧ u ≤ 47) : YC (gZ L xs) (d + 1) 146 [.ref 376, yI v, yI u] m nn (qU (fun m' n' => n' = nn ∧ Ty gT m' ∧ Fr wAm m m' ∧ AN m m')) := by
  refine YC.mkB [some (.ref 376), some (yI v), some (yI u), none] kn146 rfl rfl ?_
  refine y_iconst 1 c146_0 rfl ?_
  refine y_istore 2 c146_1 rfl rfl ?_
  have tb := hT.atp 388 0 0 12 rfl
  exact t146a_0 hT hr hn hv hu (m 388 0 - 0).toNat 0 m (by omega) (by omega) hT Fr.rf AN.rf
set_option maxRecDepth 100000 in
theorem t147b_0 {L : Nat} {xs : Nat → Int32} {d nn : Nat} {m : yM} {k : Int} (hT : Ty gT m) (hr : 1 ≤ m 376 45 ∧ m 376 45 ≤ 2000) (hn : m 376 18 = 0) (hG : GQ 0 m) (hko : 0 ≤ k ∧ k < m 390 0) (h45 : m 403 (1000 * 0 + 8 * k.toNat) = 4 ∨ m 403 (1000 * 0 + 8 * k.toNat) = 5) {g f b : Int} (hg : (g = 1 ∧ m 403 (1000 * 0 + 8 * k.toNat) = 4) ∨ (g = 0 ∧ m 403 (1000 * 0 + 8 * k.toNat) = 5)) (hf : -1 ≤ f ∧ f ≤ 7) (hb : 0 ≤ b ∧ b ≤ 47) {s : Int} (hs : 0 ≤ s ∧ s < m 388 0) (hf0 : 0 ≤ f) (ho : ∀ (x6 x7 : Option Value) (mi : yM), Ty gT mi → Fr wAm m mi → AN m mi → YW (gZ L xs) 147 (d + 2) 53 [some (.ref 376), some (yI (0 + 8 * k)), some (yI g), some (yI f), some (yI b), some (yI (s + 1)), x6, x7] [] mi nn (qU (fun m' n' => n' = nn ∧ Ty gT m' ∧ Fr wAm m m' ∧ AN m m'))) : ∀ (km : Nat) (i : Int) (x7 : Option Value) (mi : yM), m 388 0 - i = km → 0 ≤ i ∧ i ≤ m 388 0 → Ty gT mi → Fr wAm m mi → AN m mi → YW (gZ L xs) 147 (d + 2) 94 [some (.ref 376), some (yI (0 + 8 * k)), some (yI g), some (yI f), some (yI b), some (yI s), some (yI i), x7] [] mi nn (qU (fun m' n' => n' = nn ∧ Ty gT m' ∧ Fr wAm m m' ∧ AN m m')) := by
  intro km
  induction km using Nat.strongRecOn with
  | ind km ih =>
    intro i x7 mi hk hi hTi hFi hAi
    have tb383 := hT.atp 383 0 0 6 rfl
    have tb384 := hT.atp 384 0 0 10 rfl
    have tb388 := hT.atp 388 0 0 12 rfl
    have tb390 := hT.atp 390 0 0 125 rfl
    have hw := hG.1.1 k.toNat (by omega)
    unfold OW at hw
    have hfx := hG.2.2.2.2.2.2.1 k.toNat (by omega)
    have g88 := hG.2.2.2.2.2.2.2.2.1
    have g90 := hG.2.2.2.2.2.2.2.2.2.2
    refine y_iload 96 c147_94 rfl rfl ?_
    refine y_aload 97 c147_96 rfl rfl rfl ?_
    refine y_getR 100 c147_97 rfl kf376_25 ?_
    refine y_aload 101 c147_100 rfl rfl rfl ?_
    refine y_getX 104 (m 376 18) c147_101 rfl kf376_18 (hFi 376 18 rfl) ?_
    refine y_top 0 (by omega) ?_
    refine y_iaX 105 (m 388 0) c147_104 rfl ka388 (by decide) (hFi 388 0 rfl) ?_
    refine y_icmp 244 108 c147_105 rfl rfl (yc_ge (by omega) (by omega)) (fun hb12334 => ?_) (fun hb12334 => ?_)
    · refine y_iinc 247 c147_244 rfl rfl rfl ?_
      refine y_goto 53 c147_247 rfl ?_
      exact ho _ _ _ hTi hFi hAi
    · refine y_iconst 110 c147_108 rfl ?_
      refine y_iload 112 c147_110 rfl rfl ?_
      refine y_imul 113 c147_112 rfl ?_
      refine y_iconst 115 c147_113 rfl ?_
      refine y_iload 116 c147_115 rfl rfl ?_
      refine y_imul 117 c147_116 rfl ?_
      refine y_iadd 118 c147_117 rfl ?_
      refine y_iload 120 c147_118 rfl rfl ?_
      refine y_iadd 121 c147_120 rfl ?_
      refine y_istore 123 c147_121 rfl rfl ?_
      refine y_iload 124 c147_123 rfl rfl ?_
      refine y_if 155 127 c147_124 rfl rfl (yz_eq (by omega)) (fun hb12335 => ?_) (fun hb12335 => ?_)
      · refine y_iload 156 c147_155 rfl rfl ?_
        refine y_if 238 159 c147_156 rfl rfl (yz_ne (by omega)) (fun hb12336 => ?_) (fun hb12336 => ?_)
        · exfalso; omega
        · refine y_aload 160 c147_159 rfl rfl rfl ?_
          refine y_aload 161 c147_160 rfl rfl rfl ?_
          refine y_getR 164 c147_161 rfl kf376_41 ?_
          refine y_iconst 166 c147_164 rfl ?_
          refine y_aload 167 c147_166 rfl rfl rfl ?_
          refine y_getR 170 c147_167 rfl kf376_40 ?_
          refine y_iload 171 c147_170 rfl rfl ?_
          refine y_iconst 172 c147_171 rfl ?_
          refine y_iadd 173 c147_172 rfl ?_
          refine y_iaT 174 ((-2147483648)) 2147483647 c147_173 rfl ka403 (by omega) hTi rfl (fun v12337 hv12337 gv12337 => ?_)
          have gv12337_ : m 403 (1000 * 0 + 8 * k.toNat + 3) = v12337 := by rw [show 1000 * 0 + 8 * k.toNat + 3 = ((0 + 8 * k) + 3).toNat by omega]; exact ((hFi 403 _ rfl)).symm.trans hv12337
          refine y_imul 175 c147_174 rfl ?_
          refine y_iload 177 c147_175 rfl rfl ?_
          refine y_iadd 178 c147_177 rfl ?_
          refine y_iaT 179 ((-2147483648)) 2147483647 c147_178 rfl ka404 (by omega) hTi rfl (fun v12338 hv12338 gv12338 => ?_)
          refine y_callP 182 [.ref 376, yI v12338] [] c147_179 rfl rfl rfl rfl rfl (ycanO km144 ko376) (t144 hTi (by omega)) (fun r12339 hr12339 => ?_)
          refine y_if 238 185 c147_182 rfl rfl (yz_eq (by omega)) (fun hb12340 => ?_) (fun hb12340 => ?_)
          · refine y_iinc 241 c147_238 rfl rfl rfl ?_
            refine y_goto 94 c147_241 rfl ?_
            exact ih (m 388 0 - (i + 1) : Int).toNat (by omega) (i + 1) _  _ (by omega) (by omega) hTi hFi hAi
          · refine y_aload 186 c147_185 rfl rfl rfl ?_
            refine y_getR 189 c147_186 rfl kf376_42 ?_
            refine y_iload 191 c147_189 rfl rfl ?_
            refine y_iaT 192 ((-2147483648)) 2147483647 c147_191 rfl ka405 (by omega) hTi rfl (fun v12341 hv12341 gv12341 => ?_)
            refine y_if 238 195 c147_192 rfl rfl (yz_ge (by omega)) (fun hb12342 => ?_) (fun hb12342 => ?_)
            · refine y_iinc 241 c147_238 rfl rfl rfl ?_
              refine y_goto 94 c147_241 rfl ?_
              exact ih (m 388 0 - (i + 1) : Int).toNat (by omega) (i + 1) _  _ (by omega) (by omega) hTi hFi hAi
            · refine y_aload 196 c147_195 rfl rfl rfl ?_
              refine y_aload 197 c147_196 rfl rfl rfl ?_
              refine y_getX 200 (m 376 18) c147_197 rfl kf376_18 (hFi 376 18 rfl) ?_
              refine y_top 0 (by omega) ?_
              refine y_aload 201 c147_200 rfl rfl rfl ?_
              refine y_getR 204 c147_201 rfl kf376_37 ?_
              refine y_iconst 206 c147_204 rfl ?_
              refine y_aload 207 c147_206 rfl rfl rfl ?_
              refine y_getX 210 (m 376 18) c147_207 rfl kf376_18 (hFi 376 18 rfl) ?_
              refine y_top 0 (by omega) ?_
              refine y_imul 211 c147_210 rfl ?_
              refine y_top 0 (by decide) ?_
              refine y_iload 213 c147_211 rfl rfl ?_
              refine y_iadd 214 c147_213 rfl ?_
              refine y_iaT 215 ((-2147483648)) 2147483647 c147_214 rfl ka400 (by omega) hTi rfl (fun v12343 hv12343 gv12343 => ?_)
              have gv12343_ : -1 ≤ v12343 ∧ v12343 < m 383 0 := by have h0 := hG.2.2.2.2.2.1 s.toNat (by omega); rw [show 12 * 0 + s.toNat = (0 + s).toNat by omega, ← show _ = m 400 (0 + s).toNat from (hFi 400 _ rfl), hv12343] at h0; exact h0
              refine y_iload 216 c147_215 rfl rfl ?_
              have es12344 : mi 383 0 = m 383 0 := (hFi 383 0 rfl)
              refine y_callP 219 [.ref 376, yI 0, yI v12343, yI f] [] c147_216 rfl rfl rfl rfl rfl (ycanO km121 ko376) (t121_0 hTi (by rw [show mi 383 0 = m 383 0 from (hFi 383 0 rfl)]; exact hG.2.2.2.2.1.fr (fun q => (hFi 392 q rfl))) (by omega) (by omega)) (fun r12345 hr12345 => ?_)
              refine y_if 238 222 c147_219 rfl rfl (yz_eq (by omega)) (fun hb12346 => ?_) (fun hb12346 => ?_)
              · refine y_iinc 241 c147_238 rfl rfl rfl ?_
                refine y_goto 94 c147_241 rfl ?_
                exact ih (m 388 0 - (i + 1) : Int).toNat (by omega) (i + 1) _  _ (by omega) (by omega) hTi hFi hAi
              · refine y_aload 223 c147_222 rfl rfl rfl ?_
                refine y_getR 226 c147_223 rfl kf376_42 ?_
                refine y_iload 228 c147_226 rfl rfl ?_
                refine y_aload 229 c147_228 rfl rfl rfl ?_
                refine y_getX 232 (m 376 45) c147_229 rfl kf376_45 (hFi 376 45 rfl) ?_
                refine y_iastore 233 c147_232 rfl ka405 (by omega) (y_nar0 _) ?_
                have hT12347 := hTi.up 405 ((((96 * s) + (12 * f)) + i).toNat) (m 376 45) ((-2147483648)) 2147483647 rfl (by omega)
                have hF12348 := hFi.up 405 ((((96 * s) + (12 * f)) + i).toNat) (m 376 45) rfl
                refine y_aload 234 c147_233 rfl rfl rfl ?_
                refine y_iconst 235 c147_234 rfl ?_
                refine y_putI 238 c147_235 rfl kf376_46 (y_fit1 (by omega)) ?_
                have hT12349 := hT12347.up 376 46 1 0 1 rfl (by omega)
                have hF12350 := hF12348.up 376 46 1 rfl
                refine y_iinc 241 c147_238 rfl rfl rfl ?_
                refine y_goto 94 c147_241 rfl ?_
                exact ih (m 388 0 - (i + 1) : Int).toNat (by omega) (i + 1) _  _ (by omega) (by omega) hT12349 hF12350 (hAi.tr (AN.w (by omega) (by omega) (by omega)))
      · refine y_aload 128 c147_127 rfl rfl rfl ?_
        refine y_aload 129 c147_128 rfl rfl rfl ?_
        refine y_getR 132 c147_129 rfl kf376_42 ?_
        refine y_iload 134 c147_132 rfl rfl ?_
        refine y_iaT 135 ((-2147483648)) 2147483647 c147_134 rfl ka405 (by omega) hTi rfl (fun v12351 hv12351 gv12351 => ?_)
        refine y_callP 138 [.ref 376, yI v12351] [] c147_135 rfl rfl rfl rfl rfl (ycanO km144 ko376) (t144 hTi (by omega)) (fun r12352 hr12352 => ?_)
        refine y_if 155 141 c147_138 rfl rfl (yz_eq (by omega)) (fun hb12353 => ?_) (fun hb12353 => ?_)
        · refine y_iload 156 c147_155 rfl rfl ?_
          refine y_if 238 159 c147_156 rfl rfl (yz_ne (by omega)) (fun hb12354 => ?_) (fun hb12354 => ?_)
          · refine y_iinc 241 c147_238 rfl rfl rfl ?_
            refine y_goto 94 c147_241 rfl ?_
            exact ih (m 388 0 - (i + 1) : Int).toNat (by omega) (i + 1) _  _ (by omega) (by omega) hTi hFi hAi
          · exfalso; omega
        · refine y_aload 142 c147_141 rfl rfl rfl ?_
          refine y_aload 143 c147_142 rfl rfl rfl ?_
          refine y_getR 146 c147_143 rfl kf376_40 ?_
          refine y_iload 147 c147_146 rfl rfl ?_
          refine y_iconst 148 c147_147 rfl ?_
          refine y_iadd 149 c147_148 rfl ?_
          refine y_iaT 150 ((-2147483648)) 2147483647 c147_149 rfl ka403 (by omega) hTi rfl (fun v12355 hv12355 gv12355 => ?_)
          have gv12355_ : m 403 (1000 * 0 + 8 * k.toNat + 2) = v12355 := by rw [show 1000 * 0 + 8 * k.toNat + 2 = ((0 + 8 * k) + 2).toNat by omega]; exact ((hFi 403 _ rfl)).symm.trans hv12355
          refine y_iload 152 c147_150 rfl rfl ?_
          have es12357 : mi 376 45 = m 376 45 := (hFi 376 45 rfl)
          have es12358 : mi 376 18 = m 376 18 := (hFi 376 18 rfl)
          refine y_callUB 155 [.ref 376, yI v12355, yI i] [] c147_152 rfl rfl rfl rfl rfl (ycanO km145 ko376) (t145 hTi (by omega) (by omega) (by omega)) (fun mq12356 nq12356 hq12356 => ?_)
          obtain ⟨rfl, hTq12356, hFq12356, hAq12356⟩ := hq12356
          have hF12359 := hFi.tr hFq12356 (fun _ _ e => e)
          refine y_iload 156 c147_155 rfl rfl ?_
          refine y_if 238 159 c147_156 rfl rfl (yz_ne (by omega)) (fun hb12360 => ?_) (fun hb12360 => ?_)
          · refine y_iinc 241 c147_238 rfl rfl rfl ?_
            refine y_goto 94 c147_241 rfl ?_
            exact ih (m 388 0 - (i + 1) : Int).toNat (by omega) (i + 1) _  _ (by omega) (by omega) hTq12356 hF12359 (hAi.tr hAq12356)
          · exfalso; omega
set_option maxRecDepth 100000 in
theorem t147a_0 {L : Nat} {xs : Nat → Int32} {d nn : Nat} {m : yM} {k : Int} (hT : Ty gT m) (hr : 1 ≤ m 376 45 ∧ m 376 45 ≤ 2000) (hn : m 376 18 = 0) (hG : GQ 0 m) (hko : 0 ≤ k ∧ k < m 390 0) (h45 : m 403 (1000 * 0 + 8 * k.toNat) = 4 ∨ m 403 (1000 * 0 + 8 * k.toNat) = 5) {g f b : Int} (hg : (g = 1 ∧ m 403 (1000 * 0 + 8 * k.toNat) = 4) ∨ (g = 0 ∧ m 403 (1000 * 0 + 8 * k.toNat) = 5)) (hf : -1 ≤ f ∧ f ≤ 7) (hb : 0 ≤ b ∧ b ≤ 47) : ∀ (km : Nat) (s : Int) (x6 : Option Value) (x7 : Option Value) (mi : yM), m 388 0 - s = km → 0 ≤ s ∧ s ≤ m 388 0 → Ty gT mi → Fr wAm m mi → AN m mi → YW (gZ L xs) 147 (d + 2) 53 [some (.ref 376), some (yI (0 + 8 * k)), some (yI g), some (yI f), some (yI b), some (yI s), x6, x7] [] mi nn (qU (fun m' n' => n' = nn ∧ Ty gT m' ∧ Fr wAm m m' ∧ AN m m')) := by
  intro km
  induction km using Nat.strongRecOn with
  | ind km ih =>
    intro s x6 x7 mi hk hi hTi hFi hAi
    have tb383 := hT.atp 383 0 0 6 rfl
    have tb384 := hT.atp 384 0 0 10 rfl
    have tb388 := hT.atp 388 0 0 12 rfl
    have tb390 := hT.atp 390 0 0 125 rfl
    have hw := hG.1.1 k.toNat (by omega)
    unfold OW at hw
    have hfx := hG.2.2.2.2.2.2.1 k.toNat (by omega)
    have g88 := hG.2.2.2.2.2.2.2.2.1
    have g90 := hG.2.2.2.2.2.2.2.2.2.2
    refine y_iload 55 c147_53 rfl rfl ?_
    refine y_aload 56 c147_55 rfl rfl rfl ?_
    refine y_getR 59 c147_56 rfl kf376_25 ?_
    refine y_aload 60 c147_59 rfl rfl rfl ?_
    refine y_getX 63 (m 376 18) c147_60 rfl kf376_18 (hFi 376 18 rfl) ?_
    refine y_top 0 (by omega) ?_
    refine y_iaX 64 (m 388 0) c147_63 rfl ka388 (by decide) (hFi 388 0 rfl) ?_
    refine y_icmp 250 67 c147_64 rfl rfl (yc_ge (by omega) (by omega)) (fun hb12361 => ?_) (fun hb12361 => ?_)
    · exact y_retU c147_250 ⟨rfl, hTi, hFi, hAi⟩
    · refine y_iload 68 c147_67 rfl rfl ?_
      refine y_if 250 71 c147_68 rfl rfl (yz_lt (by omega)) (fun hb12362 => ?_) (fun hb12362 => ?_)
      · exact y_retU c147_250 ⟨rfl, hTi, hFi, hAi⟩
      · refine y_aload 72 c147_71 rfl rfl rfl ?_
        refine y_aload 73 c147_72 rfl rfl rfl ?_
        refine y_getR 76 c147_73 rfl kf376_41 ?_
        refine y_iconst 78 c147_76 rfl ?_
        refine y_iload 80 c147_78 rfl rfl ?_
        refine y_imul 81 c147_80 rfl ?_
        refine y_iload 83 c147_81 rfl rfl ?_
        refine y_iadd 84 c147_83 rfl ?_
        refine y_iaT 85 ((-2147483648)) 2147483647 c147_84 rfl ka404 (by omega) hTi rfl (fun v12363 hv12363 gv12363 => ?_)
        refine y_callP 88 [.ref 376, yI v12363] [] c147_85 rfl rfl rfl rfl rfl (ycanO km144 ko376) (t144 hTi (by omega)) (fun r12364 hr12364 => ?_)
        refine y_if 244 91 c147_88 rfl rfl (yz_eq (by omega)) (fun hb12365 => ?_) (fun hb12365 => ?_)
        · refine y_iinc 247 c147_244 rfl rfl rfl ?_
          refine y_goto 53 c147_247 rfl ?_
          exact ih (m 388 0 - (s + 1) : Int).toNat (by omega) (s + 1) _ _  _ (by omega) (by omega) hTi hFi hAi
        · refine y_iconst 92 c147_91 rfl ?_
          refine y_istore 94 c147_92 rfl rfl ?_
          exact t147b_0 hT hr hn hG hko h45 hg hf hb (s := s) (by omega) (by omega) (fun y6 y7 mj j1 j2 j3 => ih (m 388 0 - (s + 1)).toNat (by omega) (s + 1) y6 y7 mj (by omega) (by omega) j1 j2 j3) (m 388 0 - 0).toNat 0 _ _ (by omega) (by omega) hTi hFi hAi
set_option maxRecDepth 100000 in
theorem t147_0 {L : Nat} {xs : Nat → Int32} {d nn : Nat} {m : yM} {k : Int} (hT : Ty gT m) (hr : 1 ≤ m 376 45 ∧ m 376 45 ≤ 2000) (hn : m 376 18 = 0) (hG : GQ 0 m) (hko : 0 ≤ k ∧ k < m 390 0) (h45 : m 403 (1000 * 0 + 8 * k.toNat) = 4 ∨ m 403 (1000 * 0 + 8 * k.toNat) = 5) : YC (gZ L xs) (d + 2) 147 [.ref 376, yI (0 + 8 * k)] m nn (qU (fun m' n' => n' = nn ∧ Ty gT m' ∧ Fr wAm m m' ∧ AN m m')) := by
  have tb383 := hT.atp 383 0 0 6 rfl
  have tb384 := hT.atp 384 0 0 10 rfl
  have tb388 := hT.atp 388 0 0 12 rfl
  have tb390 := hT.atp 390 0 0 125 rfl
  have hw := hG.1.1 k.toNat (by omega)
  unfold OW at hw
  have hfx := hG.2.2.2.2.2.2.1 k.toNat (by omega)
  have g88 := hG.2.2.2.2.2.2.2.2.1
  have g90 := hG.2.2.2.2.2.2.2.2.2.2
  refine YC.mkB [some (.ref 376), some (yI (0 + 8 * k)), none, none, none, none, none, none] kn147 rfl rfl ?_
  refine y_aload 1 c147_0 rfl rfl rfl ?_
  refine y_getR 4 c147_1 rfl kf376_40 ?_
  refine y_iload 5 c147_4 rfl rfl ?_
  refine y_iaT 6 ((-2147483648)) 2147483647 c147_5 rfl ka403 (by omega) hT rfl (fun v12366 hv12366 gv12366 => ?_)
  have gv12366_ : m 403 (1000 * 0 + 8 * k.toNat) = v12366 := by rw [show 1000 * 0 + 8 * k.toNat = (0 + 8 * k).toNat by omega]; exact (rfl).symm.trans hv12366
  refine y_iconst 7 c147_6 rfl ?_
  refine y_icmp 14 10 c147_7 rfl rfl (yc_ne (by omega) (by omega)) (fun hb12367 => ?_) (fun hb12367 => ?_)
  · refine y_iconst 15 c147_14 rfl ?_
    refine y_istore 16 c147_15 rfl rfl ?_
    refine y_aload 17 c147_16 rfl rfl rfl ?_
    refine y_getR 20 c147_17 rfl kf376_40 ?_
    refine y_iload 21 c147_20 rfl rfl ?_
    refine y_iconst 22 c147_21 rfl ?_
    refine y_iadd 23 c147_22 rfl ?_
    refine y_iaT 24 ((-2147483648)) 2147483647 c147_23 rfl ka403 (by omega) hT rfl (fun v12368 hv12368 gv12368 => ?_)
    have gv12368_ : m 403 (1000 * 0 + 8 * k.toNat + 4) = v12368 := by rw [show 1000 * 0 + 8 * k.toNat + 4 = ((0 + 8 * k) + 4).toNat by omega]; exact (rfl).symm.trans hv12368
    refine y_istore 25 c147_24 rfl rfl ?_
    refine y_iload 26 c147_25 rfl rfl ?_
    refine y_if 40 29 c147_26 rfl rfl (yz_eq (by omega)) (fun hb12369 => ?_) (fun hb12369 => ?_)
    · refine y_aload 41 c147_40 rfl rfl rfl ?_
      refine y_getR 44 c147_41 rfl kf376_40 ?_
      refine y_iload 45 c147_44 rfl rfl ?_
      refine y_iconst 46 c147_45 rfl ?_
      refine y_iadd 47 c147_46 rfl ?_
      refine y_iaT 48 ((-2147483648)) 2147483647 c147_47 rfl ka403 (by omega) hT rfl (fun v12370 hv12370 gv12370 => ?_)
      have gv12370_ : m 403 (1000 * 0 + 8 * k.toNat + 2) = v12370 := by rw [show 1000 * 0 + 8 * k.toNat + 2 = ((0 + 8 * k) + 2).toNat by omega]; exact (rfl).symm.trans hv12370
      refine y_istore 50 c147_48 rfl rfl ?_
      refine y_iconst 51 c147_50 rfl ?_
      refine y_istore 53 c147_51 rfl rfl ?_
      exact t147a_0 hT hr hn hG hko h45 (g := 0) (f := v12368) (b := v12370) (by omega) (by omega) (by omega) (m 388 0 - 0).toNat 0 _ _ m (by omega) (by omega) hT Fr.rf AN.rf
    · exfalso; omega
  · refine y_iconst 11 c147_10 rfl ?_
    refine y_goto 15 c147_11 rfl ?_
    refine y_istore 16 c147_15 rfl rfl ?_
    refine y_aload 17 c147_16 rfl rfl rfl ?_
    refine y_getR 20 c147_17 rfl kf376_40 ?_
    refine y_iload 21 c147_20 rfl rfl ?_
    refine y_iconst 22 c147_21 rfl ?_
    refine y_iadd 23 c147_22 rfl ?_
    refine y_iaT 24 ((-2147483648)) 2147483647 c147_23 rfl ka403 (by omega) hT rfl (fun v12371 hv12371 gv12371 => ?_)
    have gv12371_ : m 403 (1000 * 0 + 8 * k.toNat + 4) = v12371 := by rw [show 1000 * 0 + 8 * k.toNat + 4 = ((0 + 8 * k) + 4).toNat by omega]; exact (rfl).symm.trans hv12371
    refine y_istore 25 c147_24 rfl rfl ?_
    refine y_iload 26 c147_25 rfl rfl ?_
    refine y_if 40 29 c147_26 rfl rfl (yz_eq (by omega)) (fun hb12372 => ?_) (fun hb12372 => ?_)
    · exfalso; omega
    · refine y_aload 30 c147_29 rfl rfl rfl ?_
      refine y_getR 33 c147_30 rfl kf376_40 ?_
      refine y_iload 34 c147_33 rfl rfl ?_
      refine y_iconst 35 c147_34 rfl ?_
      refine y_iadd 36 c147_35 rfl ?_
      refine y_iaT 37 ((-2147483648)) 2147483647 c147_36 rfl ka403 (by omega) hT rfl (fun v12373 hv12373 gv12373 => ?_)
      have gv12373_ : m 403 (1000 * 0 + 8 * k.toNat + 3) = v12373 := by rw [show 1000 * 0 + 8 * k.toNat + 3 = ((0 + 8 * k) + 3).toNat by omega]; exact (rfl).symm.trans hv12373
      refine y_goto 48 c147_37 rfl ?_
      refine y_istore 50 c147_48 rfl rfl ?_
      refine y_iconst 51 c147_50 rfl ?_
      refine y_istore 53 c147_51 rfl rfl ?_
      exact t147a_0 hT hr hn hG hko h45 (g := 1) (f := v12371) (b := v12373) (by omega) (by omega) (by omega) (m 388 0 - 0).toNat 0 _ _ m (by omega) (by omega) hT Fr.rf AN.rf
set_option maxRecDepth 100000 in
theorem t146a_1 {L : Nat} {xs : Nat → Int32} {d nn : Nat} {m : yM} {v u : Int} (hT : Ty gT m) (hr : 1 ≤ m 376 45 ∧ m 376 45 ≤ 2000) (hn : m 376 18 = 1) (hv : 0 ≤ v ∧ v ≤ 47) (hu : 0 ≤ u ∧ u ≤ 47) : ∀ (km : Nat) (i : Int) (mi : yM), m 388 1 - i = km → 0 ≤ i ∧ i ≤ m 388 1 → Ty gT mi → Fr wAm m mi → AN m mi → YW (gZ L xs) 146 (d + 1) 2 [some (.ref 376), some (yI v), some (yI u), some (yI i)] [] mi nn (qU (fun m' n' => n' = nn ∧ Ty gT m' ∧ Fr wAm m m' ∧ AN m m')) := by
  intro km
  induction km using Nat.strongRecOn with
  | ind km ih =>
    intro i mi hk hi hTi hFi hAi
    have tb388 := hT.atp 388 1 0 12 rfl
    refine y_iload 3 c146_2 rfl rfl ?_
    refine y_aload 4 c146_3 rfl rfl rfl ?_
    refine y_getR 7 c146_4 rfl kf376_25 ?_
    refine y_aload 8 c146_7 rfl rfl rfl ?_
    refine y_getX 11 (m 376 18) c146_8 rfl kf376_18 (hFi 376 18 rfl) ?_
    refine y_top 1 (by omega) ?_
    refine y_iaX 12 (m 388 1) c146_11 rfl ka388 (by decide) (hFi 388 1 rfl) ?_
    refine y_icmp 45 15 c146_12 rfl rfl (yc_ge (by omega) (by omega)) (fun hb12503 => ?_) (fun hb12503 => ?_)
    · exact y_retU c146_45 ⟨rfl, hTi, hFi, hAi⟩
    · refine y_aload 16 c146_15 rfl rfl rfl ?_
      refine y_aload 17 c146_16 rfl rfl rfl ?_
      refine y_getR 20 c146_17 rfl kf376_41 ?_
      refine y_iconst 22 c146_20 rfl ?_
      refine y_iload 23 c146_22 rfl rfl ?_
      refine y_imul 24 c146_23 rfl ?_
      refine y_iload 25 c146_24 rfl rfl ?_
      refine y_iadd 26 c146_25 rfl ?_
      refine y_iaT 27 ((-2147483648)) 2147483647 c146_26 rfl ka404 (by omega) hTi rfl (fun v12504 hv12504 gv12504 => ?_)
      refine y_callP 30 [.ref 376, yI v12504] [] c146_27 rfl rfl rfl rfl rfl (ycanO km144 ko376) (t144 hTi (by omega)) (fun r12505 hr12505 => ?_)
      refine y_if 39 33 c146_30 rfl rfl (yz_eq (by omega)) (fun hb12506 => ?_) (fun hb12506 => ?_)
      · refine y_iinc 42 c146_39 rfl rfl rfl ?_
        refine y_goto 2 c146_42 rfl ?_
        exact ih (m 388 1 - (i + 1) : Int).toNat (by omega) (i + 1)  _ (by omega) (by omega) hTi hFi hAi
      · refine y_aload 34 c146_33 rfl rfl rfl ?_
        refine y_iload 35 c146_34 rfl rfl ?_
        refine y_iload 36 c146_35 rfl rfl ?_
        have es12508 : mi 376 45 = m 376 45 := (hFi 376 45 rfl)
        have es12509 : mi 376 18 = m 376 18 := (hFi 376 18 rfl)
        refine y_callUB 39 [.ref 376, yI v, yI i] [] c146_36 rfl rfl rfl rfl rfl (ycanO km145 ko376) (t145 hTi (by omega) (by omega) (by omega)) (fun mq12507 nq12507 hq12507 => ?_)
        obtain ⟨rfl, hTq12507, hFq12507, hAq12507⟩ := hq12507
        have hF12510 := hFi.tr hFq12507 (fun _ _ e => e)
        refine y_iinc 42 c146_39 rfl rfl rfl ?_
        refine y_goto 2 c146_42 rfl ?_
        exact ih (m 388 1 - (i + 1) : Int).toNat (by omega) (i + 1)  _ (by omega) (by omega) hTq12507 hF12510 (hAi.tr hAq12507)
set_option maxRecDepth 100000 in
theorem t146_1 {L : Nat} {xs : Nat → Int32} {d nn : Nat} {m : yM} {v u : Int} (hT : Ty gT m) (hr : 1 ≤ m 376 45 ∧ m 376 45 ≤ 2000) (hn : m 376 18 = 1) (hv : 0 ≤ v ∧ v ≤ 47) (hu : 0 ≤ u ∧ u ≤ 47) : YC (gZ L xs) (d + 1) 146 [.ref 376, yI v, yI u] m nn (qU (fun m' n' => n' = nn ∧ Ty gT m' ∧ Fr wAm m m' ∧ AN m m')) := by
  refine YC.mkB [some (.ref 376), some (yI v), some (yI u), none] kn146 rfl rfl ?_
  refine y_iconst 1 c146_0 rfl ?_
  refine y_istore 2 c146_1 rfl rfl ?_
  have tb := hT.atp 388 1 0 12 rfl
  exact t146a_1 hT hr hn hv hu (m 388 1 - 0).toNat 0 m (by omega) (by omega) hT Fr.rf AN.rf
set_option maxRecDepth 100000 in
theorem t147b_1 {L : Nat} {xs : Nat → Int32} {d nn : Nat} {m : yM} {k : Int} (hT : Ty gT m) (hr : 1 ≤ m 376 45 ∧ m 376 45 ≤ 2000) (hn : m 376 18 = 1) (hG : GQ 1 m) (hko : 0 ≤ k ∧ k < m 390 1) (h45 : m 403 (1000 * 1 + 8 * k.toNat) = 4 ∨ m 403 (1000 * 1 + 8 * k.toNat) = 5) {g f b : Int} (hg : (g = 1 ∧ m 403 (1000 * 1 + 8 * k.toNat) = 4) ∨ (g = 0 ∧ m 403 (1000 * 1 + 8 * k.toNat) = 5)) (hf : -1 ≤ f ∧ f ≤ 7) (hb : 0 ≤ b ∧ b ≤ 47) {s : Int} (hs : 0 ≤ s ∧ s < m 388 1) (hf0 : 0 ≤ f) (ho : ∀ (x6 x7 : Option Value) (mi : yM), Ty gT mi → Fr wAm m mi → AN m mi → YW (gZ L xs) 147 (d + 2) 53 [some (.ref 376), some (yI (1000 + 8 * k)), some (yI g), some (yI f), some (yI b), some (yI (s + 1)), x6, x7] [] mi nn (qU (fun m' n' => n' = nn ∧ Ty gT m' ∧ Fr wAm m m' ∧ AN m m'))) : ∀ (km : Nat) (i : Int) (x7 : Option Value) (mi : yM), m 388 1 - i = km → 0 ≤ i ∧ i ≤ m 388 1 → Ty gT mi → Fr wAm m mi → AN m mi → YW (gZ L xs) 147 (d + 2) 94 [some (.ref 376), some (yI (1000 + 8 * k)), some (yI g), some (yI f), some (yI b), some (yI s), some (yI i), x7] [] mi nn (qU (fun m' n' => n' = nn ∧ Ty gT m' ∧ Fr wAm m m' ∧ AN m m')) := by
  intro km
  induction km using Nat.strongRecOn with
  | ind km ih =>
    intro i x7 mi hk hi hTi hFi hAi
    have tb383 := hT.atp 383 1 0 6 rfl
    have tb384 := hT.atp 384 1 0 10 rfl
    have tb388 := hT.atp 388 1 0 12 rfl
    have tb390 := hT.atp 390 1 0 125 rfl
    have hw := hG.1.1 k.toNat (by omega)
    unfold OW at hw
    have hfx := hG.2.2.2.2.2.2.1 k.toNat (by omega)
    have g88 := hG.2.2.2.2.2.2.2.2.1
    have g90 := hG.2.2.2.2.2.2.2.2.2.2
    refine y_iload 96 c147_94 rfl rfl ?_
    refine y_aload 97 c147_96 rfl rfl rfl ?_
    refine y_getR 100 c147_97 rfl kf376_25 ?_
    refine y_aload 101 c147_100 rfl rfl rfl ?_
    refine y_getX 104 (m 376 18) c147_101 rfl kf376_18 (hFi 376 18 rfl) ?_
    refine y_top 1 (by omega) ?_
    refine y_iaX 105 (m 388 1) c147_104 rfl ka388 (by decide) (hFi 388 1 rfl) ?_
    refine y_icmp 244 108 c147_105 rfl rfl (yc_ge (by omega) (by omega)) (fun hb12511 => ?_) (fun hb12511 => ?_)
    · refine y_iinc 247 c147_244 rfl rfl rfl ?_
      refine y_goto 53 c147_247 rfl ?_
      exact ho _ _ _ hTi hFi hAi
    · refine y_iconst 110 c147_108 rfl ?_
      refine y_iload 112 c147_110 rfl rfl ?_
      refine y_imul 113 c147_112 rfl ?_
      refine y_iconst 115 c147_113 rfl ?_
      refine y_iload 116 c147_115 rfl rfl ?_
      refine y_imul 117 c147_116 rfl ?_
      refine y_iadd 118 c147_117 rfl ?_
      refine y_iload 120 c147_118 rfl rfl ?_
      refine y_iadd 121 c147_120 rfl ?_
      refine y_istore 123 c147_121 rfl rfl ?_
      refine y_iload 124 c147_123 rfl rfl ?_
      refine y_if 155 127 c147_124 rfl rfl (yz_eq (by omega)) (fun hb12512 => ?_) (fun hb12512 => ?_)
      · refine y_iload 156 c147_155 rfl rfl ?_
        refine y_if 238 159 c147_156 rfl rfl (yz_ne (by omega)) (fun hb12513 => ?_) (fun hb12513 => ?_)
        · exfalso; omega
        · refine y_aload 160 c147_159 rfl rfl rfl ?_
          refine y_aload 161 c147_160 rfl rfl rfl ?_
          refine y_getR 164 c147_161 rfl kf376_41 ?_
          refine y_iconst 166 c147_164 rfl ?_
          refine y_aload 167 c147_166 rfl rfl rfl ?_
          refine y_getR 170 c147_167 rfl kf376_40 ?_
          refine y_iload 171 c147_170 rfl rfl ?_
          refine y_iconst 172 c147_171 rfl ?_
          refine y_iadd 173 c147_172 rfl ?_
          refine y_iaT 174 ((-2147483648)) 2147483647 c147_173 rfl ka403 (by omega) hTi rfl (fun v12514 hv12514 gv12514 => ?_)
          have gv12514_ : m 403 (1000 * 1 + 8 * k.toNat + 3) = v12514 := by rw [show 1000 * 1 + 8 * k.toNat + 3 = ((1000 + 8 * k) + 3).toNat by omega]; exact ((hFi 403 _ rfl)).symm.trans hv12514
          refine y_imul 175 c147_174 rfl ?_
          refine y_iload 177 c147_175 rfl rfl ?_
          refine y_iadd 178 c147_177 rfl ?_
          refine y_iaT 179 ((-2147483648)) 2147483647 c147_178 rfl ka404 (by omega) hTi rfl (fun v12515 hv12515 gv12515 => ?_)
          refine y_callP 182 [.ref 376, yI v12515] [] c147_179 rfl rfl rfl rfl rfl (ycanO km144 ko376) (t144 hTi (by omega)) (fun r12516 hr12516 => ?_)
          refine y_if 238 185 c147_182 rfl rfl (yz_eq (by omega)) (fun hb12517 => ?_) (fun hb12517 => ?_)
          · refine y_iinc 241 c147_238 rfl rfl rfl ?_
            refine y_goto 94 c147_241 rfl ?_
            exact ih (m 388 1 - (i + 1) : Int).toNat (by omega) (i + 1) _  _ (by omega) (by omega) hTi hFi hAi
          · refine y_aload 186 c147_185 rfl rfl rfl ?_
            refine y_getR 189 c147_186 rfl kf376_42 ?_
            refine y_iload 191 c147_189 rfl rfl ?_
            refine y_iaT 192 ((-2147483648)) 2147483647 c147_191 rfl ka405 (by omega) hTi rfl (fun v12518 hv12518 gv12518 => ?_)
            refine y_if 238 195 c147_192 rfl rfl (yz_ge (by omega)) (fun hb12519 => ?_) (fun hb12519 => ?_)
            · refine y_iinc 241 c147_238 rfl rfl rfl ?_
              refine y_goto 94 c147_241 rfl ?_
              exact ih (m 388 1 - (i + 1) : Int).toNat (by omega) (i + 1) _  _ (by omega) (by omega) hTi hFi hAi
            · refine y_aload 196 c147_195 rfl rfl rfl ?_
              refine y_aload 197 c147_196 rfl rfl rfl ?_
              refine y_getX 200 (m 376 18) c147_197 rfl kf376_18 (hFi 376 18 rfl) ?_
              refine y_top 1 (by omega) ?_
              refine y_aload 201 c147_200 rfl rfl rfl ?_
              refine y_getR 204 c147_201 rfl kf376_37 ?_
              refine y_iconst 206 c147_204 rfl ?_
              refine y_aload 207 c147_206 rfl rfl rfl ?_
              refine y_getX 210 (m 376 18) c147_207 rfl kf376_18 (hFi 376 18 rfl) ?_
              refine y_top 1 (by omega) ?_
              refine y_imul 211 c147_210 rfl ?_
              refine y_top 12 (by decide) ?_
              refine y_iload 213 c147_211 rfl rfl ?_
              refine y_iadd 214 c147_213 rfl ?_
              refine y_iaT 215 ((-2147483648)) 2147483647 c147_214 rfl ka400 (by omega) hTi rfl (fun v12520 hv12520 gv12520 => ?_)
              have gv12520_ : -1 ≤ v12520 ∧ v12520 < m 383 1 := by have h0 := hG.2.2.2.2.2.1 s.toNat (by omega); rw [show 12 * 1 + s.toNat = (12 + s).toNat by omega, ← show _ = m 400 (12 + s).toNat from (hFi 400 _ rfl), hv12520] at h0; exact h0
              refine y_iload 216 c147_215 rfl rfl ?_
              have es12521 : mi 383 1 = m 383 1 := (hFi 383 1 rfl)
              refine y_callP 219 [.ref 376, yI 1, yI v12520, yI f] [] c147_216 rfl rfl rfl rfl rfl (ycanO km121 ko376) (t121_1 hTi (by rw [show mi 383 1 = m 383 1 from (hFi 383 1 rfl)]; exact hG.2.2.2.2.1.fr (fun q => (hFi 392 q rfl))) (by omega) (by omega)) (fun r12522 hr12522 => ?_)
              refine y_if 238 222 c147_219 rfl rfl (yz_eq (by omega)) (fun hb12523 => ?_) (fun hb12523 => ?_)
              · refine y_iinc 241 c147_238 rfl rfl rfl ?_
                refine y_goto 94 c147_241 rfl ?_
                exact ih (m 388 1 - (i + 1) : Int).toNat (by omega) (i + 1) _  _ (by omega) (by omega) hTi hFi hAi
              · refine y_aload 223 c147_222 rfl rfl rfl ?_
                refine y_getR 226 c147_223 rfl kf376_42 ?_
                refine y_iload 228 c147_226 rfl rfl ?_
                refine y_aload 229 c147_228 rfl rfl rfl ?_
                refine y_getX 232 (m 376 45) c147_229 rfl kf376_45 (hFi 376 45 rfl) ?_
                refine y_iastore 233 c147_232 rfl ka405 (by omega) (y_nar0 _) ?_
                have hT12524 := hTi.up 405 ((((96 * s) + (12 * f)) + i).toNat) (m 376 45) ((-2147483648)) 2147483647 rfl (by omega)
                have hF12525 := hFi.up 405 ((((96 * s) + (12 * f)) + i).toNat) (m 376 45) rfl
                refine y_aload 234 c147_233 rfl rfl rfl ?_
                refine y_iconst 235 c147_234 rfl ?_
                refine y_putI 238 c147_235 rfl kf376_46 (y_fit1 (by omega)) ?_
                have hT12526 := hT12524.up 376 46 1 0 1 rfl (by omega)
                have hF12527 := hF12525.up 376 46 1 rfl
                refine y_iinc 241 c147_238 rfl rfl rfl ?_
                refine y_goto 94 c147_241 rfl ?_
                exact ih (m 388 1 - (i + 1) : Int).toNat (by omega) (i + 1) _  _ (by omega) (by omega) hT12526 hF12527 (hAi.tr (AN.w (by omega) (by omega) (by omega)))
      · refine y_aload 128 c147_127 rfl rfl rfl ?_
        refine y_aload 129 c147_128 rfl rfl rfl ?_
        refine y_getR 132 c147_129 rfl kf376_42 ?_
        refine y_iload 134 c147_132 rfl rfl ?_
        refine y_iaT 135 ((-2147483648)) 2147483647 c147_134 rfl ka405 (by omega) hTi rfl (fun v12528 hv12528 gv12528 => ?_)
        refine y_callP 138 [.ref 376, yI v12528] [] c147_135 rfl rfl rfl rfl rfl (ycanO km144 ko376) (t144 hTi (by omega)) (fun r12529 hr12529 => ?_)
        refine y_if 155 141 c147_138 rfl rfl (yz_eq (by omega)) (fun hb12530 => ?_) (fun hb12530 => ?_)
        · refine y_iload 156 c147_155 rfl rfl ?_
          refine y_if 238 159 c147_156 rfl rfl (yz_ne (by omega)) (fun hb12531 => ?_) (fun hb12531 => ?_)
          · refine y_iinc 241 c147_238 rfl rfl rfl ?_
            refine y_goto 94 c147_241 rfl ?_
            exact ih (m 388 1 - (i + 1) : Int).toNat (by omega) (i + 1) _  _ (by omega) (by omega) hTi hFi hAi
          · exfalso; omega
        · refine y_aload 142 c147_141 rfl rfl rfl ?_
          refine y_aload 143 c147_142 rfl rfl rfl ?_
          refine y_getR 146 c147_143 rfl kf376_40 ?_
          refine y_iload 147 c147_146 rfl rfl ?_
          refine y_iconst 148 c147_147 rfl ?_
          refine y_iadd 149 c147_148 rfl ?_
          refine y_iaT 150 ((-2147483648)) 2147483647 c147_149 rfl ka403 (by omega) hTi rfl (fun v12532 hv12532 gv12532 => ?_)
          have gv12532_ : m 403 (1000 * 1 + 8 * k.toNat + 2) = v12532 := by rw [show 1000 * 1 + 8 * k.toNat + 2 = ((1000 + 8 * k) + 2).toNat by omega]; exact ((hFi 403 _ rfl)).symm.trans hv12532
          refine y_iload 152 c147_150 rfl rfl ?_
          have es12534 : mi 376 45 = m 376 45 := (hFi 376 45 rfl)
          have es12535 : mi 376 18 = m 376 18 := (hFi 376 18 rfl)
          refine y_callUB 155 [.ref 376, yI v12532, yI i] [] c147_152 rfl rfl rfl rfl rfl (ycanO km145 ko376) (t145 hTi (by omega) (by omega) (by omega)) (fun mq12533 nq12533 hq12533 => ?_)
          obtain ⟨rfl, hTq12533, hFq12533, hAq12533⟩ := hq12533
          have hF12536 := hFi.tr hFq12533 (fun _ _ e => e)
          refine y_iload 156 c147_155 rfl rfl ?_
          refine y_if 238 159 c147_156 rfl rfl (yz_ne (by omega)) (fun hb12537 => ?_) (fun hb12537 => ?_)
          · refine y_iinc 241 c147_238 rfl rfl rfl ?_
            refine y_goto 94 c147_241 rfl ?_
            exact ih (m 388 1 - (i + 1) : Int).toNat (by omega) (i + 1) _  _ (by omega) (by omega) hTq12533 hF12536 (hAi.tr hAq12533)
          · exfalso; omega
set_option maxRecDepth 100000 in
theorem t147a_1 {L : Nat} {xs : Nat → Int32} {d nn : Nat} {m : yM} {k : Int} (hT : Ty gT m) (hr : 1 ≤ m 376 45 ∧ m 376 45 ≤ 2000) (hn : m 376 18 = 1) (hG : GQ 1 m) (hko : 0 ≤ k ∧ k < m 390 1) (h45 : m 403 (1000 * 1 + 8 * k.toNat) = 4 ∨ m 403 (1000 * 1 + 8 * k.toNat) = 5) {g f b : Int} (hg : (g = 1 ∧ m 403 (1000 * 1 + 8 * k.toNat) = 4) ∨ (g = 0 ∧ m 403 (1000 * 1 + 8 * k.toNat) = 5)) (hf : -1 ≤ f ∧ f ≤ 7) (hb : 0 ≤ b ∧ b ≤ 47) : ∀ (km : Nat) (s : Int) (x6 : Option Value) (x7 : Option Value) (mi : yM), m 388 1 - s = km → 0 ≤ s ∧ s ≤ m 388 1 → Ty gT mi → Fr wAm m mi → AN m mi → YW (gZ L xs) 147 (d + 2) 53 [some (.ref 376), some (yI (1000 + 8 * k)), some (yI g), some (yI f), some (yI b), some (yI s), x6, x7] [] mi nn (qU (fun m' n' => n' = nn ∧ Ty gT m' ∧ Fr wAm m m' ∧ AN m m')) := by
  intro km
  induction km using Nat.strongRecOn with
  | ind km ih =>
    intro s x6 x7 mi hk hi hTi hFi hAi
    have tb383 := hT.atp 383 1 0 6 rfl
    have tb384 := hT.atp 384 1 0 10 rfl
    have tb388 := hT.atp 388 1 0 12 rfl
    have tb390 := hT.atp 390 1 0 125 rfl
    have hw := hG.1.1 k.toNat (by omega)
    unfold OW at hw
    have hfx := hG.2.2.2.2.2.2.1 k.toNat (by omega)
    have g88 := hG.2.2.2.2.2.2.2.2.1
    have g90 := hG.2.2.2.2.2.2.2.2.2.2
    refine y_iload 55 c147_53 rfl rfl ?_
    refine y_aload 56 c147_55 rfl rfl rfl ?_
    refine y_getR 59 c147_56 rfl kf376_25 ?_
    refine y_aload 60 c147_59 rfl rfl rfl ?_
    refine y_getX 63 (m 376 18) c147_60 rfl kf376_18 (hFi 376 18 rfl) ?_
    refine y_top 1 (by omega) ?_
    refine y_iaX 64 (m 388 1) c147_63 rfl ka388 (by decide) (hFi 388 1 rfl) ?_
    refine y_icmp 250 67 c147_64 rfl rfl (yc_ge (by omega) (by omega)) (fun hb12538 => ?_) (fun hb12538 => ?_)
    · exact y_retU c147_250 ⟨rfl, hTi, hFi, hAi⟩
    · refine y_iload 68 c147_67 rfl rfl ?_
      refine y_if 250 71 c147_68 rfl rfl (yz_lt (by omega)) (fun hb12539 => ?_) (fun hb12539 => ?_)
      · exact y_retU c147_250 ⟨rfl, hTi, hFi, hAi⟩
      · refine y_aload 72 c147_71 rfl rfl rfl ?_
        refine y_aload 73 c147_72 rfl rfl rfl ?_
        refine y_getR 76 c147_73 rfl kf376_41 ?_
        refine y_iconst 78 c147_76 rfl ?_
        refine y_iload 80 c147_78 rfl rfl ?_
        refine y_imul 81 c147_80 rfl ?_
        refine y_iload 83 c147_81 rfl rfl ?_
        refine y_iadd 84 c147_83 rfl ?_
        refine y_iaT 85 ((-2147483648)) 2147483647 c147_84 rfl ka404 (by omega) hTi rfl (fun v12540 hv12540 gv12540 => ?_)
        refine y_callP 88 [.ref 376, yI v12540] [] c147_85 rfl rfl rfl rfl rfl (ycanO km144 ko376) (t144 hTi (by omega)) (fun r12541 hr12541 => ?_)
        refine y_if 244 91 c147_88 rfl rfl (yz_eq (by omega)) (fun hb12542 => ?_) (fun hb12542 => ?_)
        · refine y_iinc 247 c147_244 rfl rfl rfl ?_
          refine y_goto 53 c147_247 rfl ?_
          exact ih (m 388 1 - (s + 1) : Int).toNat (by omega) (s + 1) _ _  _ (by omega) (by omega) hTi hFi hAi
        · refine y_iconst 92 c147_91 rfl ?_
          refine y_istore 94 c147_92 rfl rfl ?_
          exact t147b_1 hT hr hn hG hko h45 hg hf hb (s := s) (by omega) (by omega) (fun y6 y7 mj j1 j2 j3 => ih (m 388 1 - (s + 1)).toNat (by omega) (s + 1) y6 y7 mj (by omega) (by omega) j1 j2 j3) (m 388 1 - 0).toNat 0 _ _ (by omega) (by omega) hTi hFi hAi
set_option maxRecDepth 100000 in
theorem t147_1 {L : Nat} {xs : Nat → Int32} {d nn : Nat} {m : yM} {k : Int} (hT : Ty gT m) (hr : 1 ≤ m 376 45 ∧ m 376 45 ≤ 2000) (hn : m 376 18 = 1) (hG : GQ 1 m) (hko : 0 ≤ k ∧ k < m 390 1) (h45 : m 403 (1000 * 1 + 8 * k.toNat) = 4 ∨ m 403 (1000 * 1 + 8 * k.toNat) = 5) : YC (gZ L xs) (d + 2) 147 [.ref 376, yI (1000 + 8 * k)] m nn (qU (fun m' n' => n' = nn ∧ Ty gT m' ∧ Fr wAm m m' ∧ AN m m')) := by
  have tb383 := hT.atp 383 1 0 6 rfl
  have tb384 := hT.atp 384 1 0 10 rfl
  have tb388 := hT.atp 388 1 0 12 rfl
  have tb390 := hT.atp 390 1 0 125 rfl
  have hw := hG.1.1 k.toNat (by omega)
  unfold OW at hw
  have hfx := hG.2.2.2.2.2.2.1 k.toNat (by omega)
  have g88 := hG.2.2.2.2.2.2.2.2.1
  have g90 := hG.2.2.2.2.2.2.2.2.2.2
  refine YC.mkB [some (.ref 376), some (yI (1000 + 8 * k)), none, none, none, none, none, none] kn147 rfl rfl ?_
  refine y_aload 1 c147_0 rfl rfl rfl ?_
  refine y_getR 4 c147_1 rfl kf376_40 ?_
  refine y_iload 5 c147_4 rfl rfl ?_
  refine y_iaT 6 ((-2147483648)) 2147483647 c147_5 rfl ka403 (by omega) hT rfl (fun v12543 hv12543 gv12543 => ?_)
  have gv12543_ : m 403 (1000 * 1 + 8 * k.toNat) = v12543 := by rw [show 1000 * 1 + 8 * k.toNat = (1000 + 8 * k).toNat by omega]; exact (rfl).symm.trans hv12543
  refine y_iconst 7 c147_6 rfl ?_
  refine y_icmp 14 10 c147_7 rfl rfl (yc_ne (by omega) (by omega)) (fun hb12544 => ?_) (fun hb12544 => ?_)
  · refine y_iconst 15 c147_14 rfl ?_
    refine y_istore 16 c147_15 rfl rfl ?_
    refine y_aload 17 c147_16 rfl rfl rfl ?_
    refine y_getR 20 c147_17 rfl kf376_40 ?_
    refine y_iload 21 c147_20 rfl rfl ?_
    refine y_iconst 22 c147_21 rfl ?_
    refine y_iadd 23 c147_22 rfl ?_
    refine y_iaT 24 ((-2147483648)) 2147483647 c147_23 rfl ka403 (by omega) hT rfl (fun v12545 hv12545 gv12545 => ?_)
    have gv12545_ : m 403 (1000 * 1 + 8 * k.toNat + 4) = v12545 := by rw [show 1000 * 1 + 8 * k.toNat + 4 = ((1000 + 8 * k) + 4).toNat by omega]; exact (rfl).symm.trans hv12545
    refine y_istore 25 c147_24 rfl rfl ?_
    refine y_iload 26 c147_25 rfl rfl ?_
    refine y_if 40 29 c147_26 rfl rfl (yz_eq (by omega)) (fun hb12546 => ?_) (fun hb12546 => ?_)
    · refine y_aload 41 c147_40 rfl rfl rfl ?_
      refine y_getR 44 c147_41 rfl kf376_40 ?_
      refine y_iload 45 c147_44 rfl rfl ?_
      refine y_iconst 46 c147_45 rfl ?_
      refine y_iadd 47 c147_46 rfl ?_
      refine y_iaT 48 ((-2147483648)) 2147483647 c147_47 rfl ka403 (by omega) hT rfl (fun v12547 hv12547 gv12547 => ?_)
      have gv12547_ : m 403 (1000 * 1 + 8 * k.toNat + 2) = v12547 := by rw [show 1000 * 1 + 8 * k.toNat + 2 = ((1000 + 8 * k) + 2).toNat by omega]; exact (rfl).symm.trans hv12547
      refine y_istore 50 c147_48 rfl rfl ?_
      refine y_iconst 51 c147_50 rfl ?_
      refine y_istore 53 c147_51 rfl rfl ?_
      exact t147a_1 hT hr hn hG hko h45 (g := 0) (f := v12545) (b := v12547) (by omega) (by omega) (by omega) (m 388 1 - 0).toNat 0 _ _ m (by omega) (by omega) hT Fr.rf AN.rf
    · exfalso; omega
  · refine y_iconst 11 c147_10 rfl ?_
    refine y_goto 15 c147_11 rfl ?_
    refine y_istore 16 c147_15 rfl rfl ?_
    refine y_aload 17 c147_16 rfl rfl rfl ?_
    refine y_getR 20 c147_17 rfl kf376_40 ?_
    refine y_iload 21 c147_20 rfl rfl ?_
    refine y_iconst 22 c147_21 rfl ?_
    refine y_iadd 23 c147_22 rfl ?_
    refine y_iaT 24 ((-2147483648)) 2147483647 c147_23 rfl ka403 (by omega) hT rfl (fun v12548 hv12548 gv12548 => ?_)
    have gv12548_ : m 403 (1000 * 1 + 8 * k.toNat + 4) = v12548 := by rw [show 1000 * 1 + 8 * k.toNat + 4 = ((1000 + 8 * k) + 4).toNat by omega]; exact (rfl).symm.trans hv12548
    refine y_istore 25 c147_24 rfl rfl ?_
    refine y_iload 26 c147_25 rfl rfl ?_
    refine y_if 40 29 c147_26 rfl rfl (yz_eq (by omega)) (fun hb12549 => ?_) (fun hb12549 => ?_)
    · exfalso; omega
    · refine y_aload 30 c147_29 rfl rfl rfl ?_
      refine y_getR 33 c147_30 rfl kf376_40 ?_
      refine y_iload 34 c147_33 rfl rfl ?_
      refine y_iconst 35 c147_34 rfl ?_
      refine y_iadd 36 c147_35 rfl ?_
      refine y_iaT 37 ((-2147483648)) 2147483647 c147_36 rfl ka403 (by omega) hT rfl (fun v12550 hv12550 gv12550 => ?_)
      have gv12550_ : m 403 (1000 * 1 + 8 * k.toNat + 3) = v12550 := by rw [show 1000 * 1 + 8 * k.toNat + 3 = ((1000 + 8 * k) + 3).toNat by omega]; exact (rfl).symm.trans hv12550
      refine y_goto 48 c147_37 rfl ?_
      refine y_istore 50 c147_48 rfl rfl ?_
      refine y_iconst 51 c147_50 rfl ?_
      refine y_istore 53 c147_51 rfl rfl ?_
      exact t147a_1 hT hr hn hG hko h45 (g := 1) (f := v12548) (b := v12550) (by omega) (by omega) (by omega) (m 388 1 - 0).toNat 0 _ _ m (by omega) (by omega) hT Fr.rf AN.rf
