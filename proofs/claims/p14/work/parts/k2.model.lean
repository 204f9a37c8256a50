/-! CONTRACTS: the model, facts. Printed by wip/whole/gen9c.py -/
set_option maxRecDepth 100000 in
theorem t148a_0 {L : Nat} {xs : Nat → Int32} {d nn : Nat} {m : yM} {k : Int} (hT : Ty gT m) (hr : 1 ≤ m 376 45 ∧ m 376 45 ≤ 2000) (hn : m 376 18 = 0) (hG : GQ 0 m) (hko : 0 ≤ k ∧ k < m 390 0) (h7 : m 403 (1000 * 0 + 8 * k.toNat) = 7) {u c n : Int} (hu : 0 ≤ u ∧ u ≤ 47) (hc : c = m 403 (1000 * 0 + 8 * k.toNat + 5) / 16) (hna : n = m 403 (1000 * 0 + 8 * k.toNat + 5) % 16) (ho : ∀ (x5 x6 : Option Value) (mi : yM), Ty gT mi → Fr wAn m mi → AN m mi → GM 0 mi → YW (gZ L xs) 148 (d + 2) 205 [some (.ref 376), some (yI (0 + 8 * k)), some (yI u), some (yI c), some (yI n), x5, x6, none] [] mi nn (qU (fun m' n' => n' = nn ∧ Ty gT m' ∧ Fr wAn m m' ∧ AN m m' ∧ GM 0 m'))) : ∀ (km : Nat) (i : Int) (x6 : Option Value) (mi : yM), m 388 0 - i = km → 0 ≤ i ∧ i ≤ m 388 0 → Ty gT mi → Fr wAn m mi → AN m mi → GM 0 mi → YW (gZ L xs) 148 (d + 2) 37 [some (.ref 376), some (yI (0 + 8 * k)), some (yI u), some (yI c), some (yI n), some (yI i), x6, none] [] mi nn (qU (fun m' n' => n' = nn ∧ Ty gT m' ∧ Fr wAn m m' ∧ AN m m' ∧ GM 0 m')) := by
  intro km
  induction km using Nat.strongRecOn with
  | ind km ih =>
    intro i x6 mi hk hi hTi hFi hAi hGi
    have tb383 := hT.atp 383 0 0 6 rfl
    have tb384 := hT.atp 384 0 0 10 rfl
    have tb388 := hT.atp 388 0 0 12 rfl
    have tb390 := hT.atp 390 0 0 125 rfl
    have hw := hG.1.1 k.toNat (by omega)
    unfold OW at hw
    have hfx := hG.2.2.2.2.2.2.1 k.toNat (by omega)
    have g88 := hG.2.2.2.2.2.2.2.2.1
    have g90 := hG.2.2.2.2.2.2.2.2.2.2
    have hgo : ∀ (r v : Int), 0 ≤ r ∧ r ≤ 9 → m 397 (10 * 0 + r.toNat) = n → GM 0 mi → GM 0 (yup mi 406 (10 * c + r).toNat v) := by
      intro r v hr9 hs hg
      have e5 : mi 403 (1000 * 0 + 8 * k.toNat + 5) = m 403 (1000 * 0 + 8 * k.toNat + 5) := hFi 403 _ rfl
      have hgm : GQ 0 mi := hG.fr hT (by decide) (fun a q ha => hFi a q (wAn_G a q ha))
      have h := GM.goes (v := v) (i := r.toNat) hg hgm.1 (o := k.toNat) (by rw [hFi 390 0 rfl]; omega) (by rw [hFi 403 _ rfl]; exact h7) (by rw [hFi 384 0 rfl]; omega) (by omega) (by rw [hFi 397 _ rfl, e5]; omega)
      rw [e5, show 10 * (m 403 (1000 * 0 + 8 * k.toNat + 5) / 16).toNat + r.toNat = (10 * c + r).toNat by omega] at h
      exact h
    refine y_iload 39 c148_37 rfl rfl ?_
    refine y_aload 40 c148_39 rfl rfl rfl ?_
    refine y_getR 43 c148_40 rfl kf376_25 ?_
    refine y_aload 44 c148_43 rfl rfl rfl ?_
    refine y_getX 47 (m 376 18) c148_44 rfl kf376_18 (hFi 376 18 rfl) ?_
    refine y_top 0 (by omega) ?_
    refine y_iaX 48 (m 388 0) c148_47 rfl ka388 (by decide) (hFi 388 0 rfl) ?_
    refine y_icmp 205 51 c148_48 rfl rfl (yc_ge (by omega) (by omega)) (fun hb12374 => ?_) (fun hb12374 => ?_)
    · exact ho _ _ _ hTi hFi hAi hGi
    · refine y_aload 52 c148_51 rfl rfl rfl ?_
      refine y_aload 53 c148_52 rfl rfl rfl ?_
      refine y_getR 56 c148_53 rfl kf376_41 ?_
      refine y_iconst 58 c148_56 rfl ?_
      refine y_iload 59 c148_58 rfl rfl ?_
      refine y_imul 60 c148_59 rfl ?_
      refine y_iload 62 c148_60 rfl rfl ?_
      refine y_iadd 63 c148_62 rfl ?_
      refine y_iaT 64 ((-2147483648)) 2147483647 c148_63 rfl ka404 (by omega) hTi rfl (fun v12375 hv12375 gv12375 => ?_)
      refine y_callP 67 [.ref 376, yI v12375] [] c148_64 rfl rfl rfl rfl rfl (ycanO km144 ko376) (t144 hTi (by omega)) (fun r12376 hr12376 => ?_)
      refine y_if 106 70 c148_67 rfl rfl (yz_eq (by omega)) (fun hb12377 => ?_) (fun hb12377 => ?_)
      · refine y_iconst 107 c148_106 rfl ?_
        refine y_istore 109 c148_107 rfl rfl ?_
        refine y_iload 111 c148_109 rfl rfl ?_
        refine y_if 199 114 c148_111 rfl rfl (yz_lt (by omega)) (fun hb12378 => ?_) (fun hb12378 => ?_)
        · refine y_iinc 202 c148_199 rfl rfl rfl ?_
          refine y_goto 37 c148_202 rfl ?_
          exact ih (m 388 0 - (i + 1) : Int).toNat (by omega) (i + 1) _  _ (by omega) (by omega) hTi hFi hAi hGi
        · exfalso; omega
      · refine y_aload 71 c148_70 rfl rfl rfl ?_
        refine y_aload 72 c148_71 rfl rfl rfl ?_
        refine y_getX 75 (m 376 18) c148_72 rfl kf376_18 (hFi 376 18 rfl) ?_
        refine y_top 0 (by omega) ?_
        refine y_aload 76 c148_75 rfl rfl rfl ?_
        refine y_getR 79 c148_76 rfl kf376_37 ?_
        refine y_iconst 81 c148_79 rfl ?_
        refine y_aload 82 c148_81 rfl rfl rfl ?_
        refine y_getX 85 (m 376 18) c148_82 rfl kf376_18 (hFi 376 18 rfl) ?_
        refine y_top 0 (by omega) ?_
        refine y_imul 86 c148_85 rfl ?_
        refine y_top 0 (by decide) ?_
        refine y_iload 88 c148_86 rfl rfl ?_
        refine y_iadd 89 c148_88 rfl ?_
        refine y_iaT 90 ((-2147483648)) 2147483647 c148_89 rfl ka400 (by omega) hTi rfl (fun v12379 hv12379 gv12379 => ?_)
        have gv12379_ : -1 ≤ v12379 ∧ v12379 < m 383 0 := by have h0 := hG.2.2.2.2.2.1 i.toNat (by omega); rw [show 12 * 0 + i.toNat = (0 + i).toNat by omega, ← show _ = m 400 (0 + i).toNat from (hFi 400 _ rfl), hv12379] at h0; exact h0
        refine y_aload 91 c148_90 rfl rfl rfl ?_
        refine y_getR 94 c148_91 rfl kf376_40 ?_
        refine y_iload 95 c148_94 rfl rfl ?_
        refine y_iconst 96 c148_95 rfl ?_
        refine y_iadd 97 c148_96 rfl ?_
        refine y_iaT 98 ((-2147483648)) 2147483647 c148_97 rfl ka403 (by omega) hTi rfl (fun v12380 hv12380 gv12380 => ?_)
        have gv12380_ : m 403 (1000 * 0 + 8 * k.toNat + 4) = v12380 := by rw [show 1000 * 0 + 8 * k.toNat + 4 = ((0 + 8 * k) + 4).toNat by omega]; exact ((hFi 403 _ rfl)).symm.trans hv12380
        refine y_iload 100 c148_98 rfl rfl ?_
        have es12381 : mi 383 0 = m 383 0 := (hFi 383 0 rfl)
        have es12382 : mi 384 0 = m 384 0 := (hFi 384 0 rfl)
        refine y_callP 103 [.ref 376, yI 0, yI v12379, yI v12380, yI n] [] c148_100 rfl rfl rfl rfl rfl (ycanO km142 ko376) (t142_0 hTi (by rw [show mi 383 0 = m 383 0 from (hFi 383 0 rfl)]; exact hG.2.2.2.2.1.fr (fun q => (hFi 392 q rfl))) (by omega) (by omega) (by omega)) (fun r12383 hr12383 => ?_)
        refine y_goto 107 c148_103 rfl ?_
        refine y_istore 109 c148_107 rfl rfl ?_
        refine y_iload 111 c148_109 rfl rfl ?_
        refine y_if 199 114 c148_111 rfl rfl (yz_lt (by omega)) (fun hb12384 => ?_) (fun hb12384 => ?_)
        · refine y_iinc 202 c148_199 rfl rfl rfl ?_
          refine y_goto 37 c148_202 rfl ?_
          exact ih (m 388 0 - (i + 1) : Int).toNat (by omega) (i + 1) _  _ (by omega) (by omega) hTi hFi hAi hGi
        · refine y_aload 115 c148_114 rfl rfl rfl ?_
          refine y_getR 118 c148_115 rfl kf376_43 ?_
          refine y_iconst 120 c148_118 rfl ?_
          refine y_iload 121 c148_120 rfl rfl ?_
          refine y_imul 122 c148_121 rfl ?_
          refine y_iload 124 c148_122 rfl rfl ?_
          refine y_iadd 125 c148_124 rfl ?_
          refine y_iaT 126 ((-2147483648)) 2147483647 c148_125 rfl ka406 (by omega) hTi rfl (fun v12385 hv12385 gv12385 => ?_)
          refine y_if 150 129 c148_126 rfl rfl (yz_ge (by omega)) (fun hb12386 => ?_) (fun hb12386 => ?_)
          · refine y_aload 151 c148_150 rfl rfl rfl ?_
            refine y_getR 154 c148_151 rfl kf376_44 ?_
            refine y_iload 156 c148_154 rfl rfl ?_
            refine y_iaT 157 ((-2147483648)) 2147483647 c148_156 rfl ka407 (by omega) hTi rfl (fun v12387 hv12387 gv12387 => ?_)
            refine y_if 176 160 c148_157 rfl rfl (yz_ge (by omega)) (fun hb12388 => ?_) (fun hb12388 => ?_)
            · refine y_aload 177 c148_176 rfl rfl rfl ?_
              refine y_aload 178 c148_177 rfl rfl rfl ?_
              refine y_getR 181 c148_178 rfl kf376_35 ?_
              refine y_iconst 183 c148_181 rfl ?_
              refine y_aload 184 c148_183 rfl rfl rfl ?_
              refine y_getX 187 (m 376 18) c148_184 rfl kf376_18 (hFi 376 18 rfl) ?_
              refine y_top 0 (by omega) ?_
              refine y_imul 188 c148_187 rfl ?_
              refine y_top 0 (by decide) ?_
              refine y_iload 190 c148_188 rfl rfl ?_
              refine y_iadd 191 c148_190 rfl ?_
              refine y_iaT 192 0 46 c148_191 rfl ka398 (by omega) hTi rfl (fun v12389 hv12389 gv12389 => ?_)
              have gv12389_ : m 398 (10 * 0 + r12383.toNat) = v12389 := by rw [show 10 * 0 + r12383.toNat = (0 + r12383).toNat by omega]; exact ((hFi 398 _ rfl)).symm.trans hv12389
              have gmv12389_ := hG.2.2.2.1 r12383.toNat (by omega)
              refine y_iconst 193 c148_192 rfl ?_
              refine y_iadd 194 c148_193 rfl ?_
              refine y_iload 196 c148_194 rfl rfl ?_
              have es12391 : mi 376 45 = m 376 45 := (hFi 376 45 rfl)
              have es12392 : mi 376 18 = m 376 18 := (hFi 376 18 rfl)
              refine y_callUB 199 [.ref 376, yI (v12389 + 1), yI i] [] c148_196 rfl rfl rfl rfl rfl (ycanO km145 ko376) (t145 hTi (by omega) (by omega) (by omega)) (fun mq12390 nq12390 hq12390 => ?_)
              obtain ⟨rfl, hTq12390, hFq12390, hAq12390⟩ := hq12390
              have hF12393 := hFi.tr hFq12390 wAm_wAn
              refine y_iinc 202 c148_199 rfl rfl rfl ?_
              refine y_goto 37 c148_202 rfl ?_
              exact ih (m 388 0 - (i + 1) : Int).toNat (by omega) (i + 1) _  _ (by omega) (by omega) hTq12390 hF12393 (hAi.tr hAq12390) (GM.fr hGi hFq12390)
            · refine y_aload 161 c148_160 rfl rfl rfl ?_
              refine y_getR 164 c148_161 rfl kf376_44 ?_
              refine y_iload 166 c148_164 rfl rfl ?_
              refine y_aload 167 c148_166 rfl rfl rfl ?_
              refine y_getX 170 (m 376 45) c148_167 rfl kf376_45 (hFi 376 45 rfl) ?_
              refine y_iastore 171 c148_170 rfl ka407 (by omega) (y_nar0 _) ?_
              have hT12394 := hTi.up 407 r12383.toNat (m 376 45) ((-2147483648)) 2147483647 rfl (by omega)
              have hF12395 := hFi.up 407 r12383.toNat (m 376 45) rfl
              refine y_aload 172 c148_171 rfl rfl rfl ?_
              refine y_iconst 173 c148_172 rfl ?_
              refine y_putI 176 c148_173 rfl kf376_46 (y_fit1 (by omega)) ?_
              have hT12396 := hT12394.up 376 46 1 0 1 rfl (by omega)
              have hF12397 := hF12395.up 376 46 1 rfl
              refine y_aload 177 c148_176 rfl rfl rfl ?_
              refine y_aload 178 c148_177 rfl rfl rfl ?_
              refine y_getR 181 c148_178 rfl kf376_35 ?_
              refine y_iconst 183 c148_181 rfl ?_
              refine y_aload 184 c148_183 rfl rfl rfl ?_
              refine y_getX 187 (m 376 18) c148_184 rfl kf376_18 ((yup_nk (by decide)).trans ((yup_na (by decide)).trans (hFi 376 18 rfl))) ?_
              refine y_top 0 (by omega) ?_
              refine y_imul 188 c148_187 rfl ?_
              refine y_top 0 (by decide) ?_
              refine y_iload 190 c148_188 rfl rfl ?_
              refine y_iadd 191 c148_190 rfl ?_
              refine y_iaT 192 0 46 c148_191 rfl ka398 (by omega) hT12396 rfl (fun v12398 hv12398 gv12398 => ?_)
              have gv12398_ : m 398 (10 * 0 + r12383.toNat) = v12398 := by rw [show 10 * 0 + r12383.toNat = (0 + r12383).toNat by omega]; exact (((yup_na (by decide)).trans ((yup_na (by decide)).trans (hFi 398 _ rfl)))).symm.trans hv12398
              have gmv12398_ := hG.2.2.2.1 r12383.toNat (by omega)
              refine y_iconst 193 c148_192 rfl ?_
              refine y_iadd 194 c148_193 rfl ?_
              refine y_iload 196 c148_194 rfl rfl ?_
              have es12400 : (yup (yup mi 407 r12383.toNat (m 376 45)) 376 46 1) 376 45 = m 376 45 := ((yup_nk (by decide)).trans ((yup_na (by decide)).trans (hFi 376 45 rfl)))
              have es12401 : (yup (yup mi 407 r12383.toNat (m 376 45)) 376 46 1) 376 18 = m 376 18 := ((yup_nk (by decide)).trans ((yup_na (by decide)).trans (hFi 376 18 rfl)))
              refine y_callUB 199 [.ref 376, yI (v12398 + 1), yI i] [] c148_196 rfl rfl rfl rfl rfl (ycanO km145 ko376) (t145 hT12396 (by omega) (by omega) (by omega)) (fun mq12399 nq12399 hq12399 => ?_)
              obtain ⟨rfl, hTq12399, hFq12399, hAq12399⟩ := hq12399
              have hF12402 := hF12397.tr hFq12399 wAm_wAn
              refine y_iinc 202 c148_199 rfl rfl rfl ?_
              refine y_goto 37 c148_202 rfl ?_
              exact ih (m 388 0 - (i + 1) : Int).toNat (by omega) (i + 1) _  _ (by omega) (by omega) hTq12399 hF12402 ((hAi.tr (AN.w (by omega) (by omega) (by omega))).tr hAq12399) (GM.fr (GM.up (GM.up hGi (by decide)) (by decide)) hFq12399)
          · refine y_aload 130 c148_129 rfl rfl rfl ?_
            refine y_getR 133 c148_130 rfl kf376_43 ?_
            refine y_iconst 135 c148_133 rfl ?_
            refine y_iload 136 c148_135 rfl rfl ?_
            refine y_imul 137 c148_136 rfl ?_
            refine y_iload 139 c148_137 rfl rfl ?_
            refine y_iadd 140 c148_139 rfl ?_
            refine y_aload 141 c148_140 rfl rfl rfl ?_
            refine y_getX 144 (m 376 45) c148_141 rfl kf376_45 (hFi 376 45 rfl) ?_
            refine y_iastore 145 c148_144 rfl ka406 (by omega) (y_nar0 _) ?_
            have hT12403 := hTi.up 406 (((10 * c) + r12383).toNat) (m 376 45) ((-2147483648)) 2147483647 rfl (by omega)
            have hF12404 := hFi.up 406 (((10 * c) + r12383).toNat) (m 376 45) rfl
            refine y_aload 146 c148_145 rfl rfl rfl ?_
            refine y_iconst 147 c148_146 rfl ?_
            refine y_putI 150 c148_147 rfl kf376_46 (y_fit1 (by omega)) ?_
            have hT12405 := hT12403.up 376 46 1 0 1 rfl (by omega)
            have hF12406 := hF12404.up 376 46 1 rfl
            refine y_aload 151 c148_150 rfl rfl rfl ?_
            refine y_getR 154 c148_151 rfl kf376_44 ?_
            refine y_iload 156 c148_154 rfl rfl ?_
            refine y_iaT 157 ((-2147483648)) 2147483647 c148_156 rfl ka407 (by omega) hT12405 rfl (fun v12407 hv12407 gv12407 => ?_)
            refine y_if 176 160 c148_157 rfl rfl (yz_ge (by omega)) (fun hb12408 => ?_) (fun hb12408 => ?_)
            · refine y_aload 177 c148_176 rfl rfl rfl ?_
              refine y_aload 178 c148_177 rfl rfl rfl ?_
              refine y_getR 181 c148_178 rfl kf376_35 ?_
              refine y_iconst 183 c148_181 rfl ?_
              refine y_aload 184 c148_183 rfl rfl rfl ?_
              refine y_getX 187 (m 376 18) c148_184 rfl kf376_18 ((yup_nk (by decide)).trans ((yup_na (by decide)).trans (hFi 376 18 rfl))) ?_
              refine y_top 0 (by omega) ?_
              refine y_imul 188 c148_187 rfl ?_
              refine y_top 0 (by decide) ?_
              refine y_iload 190 c148_188 rfl rfl ?_
              refine y_iadd 191 c148_190 rfl ?_
              refine y_iaT 192 0 46 c148_191 rfl ka398 (by omega) hT12405 rfl (fun v12409 hv12409 gv12409 => ?_)
              have gv12409_ : m 398 (10 * 0 + r12383.toNat) = v12409 := by rw [show 10 * 0 + r12383.toNat = (0 + r12383).toNat by omega]; exact (((yup_na (by decide)).trans ((yup_na (by decide)).trans (hFi 398 _ rfl)))).symm.trans hv12409
              have gmv12409_ := hG.2.2.2.1 r12383.toNat (by omega)
              refine y_iconst 193 c148_192 rfl ?_
              refine y_iadd 194 c148_193 rfl ?_
              refine y_iload 196 c148_194 rfl rfl ?_
              have es12411 : (yup (yup mi 406 (((10 * c) + r12383).toNat) (m 376 45)) 376 46 1) 376 45 = m 376 45 := ((yup_nk (by decide)).trans ((yup_na (by decide)).trans (hFi 376 45 rfl)))
              have es12412 : (yup (yup mi 406 (((10 * c) + r12383).toNat) (m 376 45)) 376 46 1) 376 18 = m 376 18 := ((yup_nk (by decide)).trans ((yup_na (by decide)).trans (hFi 376 18 rfl)))
              refine y_callUB 199 [.ref 376, yI (v12409 + 1), yI i] [] c148_196 rfl rfl rfl rfl rfl (ycanO km145 ko376) (t145 hT12405 (by omega) (by omega) (by omega)) (fun mq12410 nq12410 hq12410 => ?_)
              obtain ⟨rfl, hTq12410, hFq12410, hAq12410⟩ := hq12410
              have hF12413 := hF12406.tr hFq12410 wAm_wAn
              refine y_iinc 202 c148_199 rfl rfl rfl ?_
              refine y_goto 37 c148_202 rfl ?_
              exact ih (m 388 0 - (i + 1) : Int).toNat (by omega) (i + 1) _  _ (by omega) (by omega) hTq12410 hF12413 ((hAi.tr (AN.w (by omega) (by omega) (by omega))).tr hAq12410) (GM.fr (GM.up (hgo r12383 _ (by omega) (by rw [show 10 * 0 + r12383.toNat = 0 + r12383.toNat by omega, ← hFi 397 (0 + r12383.toNat) rfl]; exact hr12383.2.2 (by omega)) hGi) (by decide)) hFq12410)
            · refine y_aload 161 c148_160 rfl rfl rfl ?_
              refine y_getR 164 c148_161 rfl kf376_44 ?_
              refine y_iload 166 c148_164 rfl rfl ?_
              refine y_aload 167 c148_166 rfl rfl rfl ?_
              refine y_getX 170 (m 376 45) c148_167 rfl kf376_45 ((yup_nk (by decide)).trans ((yup_na (by decide)).trans (hFi 376 45 rfl))) ?_
              refine y_iastore 171 c148_170 rfl ka407 (by omega) (y_nar0 _) ?_
              have hT12414 := hT12405.up 407 r12383.toNat (m 376 45) ((-2147483648)) 2147483647 rfl (by omega)
              have hF12415 := hF12406.up 407 r12383.toNat (m 376 45) rfl
              refine y_aload 172 c148_171 rfl rfl rfl ?_
              refine y_iconst 173 c148_172 rfl ?_
              refine y_putI 176 c148_173 rfl kf376_46 (y_fit1 (by omega)) ?_
              have hT12416 := hT12414.up 376 46 1 0 1 rfl (by omega)
              have hF12417 := hF12415.up 376 46 1 rfl
              refine y_aload 177 c148_176 rfl rfl rfl ?_
              refine y_aload 178 c148_177 rfl rfl rfl ?_
              refine y_getR 181 c148_178 rfl kf376_35 ?_
              refine y_iconst 183 c148_181 rfl ?_
              refine y_aload 184 c148_183 rfl rfl rfl ?_
              refine y_getX 187 (m 376 18) c148_184 rfl kf376_18 ((yup_nk (by decide)).trans ((yup_na (by decide)).trans ((yup_nk (by decide)).trans ((yup_na (by decide)).trans (hFi 376 18 rfl))))) ?_
              refine y_top 0 (by omega) ?_
              refine y_imul 188 c148_187 rfl ?_
              refine y_top 0 (by decide) ?_
              refine y_iload 190 c148_188 rfl rfl ?_
              refine y_iadd 191 c148_190 rfl ?_
              refine y_iaT 192 0 46 c148_191 rfl ka398 (by omega) hT12416 rfl (fun v12418 hv12418 gv12418 => ?_)
              have gv12418_ : m 398 (10 * 0 + r12383.toNat) = v12418 := by rw [show 10 * 0 + r12383.toNat = (0 + r12383).toNat by omega]; exact (((yup_na (by decide)).trans ((yup_na (by decide)).trans ((yup_na (by decide)).trans ((yup_na (by decide)).trans (hFi 398 _ rfl)))))).symm.trans hv12418
              have gmv12418_ := hG.2.2.2.1 r12383.toNat (by omega)
              refine y_iconst 193 c148_192 rfl ?_
              refine y_iadd 194 c148_193 rfl ?_
              refine y_iload 196 c148_194 rfl rfl ?_
              have es12420 : (yup (yup (yup (yup mi 406 (((10 * c) + r12383).toNat) (m 376 45)) 376 46 1) 407 r12383.toNat (m 376 45)) 376 46 1) 376 45 = m 376 45 := ((yup_nk (by decide)).trans ((yup_na (by decide)).trans ((yup_nk (by decide)).trans ((yup_na (by decide)).trans (hFi 376 45 rfl)))))
              have es12421 : (yup (yup (yup (yup mi 406 (((10 * c) + r12383).toNat) (m 376 45)) 376 46 1) 407 r12383.toNat (m 376 45)) 376 46 1) 376 18 = m 376 18 := ((yup_nk (by decide)).trans ((yup_na (by decide)).trans ((yup_nk (by decide)).trans ((yup_na (by decide)).trans (hFi 376 18 rfl)))))
              refine y_callUB 199 [.ref 376, yI (v12418 + 1), yI i] [] c148_196 rfl rfl rfl rfl rfl (ycanO km145 ko376) (t145 hT12416 (by omega) (by omega) (by omega)) (fun mq12419 nq12419 hq12419 => ?_)
              obtain ⟨rfl, hTq12419, hFq12419, hAq12419⟩ := hq12419
              have hF12422 := hF12417.tr hFq12419 wAm_wAn
              refine y_iinc 202 c148_199 rfl rfl rfl ?_
              refine y_goto 37 c148_202 rfl ?_
              exact ih (m 388 0 - (i + 1) : Int).toNat (by omega) (i + 1) _  _ (by omega) (by omega) hTq12419 hF12422 (((hAi.tr (AN.w (by omega) (by omega) (by omega))).tr (AN.w (by omega) (by omega) (by omega))).tr hAq12419) (GM.fr (GM.up (GM.up (GM.up (hgo r12383 _ (by omega) (by rw [show 10 * 0 + r12383.toNat = 0 + r12383.toNat by omega, ← hFi 397 (0 + r12383.toNat) rfl]; exact hr12383.2.2 (by omega)) hGi) (by decide)) (by decide)) (by decide)) hFq12419)
set_option maxRecDepth 100000 in
theorem t148b_0 {L : Nat} {xs : Nat → Int32} {d nn : Nat} {m : yM} {k : Int} (hT : Ty gT m) (hr : 1 ≤ m 376 45 ∧ m 376 45 ≤ 2000) (hn : m 376 18 = 0) (hG : GQ 0 m) (hko : 0 ≤ k ∧ k < m 390 0) (h7 : m 403 (1000 * 0 + 8 * k.toNat) = 7) {u c n : Int} (hu : 0 ≤ u ∧ u ≤ 47) (hc : c = m 403 (1000 * 0 + 8 * k.toNat + 5) / 16) (hna : n = m 403 (1000 * 0 + 8 * k.toNat + 5) % 16) : ∀ (km : Nat) (i : Int) (x6 : Option Value) (x7 : Option Value) (mi : yM), m 384 0 - i = km → 0 ≤ i ∧ i ≤ m 384 0 → Ty gT mi → Fr wAn m mi → AN m mi → GM 0 mi → YW (gZ L xs) 148 (d + 2) 208 [some (.ref 376), some (yI (0 + 8 * k)), some (yI u), some (yI c), some (yI n), some (yI i), x6, x7] [] mi nn (qU (fun m' n' => n' = nn ∧ Ty gT m' ∧ Fr wAn m m' ∧ AN m m' ∧ GM 0 m')) := by
  intro km
  induction km using Nat.strongRecOn with
  | ind km ih =>
    intro i x6 x7 mi hk hi hTi hFi hAi hGi
    have tb383 := hT.atp 383 0 0 6 rfl
    have tb384 := hT.atp 384 0 0 10 rfl
    have tb388 := hT.atp 388 0 0 12 rfl
    have tb390 := hT.atp 390 0 0 125 rfl
    have hw := hG.1.1 k.toNat (by omega)
    unfold OW at hw
    have hfx := hG.2.2.2.2.2.2.1 k.toNat (by omega)
    have g88 := hG.2.2.2.2.2.2.2.2.1
    have g90 := hG.2.2.2.2.2.2.2.2.2.2
    refine y_iload 210 c148_208 rfl rfl ?_
    refine y_aload 211 c148_210 rfl rfl rfl ?_
    refine y_getR 214 c148_211 rfl kf376_21 ?_
    refine y_aload 215 c148_214 rfl rfl rfl ?_
    refine y_getX 218 (m 376 18) c148_215 rfl kf376_18 (hFi 376 18 rfl) ?_
    refine y_top 0 (by omega) ?_
    refine y_iaX 219 (m 384 0) c148_218 rfl ka384 (by decide) (hFi 384 0 rfl) ?_
    refine y_icmp 328 222 c148_219 rfl rfl (yc_ge (by omega) (by omega)) (fun hb12423 => ?_) (fun hb12423 => ?_)
    · exact y_retU c148_328 ⟨rfl, hTi, hFi, hAi, hGi⟩
    · refine y_aload 223 c148_222 rfl rfl rfl ?_
      refine y_aload 224 c148_223 rfl rfl rfl ?_
      refine y_getR 227 c148_224 rfl kf376_43 ?_
      refine y_iconst 229 c148_227 rfl ?_
      refine y_iload 230 c148_229 rfl rfl ?_
      refine y_imul 231 c148_230 rfl ?_
      refine y_iload 233 c148_231 rfl rfl ?_
      refine y_iadd 234 c148_233 rfl ?_
      refine y_iaT 235 ((-2147483648)) 2147483647 c148_234 rfl ka406 (by omega) hTi rfl (fun v12424 hv12424 gv12424 => ?_)
      refine y_callP 238 [.ref 376, yI v12424] [] c148_235 rfl rfl rfl rfl rfl (ycanO km144 ko376) (t144 hTi (by omega)) (fun r12425 hr12425 => ?_)
      refine y_if 322 241 c148_238 rfl rfl (yz_eq (by omega)) (fun hb12426 => ?_) (fun hb12426 => ?_)
      · refine y_iinc 325 c148_322 rfl rfl rfl ?_
        refine y_goto 208 c148_325 rfl ?_
        exact ih (m 384 0 - (i + 1) : Int).toNat (by omega) (i + 1) _ _  _ (by omega) (by omega) hTi hFi hAi hGi
      · have hsz : m 397 (10 * 0 + i.toNat) = n := by have h0 := hGi k.toNat (by rw [hFi 390 0 rfl]; omega) (by rw [hFi 403 _ rfl]; exact h7) i.toNat (by rw [hFi 384 0 rfl]; omega) (by rw [hFi 403 _ rfl, show 10 * (m 403 (1000 * 0 + 8 * k.toNat + 5) / 16).toNat + i.toNat = ((10 * c) + i).toNat by omega, hv12424]; omega); rw [hFi 397 _ rfl, hFi 403 _ rfl] at h0; omega
        refine y_aload 242 c148_241 rfl rfl rfl ?_
        refine y_getR 245 c148_242 rfl kf376_35 ?_
        refine y_iconst 247 c148_245 rfl ?_
        refine y_aload 248 c148_247 rfl rfl rfl ?_
        refine y_getX 251 (m 376 18) c148_248 rfl kf376_18 (hFi 376 18 rfl) ?_
        refine y_top 0 (by omega) ?_
        refine y_imul 252 c148_251 rfl ?_
        refine y_top 0 (by decide) ?_
        refine y_iload 254 c148_252 rfl rfl ?_
        refine y_iadd 255 c148_254 rfl ?_
        refine y_iaT 256 0 46 c148_255 rfl ka398 (by omega) hTi rfl (fun v12427 hv12427 gv12427 => ?_)
        have gv12427_ : m 398 (10 * 0 + i.toNat) = v12427 := by rw [show 10 * 0 + i.toNat = (0 + i).toNat by omega]; exact ((hFi 398 _ rfl)).symm.trans hv12427
        have gmv12427_ := hG.2.2.2.1 i.toNat (by omega)
        refine y_istore 258 c148_256 rfl rfl ?_
        refine y_iconst 259 c148_258 rfl ?_
        refine y_istore 261 c148_259 rfl rfl ?_
        refine y_iload 263 c148_261 rfl rfl ?_
        refine y_iload 265 c148_263 rfl rfl ?_
        refine y_icmp 297 268 c148_265 rfl rfl (yc_ge (by omega) (by omega)) (fun hb12428 => ?_) (fun hb12428 => ?_)
        · refine y_aload 298 c148_297 rfl rfl rfl ?_
          refine y_getR 301 c148_298 rfl kf376_40 ?_
          refine y_iload 302 c148_301 rfl rfl ?_
          refine y_iconst 303 c148_302 rfl ?_
          refine y_iadd 304 c148_303 rfl ?_
          refine y_iaT 305 ((-2147483648)) 2147483647 c148_304 rfl ka403 (by omega) hTi rfl (fun v12429 hv12429 gv12429 => ?_)
          have gv12429_ : m 403 (1000 * 0 + 8 * k.toNat + 2) = v12429 := by rw [show 1000 * 0 + 8 * k.toNat + 2 = ((0 + 8 * k) + 2).toNat by omega]; exact ((hFi 403 _ rfl)).symm.trans hv12429
          refine y_if 322 308 c148_305 rfl rfl (yz_lt (by omega)) (fun hb12430 => ?_) (fun hb12430 => ?_)
          · refine y_iinc 325 c148_322 rfl rfl rfl ?_
            refine y_goto 208 c148_325 rfl ?_
            exact ih (m 384 0 - (i + 1) : Int).toNat (by omega) (i + 1) _ _  _ (by omega) (by omega) hTi hFi hAi hGi
          · refine y_aload 309 c148_308 rfl rfl rfl ?_
            refine y_aload 310 c148_309 rfl rfl rfl ?_
            refine y_getR 313 c148_310 rfl kf376_40 ?_
            refine y_iload 314 c148_313 rfl rfl ?_
            refine y_iconst 315 c148_314 rfl ?_
            refine y_iadd 316 c148_315 rfl ?_
            refine y_iaT 317 ((-2147483648)) 2147483647 c148_316 rfl ka403 (by omega) hTi rfl (fun v12431 hv12431 gv12431 => ?_)
            have gv12431_ : m 403 (1000 * 0 + 8 * k.toNat + 2) = v12431 := by rw [show 1000 * 0 + 8 * k.toNat + 2 = ((0 + 8 * k) + 2).toNat by omega]; exact ((hFi 403 _ rfl)).symm.trans hv12431
            refine y_iload 319 c148_317 rfl rfl ?_
            have es12433 : mi 376 45 = m 376 45 := (hFi 376 45 rfl)
            have es12434 : mi 376 18 = m 376 18 := (hFi 376 18 rfl)
            refine y_callUB 322 [.ref 376, yI v12431, yI v12427] [] c148_319 rfl rfl rfl rfl rfl (ycanO km146 ko376) (t146_0 hTi (by omega) (by omega) (by omega) (by omega)) (fun mq12432 nq12432 hq12432 => ?_)
            obtain ⟨rfl, hTq12432, hFq12432, hAq12432⟩ := hq12432
            have hF12435 := hFi.tr hFq12432 wAm_wAn
            refine y_iinc 325 c148_322 rfl rfl rfl ?_
            refine y_goto 208 c148_325 rfl ?_
            exact ih (m 384 0 - (i + 1) : Int).toNat (by omega) (i + 1) _ _  _ (by omega) (by omega) hTq12432 hF12435 (hAi.tr hAq12432) (GM.fr hGi hFq12432)
        · refine y_aload 269 c148_268 rfl rfl rfl ?_
          refine y_iload 271 c148_269 rfl rfl ?_
          refine y_iconst 272 c148_271 rfl ?_
          refine y_iadd 273 c148_272 rfl ?_
          refine y_iload 275 c148_273 rfl rfl ?_
          refine y_iadd 276 c148_275 rfl ?_
          refine y_aload 277 c148_276 rfl rfl rfl ?_
          refine y_getR 280 c148_277 rfl kf376_40 ?_
          refine y_iload 281 c148_280 rfl rfl ?_
          refine y_iconst 283 c148_281 rfl ?_
          refine y_iadd 284 c148_283 rfl ?_
          refine y_iload 286 c148_284 rfl rfl ?_
          refine y_iadd 287 c148_286 rfl ?_
          refine y_iaT 288 ((-2147483648)) 2147483647 c148_287 rfl ka403 (by omega) hTi rfl (fun v12436 hv12436 gv12436 => ?_)
          have gv12436_ : m 403 (1000 * 0 + 8 * k.toNat + 6) = v12436 := by rw [show 1000 * 0 + 8 * k.toNat + 6 = (((0 + 8 * k) + 6) + 0).toNat by omega]; exact ((hFi 403 _ rfl)).symm.trans hv12436
          have es12438 : mi 376 45 = m 376 45 := (hFi 376 45 rfl)
          have es12439 : mi 376 18 = m 376 18 := (hFi 376 18 rfl)
          refine y_callUB 291 [.ref 376, yI ((v12427 + 2) + 0), yI v12436] [] c148_288 rfl rfl rfl rfl rfl (ycanO km146 ko376) (t146_0 hTi (by omega) (by omega) (by omega) (by omega)) (fun mq12437 nq12437 hq12437 => ?_)
          obtain ⟨rfl, hTq12437, hFq12437, hAq12437⟩ := hq12437
          have hF12440 := hFi.tr hFq12437 wAm_wAn
          refine y_iincN 294 1 c148_291 rfl rfl (by decide) rfl ?_
          refine y_goto 261 c148_294 rfl ?_
          refine y_iload 263 c148_261 rfl rfl ?_
          refine y_iload 265 c148_263 rfl rfl ?_
          refine y_icmp 297 268 c148_265 rfl rfl (yc_ge (by omega) (by omega)) (fun hb12441 => ?_) (fun hb12441 => ?_)
          · refine y_aload 298 c148_297 rfl rfl rfl ?_
            refine y_getR 301 c148_298 rfl kf376_40 ?_
            refine y_iload 302 c148_301 rfl rfl ?_
            refine y_iconst 303 c148_302 rfl ?_
            refine y_iadd 304 c148_303 rfl ?_
            refine y_iaT 305 ((-2147483648)) 2147483647 c148_304 rfl ka403 (by omega) hTq12437 rfl (fun v12442 hv12442 gv12442 => ?_)
            have gv12442_ : m 403 (1000 * 0 + 8 * k.toNat + 2) = v12442 := by rw [show 1000 * 0 + 8 * k.toNat + 2 = ((0 + 8 * k) + 2).toNat by omega]; exact (((hFq12437 403 _ rfl).trans (hFi 403 _ rfl))).symm.trans hv12442
            refine y_if 322 308 c148_305 rfl rfl (yz_lt (by omega)) (fun hb12443 => ?_) (fun hb12443 => ?_)
            · refine y_iinc 325 c148_322 rfl rfl rfl ?_
              refine y_goto 208 c148_325 rfl ?_
              exact ih (m 384 0 - (i + 1) : Int).toNat (by omega) (i + 1) _ _  _ (by omega) (by omega) hTq12437 hF12440 (hAi.tr hAq12437) (GM.fr hGi hFq12437)
            · refine y_aload 309 c148_308 rfl rfl rfl ?_
              refine y_aload 310 c148_309 rfl rfl rfl ?_
              refine y_getR 313 c148_310 rfl kf376_40 ?_
              refine y_iload 314 c148_313 rfl rfl ?_
              refine y_iconst 315 c148_314 rfl ?_
              refine y_iadd 316 c148_315 rfl ?_
              refine y_iaT 317 ((-2147483648)) 2147483647 c148_316 rfl ka403 (by omega) hTq12437 rfl (fun v12444 hv12444 gv12444 => ?_)
              have gv12444_ : m 403 (1000 * 0 + 8 * k.toNat + 2) = v12444 := by rw [show 1000 * 0 + 8 * k.toNat + 2 = ((0 + 8 * k) + 2).toNat by omega]; exact (((hFq12437 403 _ rfl).trans (hFi 403 _ rfl))).symm.trans hv12444
              refine y_iload 319 c148_317 rfl rfl ?_
              have es12446 : mq12437 376 45 = m 376 45 := ((hFq12437 376 45 rfl).trans (hFi 376 45 rfl))
              have es12447 : mq12437 376 18 = m 376 18 := ((hFq12437 376 18 rfl).trans (hFi 376 18 rfl))
              refine y_callUB 322 [.ref 376, yI v12444, yI v12427] [] c148_319 rfl rfl rfl rfl rfl (ycanO km146 ko376) (t146_0 hTq12437 (by omega) (by omega) (by omega) (by omega)) (fun mq12445 nq12445 hq12445 => ?_)
              obtain ⟨rfl, hTq12445, hFq12445, hAq12445⟩ := hq12445
              have hF12448 := hF12440.tr hFq12445 wAm_wAn
              refine y_iinc 325 c148_322 rfl rfl rfl ?_
              refine y_goto 208 c148_325 rfl ?_
              exact ih (m 384 0 - (i + 1) : Int).toNat (by omega) (i + 1) _ _  _ (by omega) (by omega) hTq12445 hF12448 ((hAi.tr hAq12437).tr hAq12445) (GM.fr (GM.fr hGi hFq12437) hFq12445)
          · refine y_aload 269 c148_268 rfl rfl rfl ?_
            refine y_iload 271 c148_269 rfl rfl ?_
            refine y_iconst 272 c148_271 rfl ?_
            refine y_iadd 273 c148_272 rfl ?_
            refine y_iload 275 c148_273 rfl rfl ?_
            refine y_iadd 276 c148_275 rfl ?_
            refine y_aload 277 c148_276 rfl rfl rfl ?_
            refine y_getR 280 c148_277 rfl kf376_40 ?_
            refine y_iload 281 c148_280 rfl rfl ?_
            refine y_iconst 283 c148_281 rfl ?_
            refine y_iadd 284 c148_283 rfl ?_
            refine y_iload 286 c148_284 rfl rfl ?_
            refine y_iadd 287 c148_286 rfl ?_
            refine y_iaT 288 ((-2147483648)) 2147483647 c148_287 rfl ka403 (by omega) hTq12437 rfl (fun v12449 hv12449 gv12449 => ?_)
            have gv12449_ : m 403 (1000 * 0 + 8 * k.toNat + 7) = v12449 := by rw [show 1000 * 0 + 8 * k.toNat + 7 = (((0 + 8 * k) + 6) + 1).toNat by omega]; exact (((hFq12437 403 _ rfl).trans (hFi 403 _ rfl))).symm.trans hv12449
            have es12451 : mq12437 376 45 = m 376 45 := ((hFq12437 376 45 rfl).trans (hFi 376 45 rfl))
            have es12452 : mq12437 376 18 = m 376 18 := ((hFq12437 376 18 rfl).trans (hFi 376 18 rfl))
            refine y_callUB 291 [.ref 376, yI ((v12427 + 2) + 1), yI v12449] [] c148_288 rfl rfl rfl rfl rfl (ycanO km146 ko376) (t146_0 hTq12437 (by omega) (by omega) (by omega) (by omega)) (fun mq12450 nq12450 hq12450 => ?_)
            obtain ⟨rfl, hTq12450, hFq12450, hAq12450⟩ := hq12450
            have hF12453 := hF12440.tr hFq12450 wAm_wAn
            refine y_iincN 294 2 c148_291 rfl rfl (by decide) rfl ?_
            refine y_goto 261 c148_294 rfl ?_
            refine y_iload 263 c148_261 rfl rfl ?_
            refine y_iload 265 c148_263 rfl rfl ?_
            refine y_icmp 297 268 c148_265 rfl rfl (yc_ge (by omega) (by omega)) (fun hb12454 => ?_) (fun hb12454 => ?_)
            · refine y_aload 298 c148_297 rfl rfl rfl ?_
              refine y_getR 301 c148_298 rfl kf376_40 ?_
              refine y_iload 302 c148_301 rfl rfl ?_
              refine y_iconst 303 c148_302 rfl ?_
              refine y_iadd 304 c148_303 rfl ?_
              refine y_iaT 305 ((-2147483648)) 2147483647 c148_304 rfl ka403 (by omega) hTq12450 rfl (fun v12455 hv12455 gv12455 => ?_)
              have gv12455_ : m 403 (1000 * 0 + 8 * k.toNat + 2) = v12455 := by rw [show 1000 * 0 + 8 * k.toNat + 2 = ((0 + 8 * k) + 2).toNat by omega]; exact (((hFq12450 403 _ rfl).trans ((hFq12437 403 _ rfl).trans (hFi 403 _ rfl)))).symm.trans hv12455
              refine y_if 322 308 c148_305 rfl rfl (yz_lt (by omega)) (fun hb12456 => ?_) (fun hb12456 => ?_)
              · refine y_iinc 325 c148_322 rfl rfl rfl ?_
                refine y_goto 208 c148_325 rfl ?_
                exact ih (m 384 0 - (i + 1) : Int).toNat (by omega) (i + 1) _ _  _ (by omega) (by omega) hTq12450 hF12453 ((hAi.tr hAq12437).tr hAq12450) (GM.fr (GM.fr hGi hFq12437) hFq12450)
              · refine y_aload 309 c148_308 rfl rfl rfl ?_
                refine y_aload 310 c148_309 rfl rfl rfl ?_
                refine y_getR 313 c148_310 rfl kf376_40 ?_
                refine y_iload 314 c148_313 rfl rfl ?_
                refine y_iconst 315 c148_314 rfl ?_
                refine y_iadd 316 c148_315 rfl ?_
                refine y_iaT 317 ((-2147483648)) 2147483647 c148_316 rfl ka403 (by omega) hTq12450 rfl (fun v12457 hv12457 gv12457 => ?_)
                have gv12457_ : m 403 (1000 * 0 + 8 * k.toNat + 2) = v12457 := by rw [show 1000 * 0 + 8 * k.toNat + 2 = ((0 + 8 * k) + 2).toNat by omega]; exact (((hFq12450 403 _ rfl).trans ((hFq12437 403 _ rfl).trans (hFi 403 _ rfl)))).symm.trans hv12457
                refine y_iload 319 c148_317 rfl rfl ?_
                have es12459 : mq12450 376 45 = m 376 45 := ((hFq12450 376 45 rfl).trans ((hFq12437 376 45 rfl).trans (hFi 376 45 rfl)))
                have es12460 : mq12450 376 18 = m 376 18 := ((hFq12450 376 18 rfl).trans ((hFq12437 376 18 rfl).trans (hFi 376 18 rfl)))
                refine y_callUB 322 [.ref 376, yI v12457, yI v12427] [] c148_319 rfl rfl rfl rfl rfl (ycanO km146 ko376) (t146_0 hTq12450 (by omega) (by omega) (by omega) (by omega)) (fun mq12458 nq12458 hq12458 => ?_)
                obtain ⟨rfl, hTq12458, hFq12458, hAq12458⟩ := hq12458
                have hF12461 := hF12453.tr hFq12458 wAm_wAn
                refine y_iinc 325 c148_322 rfl rfl rfl ?_
                refine y_goto 208 c148_325 rfl ?_
                exact ih (m 384 0 - (i + 1) : Int).toNat (by omega) (i + 1) _ _  _ (by omega) (by omega) hTq12458 hF12461 (((hAi.tr hAq12437).tr hAq12450).tr hAq12458) (GM.fr (GM.fr (GM.fr hGi hFq12437) hFq12450) hFq12458)
            · exfalso; omega
set_option maxRecDepth 100000 in
theorem t148_0 {L : Nat} {xs : Nat → Int32} {d nn : Nat} {m : yM} {k : Int} (hT : Ty gT m) (hr : 1 ≤ m 376 45 ∧ m 376 45 ≤ 2000) (hn : m 376 18 = 0) (hG : GQ 0 m) (hko : 0 ≤ k ∧ k < m 390 0) (h7 : m 403 (1000 * 0 + 8 * k.toNat) = 7) (hM : GM 0 m) : YC (gZ L xs) (d + 2) 148 [.ref 376, yI (0 + 8 * k)] m nn (qU (fun m' n' => n' = nn ∧ Ty gT m' ∧ Fr wAn m m' ∧ AN m m' ∧ GM 0 m')) := by
  have tb383 := hT.atp 383 0 0 6 rfl
  have tb384 := hT.atp 384 0 0 10 rfl
  have tb388 := hT.atp 388 0 0 12 rfl
  have tb390 := hT.atp 390 0 0 125 rfl
  have hw := hG.1.1 k.toNat (by omega)
  unfold OW at hw
  have hfx := hG.2.2.2.2.2.2.1 k.toNat (by omega)
  have g88 := hG.2.2.2.2.2.2.2.2.1
  have g90 := hG.2.2.2.2.2.2.2.2.2.2
  refine YC.mkB [some (.ref 376), some (yI (0 + 8 * k)), none, none, none, none, none, none] kn148 rfl rfl ?_
  refine y_aload 1 c148_0 rfl rfl rfl ?_
  refine y_getR 4 c148_1 rfl kf376_40 ?_
  refine y_iload 5 c148_4 rfl rfl ?_
  refine y_iconst 6 c148_5 rfl ?_
  refine y_iadd 7 c148_6 rfl ?_
  refine y_iaT 8 ((-2147483648)) 2147483647 c148_7 rfl ka403 (by omega) hT rfl (fun v12462 hv12462 gv12462 => ?_)
  have gv12462_ : m 403 (1000 * 0 + 8 * k.toNat + 3) = v12462 := by rw [show 1000 * 0 + 8 * k.toNat + 3 = ((0 + 8 * k) + 3).toNat by omega]; exact (rfl).symm.trans hv12462
  refine y_istore 9 c148_8 rfl rfl ?_
  refine y_aload 10 c148_9 rfl rfl rfl ?_
  refine y_getR 13 c148_10 rfl kf376_40 ?_
  refine y_iload 14 c148_13 rfl rfl ?_
  refine y_iconst 15 c148_14 rfl ?_
  refine y_iadd 16 c148_15 rfl ?_
  refine y_iaT 17 ((-2147483648)) 2147483647 c148_16 rfl ka403 (by omega) hT rfl (fun v12463 hv12463 gv12463 => ?_)
  have gv12463_ : m 403 (1000 * 0 + 8 * k.toNat + 5) = v12463 := by rw [show 1000 * 0 + 8 * k.toNat + 5 = ((0 + 8 * k) + 5).toNat by omega]; exact (rfl).symm.trans hv12463
  refine y_iconst 19 c148_17 rfl ?_
  refine y_idiv 20 c148_19 rfl (by omega) (by omega) ?_
  refine y_istore 21 c148_20 rfl rfl ?_
  refine y_aload 22 c148_21 rfl rfl rfl ?_
  refine y_getR 25 c148_22 rfl kf376_40 ?_
  refine y_iload 26 c148_25 rfl rfl ?_
  refine y_iconst 27 c148_26 rfl ?_
  refine y_iadd 28 c148_27 rfl ?_
  refine y_iaT 29 ((-2147483648)) 2147483647 c148_28 rfl ka403 (by omega) hT rfl (fun v12464 hv12464 gv12464 => ?_)
  have gv12464_ : m 403 (1000 * 0 + 8 * k.toNat + 5) = v12464 := by rw [show 1000 * 0 + 8 * k.toNat + 5 = ((0 + 8 * k) + 5).toNat by omega]; exact (rfl).symm.trans hv12464
  refine y_iconst 31 c148_29 rfl ?_
  refine y_irem 32 c148_31 rfl (by omega) (by omega) ?_
  refine y_istore 34 c148_32 rfl rfl ?_
  refine y_iconst 35 c148_34 rfl ?_
  refine y_istore 37 c148_35 rfl rfl ?_
  refine t148a_0 hT hr hn hG hko h7 (u := v12462) (c := v12463 / 16) (n := v12464 % 16) (by omega) (by omega) (by omega) (fun y5 y6 mi j1 j2 j3 j4 => ?_) (m 388 0 - 0).toNat 0 _ m (by omega) (by omega) hT Fr.rf AN.rf hM
  refine y_iconst 206 c148_205 rfl ?_
  refine y_istore 208 c148_206 rfl rfl ?_
  exact t148b_0 hT hr hn hG hko h7 (by omega) (by omega) (by omega) (m 384 0 - 0).toNat 0 _ _ mi (by omega) (by omega) j1 j2 j3 j4
set_option maxRecDepth 100000 in
theorem t148a_1 {L : Nat} {xs : Nat → Int32} {d nn : Nat} {m : yM} {k : Int} (hT : Ty gT m) (hr : 1 ≤ m 376 45 ∧ m 376 45 ≤ 2000) (hn : m 376 18 = 1) (hG : GQ 1 m) (hko : 0 ≤ k ∧ k < m 390 1) (h7 : m 403 (1000 * 1 + 8 * k.toNat) = 7) {u c n : Int} (hu : 0 ≤ u ∧ u ≤ 47) (hc : c = m 403 (1000 * 1 + 8 * k.toNat + 5) / 16) (hna : n = m 403 (1000 * 1 + 8 * k.toNat + 5) % 16) (ho : ∀ (x5 x6 : Option Value) (mi : yM), Ty gT mi → Fr wAn m mi → AN m mi → GM 1 mi → YW (gZ L xs) 148 (d + 2) 205 [some (.ref 376), some (yI (1000 + 8 * k)), some (yI u), some (yI c), some (yI n), x5, x6, none] [] mi nn (qU (fun m' n' => n' = nn ∧ Ty gT m' ∧ Fr wAn m m' ∧ AN m m' ∧ GM 1 m'))) : ∀ (km : Nat) (i : Int) (x6 : Option Value) (mi : yM), m 388 1 - i = km → 0 ≤ i ∧ i ≤ m 388 1 → Ty gT mi → Fr wAn m mi → AN m mi → GM 1 mi → YW (gZ L xs) 148 (d + 2) 37 [some (.ref 376), some (yI (1000 + 8 * k)), some (yI u), some (yI c), some (yI n), some (yI i), x6, none] [] mi nn (qU (fun m' n' => n' = nn ∧ Ty gT m' ∧ Fr wAn m m' ∧ AN m m' ∧ GM 1 m')) := by
  intro km
  induction km using Nat.strongRecOn with
  | ind km ih =>
    intro i x6 mi hk hi hTi hFi hAi hGi
    have tb383 := hT.atp 383 1 0 6 rfl
    have tb384 := hT.atp 384 1 0 10 rfl
    have tb388 := hT.atp 388 1 0 12 rfl
    have tb390 := hT.atp 390 1 0 125 rfl
    have hw := hG.1.1 k.toNat (by omega)
    unfold OW at hw
    have hfx := hG.2.2.2.2.2.2.1 k.toNat (by omega)
    have g88 := hG.2.2.2.2.2.2.2.2.1
    have g90 := hG.2.2.2.2.2.2.2.2.2.2
    have hgo : ∀ (r v : Int), 0 ≤ r ∧ r ≤ 9 → m 397 (10 * 1 + r.toNat) = n → GM 1 mi → GM 1 (yup mi 406 (10 * c + r).toNat v) := by
      intro r v hr9 hs hg
      have e5 : mi 403 (1000 * 1 + 8 * k.toNat + 5) = m 403 (1000 * 1 + 8 * k.toNat + 5) := hFi 403 _ rfl
      have hgm : GQ 1 mi := hG.fr hT (by decide) (fun a q ha => hFi a q (wAn_G a q ha))
      have h := GM.goes (v := v) (i := r.toNat) hg hgm.1 (o := k.toNat) (by rw [hFi 390 1 rfl]; omega) (by rw [hFi 403 _ rfl]; exact h7) (by rw [hFi 384 1 rfl]; omega) (by omega) (by rw [hFi 397 _ rfl, e5]; omega)
      rw [e5, show 10 * (m 403 (1000 * 1 + 8 * k.toNat + 5) / 16).toNat + r.toNat = (10 * c + r).toNat by omega] at h
      exact h
    refine y_iload 39 c148_37 rfl rfl ?_
    refine y_aload 40 c148_39 rfl rfl rfl ?_
    refine y_getR 43 c148_40 rfl kf376_25 ?_
    refine y_aload 44 c148_43 rfl rfl rfl ?_
    refine y_getX 47 (m 376 18) c148_44 rfl kf376_18 (hFi 376 18 rfl) ?_
    refine y_top 1 (by omega) ?_
    refine y_iaX 48 (m 388 1) c148_47 rfl ka388 (by decide) (hFi 388 1 rfl) ?_
    refine y_icmp 205 51 c148_48 rfl rfl (yc_ge (by omega) (by omega)) (fun hb12551 => ?_) (fun hb12551 => ?_)
    · exact ho _ _ _ hTi hFi hAi hGi
    · refine y_aload 52 c148_51 rfl rfl rfl ?_
      refine y_aload 53 c148_52 rfl rfl rfl ?_
      refine y_getR 56 c148_53 rfl kf376_41 ?_
      refine y_iconst 58 c148_56 rfl ?_
      refine y_iload 59 c148_58 rfl rfl ?_
      refine y_imul 60 c148_59 rfl ?_
      refine y_iload 62 c148_60 rfl rfl ?_
      refine y_iadd 63 c148_62 rfl ?_
      refine y_iaT 64 ((-2147483648)) 2147483647 c148_63 rfl ka404 (by omega) hTi rfl (fun v12552 hv12552 gv12552 => ?_)
      refine y_callP 67 [.ref 376, yI v12552] [] c148_64 rfl rfl rfl rfl rfl (ycanO km144 ko376) (t144 hTi (by omega)) (fun r12553 hr12553 => ?_)
      refine y_if 106 70 c148_67 rfl rfl (yz_eq (by omega)) (fun hb12554 => ?_) (fun hb12554 => ?_)
      · refine y_iconst 107 c148_106 rfl ?_
        refine y_istore 109 c148_107 rfl rfl ?_
        refine y_iload 111 c148_109 rfl rfl ?_
        refine y_if 199 114 c148_111 rfl rfl (yz_lt (by omega)) (fun hb12555 => ?_) (fun hb12555 => ?_)
        · refine y_iinc 202 c148_199 rfl rfl rfl ?_
          refine y_goto 37 c148_202 rfl ?_
          exact ih (m 388 1 - (i + 1) : Int).toNat (by omega) (i + 1) _  _ (by omega) (by omega) hTi hFi hAi hGi
        · exfalso; omega
      · refine y_aload 71 c148_70 rfl rfl rfl ?_
        refine y_aload 72 c148_71 rfl rfl rfl ?_
        refine y_getX 75 (m 376 18) c148_72 rfl kf376_18 (hFi 376 18 rfl) ?_
        refine y_top 1 (by omega) ?_
        refine y_aload 76 c148_75 rfl rfl rfl ?_
        refine y_getR 79 c148_76 rfl kf376_37 ?_
        refine y_iconst 81 c148_79 rfl ?_
        refine y_aload 82 c148_81 rfl rfl rfl ?_
        refine y_getX 85 (m 376 18) c148_82 rfl kf376_18 (hFi 376 18 rfl) ?_
        refine y_top 1 (by omega) ?_
        refine y_imul 86 c148_85 rfl ?_
        refine y_top 12 (by decide) ?_
        refine y_iload 88 c148_86 rfl rfl ?_
        refine y_iadd 89 c148_88 rfl ?_
        refine y_iaT 90 ((-2147483648)) 2147483647 c148_89 rfl ka400 (by omega) hTi rfl (fun v12556 hv12556 gv12556 => ?_)
        have gv12556_ : -1 ≤ v12556 ∧ v12556 < m 383 1 := by have h0 := hG.2.2.2.2.2.1 i.toNat (by omega); rw [show 12 * 1 + i.toNat = (12 + i).toNat by omega, ← show _ = m 400 (12 + i).toNat from (hFi 400 _ rfl), hv12556] at h0; exact h0
        refine y_aload 91 c148_90 rfl rfl rfl ?_
        refine y_getR 94 c148_91 rfl kf376_40 ?_
        refine y_iload 95 c148_94 rfl rfl ?_
        refine y_iconst 96 c148_95 rfl ?_
        refine y_iadd 97 c148_96 rfl ?_
        refine y_iaT 98 ((-2147483648)) 2147483647 c148_97 rfl ka403 (by omega) hTi rfl (fun v12557 hv12557 gv12557 => ?_)
        have gv12557_ : m 403 (1000 * 1 + 8 * k.toNat + 4) = v12557 := by rw [show 1000 * 1 + 8 * k.toNat + 4 = ((1000 + 8 * k) + 4).toNat by omega]; exact ((hFi 403 _ rfl)).symm.trans hv12557
        refine y_iload 100 c148_98 rfl rfl ?_
        have es12558 : mi 383 1 = m 383 1 := (hFi 383 1 rfl)
        have es12559 : mi 384 1 = m 384 1 := (hFi 384 1 rfl)
        refine y_callP 103 [.ref 376, yI 1, yI v12556, yI v12557, yI n] [] c148_100 rfl rfl rfl rfl rfl (ycanO km142 ko376) (t142_1 hTi (by rw [show mi 383 1 = m 383 1 from (hFi 383 1 rfl)]; exact hG.2.2.2.2.1.fr (fun q => (hFi 392 q rfl))) (by omega) (by omega) (by omega)) (fun r12560 hr12560 => ?_)
        refine y_goto 107 c148_103 rfl ?_
        refine y_istore 109 c148_107 rfl rfl ?_
        refine y_iload 111 c148_109 rfl rfl ?_
        refine y_if 199 114 c148_111 rfl rfl (yz_lt (by omega)) (fun hb12561 => ?_) (fun hb12561 => ?_)
        · refine y_iinc 202 c148_199 rfl rfl rfl ?_
          refine y_goto 37 c148_202 rfl ?_
          exact ih (m 388 1 - (i + 1) : Int).toNat (by omega) (i + 1) _  _ (by omega) (by omega) hTi hFi hAi hGi
        · refine y_aload 115 c148_114 rfl rfl rfl ?_
          refine y_getR 118 c148_115 rfl kf376_43 ?_
          refine y_iconst 120 c148_118 rfl ?_
          refine y_iload 121 c148_120 rfl rfl ?_
          refine y_imul 122 c148_121 rfl ?_
          refine y_iload 124 c148_122 rfl rfl ?_
          refine y_iadd 125 c148_124 rfl ?_
          refine y_iaT 126 ((-2147483648)) 2147483647 c148_125 rfl ka406 (by omega) hTi rfl (fun v12562 hv12562 gv12562 => ?_)
          refine y_if 150 129 c148_126 rfl rfl (yz_ge (by omega)) (fun hb12563 => ?_) (fun hb12563 => ?_)
          · refine y_aload 151 c148_150 rfl rfl rfl ?_
            refine y_getR 154 c148_151 rfl kf376_44 ?_
            refine y_iload 156 c148_154 rfl rfl ?_
            refine y_iaT 157 ((-2147483648)) 2147483647 c148_156 rfl ka407 (by omega) hTi rfl (fun v12564 hv12564 gv12564 => ?_)
            refine y_if 176 160 c148_157 rfl rfl (yz_ge (by omega)) (fun hb12565 => ?_) (fun hb12565 => ?_)
            · refine y_aload 177 c148_176 rfl rfl rfl ?_
              refine y_aload 178 c148_177 rfl rfl rfl ?_
              refine y_getR 181 c148_178 rfl kf376_35 ?_
              refine y_iconst 183 c148_181 rfl ?_
              refine y_aload 184 c148_183 rfl rfl rfl ?_
              refine y_getX 187 (m 376 18) c148_184 rfl kf376_18 (hFi 376 18 rfl) ?_
              refine y_top 1 (by omega) ?_
              refine y_imul 188 c148_187 rfl ?_
              refine y_top 10 (by decide) ?_
              refine y_iload 190 c148_188 rfl rfl ?_
              refine y_iadd 191 c148_190 rfl ?_
              refine y_iaT 192 0 46 c148_191 rfl ka398 (by omega) hTi rfl (fun v12566 hv12566 gv12566 => ?_)
              have gv12566_ : m 398 (10 * 1 + r12560.toNat) = v12566 := by rw [show 10 * 1 + r12560.toNat = (10 + r12560).toNat by omega]; exact ((hFi 398 _ rfl)).symm.trans hv12566
              have gmv12566_ := hG.2.2.2.1 r12560.toNat (by omega)
              refine y_iconst 193 c148_192 rfl ?_
              refine y_iadd 194 c148_193 rfl ?_
              refine y_iload 196 c148_194 rfl rfl ?_
              have es12568 : mi 376 45 = m 376 45 := (hFi 376 45 rfl)
              have es12569 : mi 376 18 = m 376 18 := (hFi 376 18 rfl)
              refine y_callUB 199 [.ref 376, yI (v12566 + 1), yI i] [] c148_196 rfl rfl rfl rfl rfl (ycanO km145 ko376) (t145 hTi (by omega) (by omega) (by omega)) (fun mq12567 nq12567 hq12567 => ?_)
              obtain ⟨rfl, hTq12567, hFq12567, hAq12567⟩ := hq12567
              have hF12570 := hFi.tr hFq12567 wAm_wAn
              refine y_iinc 202 c148_199 rfl rfl rfl ?_
              refine y_goto 37 c148_202 rfl ?_
              exact ih (m 388 1 - (i + 1) : Int).toNat (by omega) (i + 1) _  _ (by omega) (by omega) hTq12567 hF12570 (hAi.tr hAq12567) (GM.fr hGi hFq12567)
            · refine y_aload 161 c148_160 rfl rfl rfl ?_
              refine y_getR 164 c148_161 rfl kf376_44 ?_
              refine y_iload 166 c148_164 rfl rfl ?_
              refine y_aload 167 c148_166 rfl rfl rfl ?_
              refine y_getX 170 (m 376 45) c148_167 rfl kf376_45 (hFi 376 45 rfl) ?_
              refine y_iastore 171 c148_170 rfl ka407 (by omega) (y_nar0 _) ?_
              have hT12571 := hTi.up 407 r12560.toNat (m 376 45) ((-2147483648)) 2147483647 rfl (by omega)
              have hF12572 := hFi.up 407 r12560.toNat (m 376 45) rfl
              refine y_aload 172 c148_171 rfl rfl rfl ?_
              refine y_iconst 173 c148_172 rfl ?_
              refine y_putI 176 c148_173 rfl kf376_46 (y_fit1 (by omega)) ?_
              have hT12573 := hT12571.up 376 46 1 0 1 rfl (by omega)
              have hF12574 := hF12572.up 376 46 1 rfl
              refine y_aload 177 c148_176 rfl rfl rfl ?_
              refine y_aload 178 c148_177 rfl rfl rfl ?_
              refine y_getR 181 c148_178 rfl kf376_35 ?_
              refine y_iconst 183 c148_181 rfl ?_
              refine y_aload 184 c148_183 rfl rfl rfl ?_
              refine y_getX 187 (m 376 18) c148_184 rfl kf376_18 ((yup_nk (by decide)).trans ((yup_na (by decide)).trans (hFi 376 18 rfl))) ?_
              refine y_top 1 (by omega) ?_
              refine y_imul 188 c148_187 rfl ?_
              refine y_top 10 (by decide) ?_
              refine y_iload 190 c148_188 rfl rfl ?_
              refine y_iadd 191 c148_190 rfl ?_
              refine y_iaT 192 0 46 c148_191 rfl ka398 (by omega) hT12573 rfl (fun v12575 hv12575 gv12575 => ?_)
              have gv12575_ : m 398 (10 * 1 + r12560.toNat) = v12575 := by rw [show 10 * 1 + r12560.toNat = (10 + r12560).toNat by omega]; exact (((yup_na (by decide)).trans ((yup_na (by decide)).trans (hFi 398 _ rfl)))).symm.trans hv12575
              have gmv12575_ := hG.2.2.2.1 r12560.toNat (by omega)
              refine y_iconst 193 c148_192 rfl ?_
              refine y_iadd 194 c148_193 rfl ?_
              refine y_iload 196 c148_194 rfl rfl ?_
              have es12577 : (yup (yup mi 407 r12560.toNat (m 376 45)) 376 46 1) 376 45 = m 376 45 := ((yup_nk (by decide)).trans ((yup_na (by decide)).trans (hFi 376 45 rfl)))
              have es12578 : (yup (yup mi 407 r12560.toNat (m 376 45)) 376 46 1) 376 18 = m 376 18 := ((yup_nk (by decide)).trans ((yup_na (by decide)).trans (hFi 376 18 rfl)))
              refine y_callUB 199 [.ref 376, yI (v12575 + 1), yI i] [] c148_196 rfl rfl rfl rfl rfl (ycanO km145 ko376) (t145 hT12573 (by omega) (by omega) (by omega)) (fun mq12576 nq12576 hq12576 => ?_)
              obtain ⟨rfl, hTq12576, hFq12576, hAq12576⟩ := hq12576
              have hF12579 := hF12574.tr hFq12576 wAm_wAn
              refine y_iinc 202 c148_199 rfl rfl rfl ?_
              refine y_goto 37 c148_202 rfl ?_
              exact ih (m 388 1 - (i + 1) : Int).toNat (by omega) (i + 1) _  _ (by omega) (by omega) hTq12576 hF12579 ((hAi.tr (AN.w (by omega) (by omega) (by omega))).tr hAq12576) (GM.fr (GM.up (GM.up hGi (by decide)) (by decide)) hFq12576)
          · refine y_aload 130 c148_129 rfl rfl rfl ?_
            refine y_getR 133 c148_130 rfl kf376_43 ?_
            refine y_iconst 135 c148_133 rfl ?_
            refine y_iload 136 c148_135 rfl rfl ?_
            refine y_imul 137 c148_136 rfl ?_
            refine y_iload 139 c148_137 rfl rfl ?_
            refine y_iadd 140 c148_139 rfl ?_
            refine y_aload 141 c148_140 rfl rfl rfl ?_
            refine y_getX 144 (m 376 45) c148_141 rfl kf376_45 (hFi 376 45 rfl) ?_
            refine y_iastore 145 c148_144 rfl ka406 (by omega) (y_nar0 _) ?_
            have hT12580 := hTi.up 406 (((10 * c) + r12560).toNat) (m 376 45) ((-2147483648)) 2147483647 rfl (by omega)
            have hF12581 := hFi.up 406 (((10 * c) + r12560).toNat) (m 376 45) rfl
            refine y_aload 146 c148_145 rfl rfl rfl ?_
            refine y_iconst 147 c148_146 rfl ?_
            refine y_putI 150 c148_147 rfl kf376_46 (y_fit1 (by omega)) ?_
            have hT12582 := hT12580.up 376 46 1 0 1 rfl (by omega)
            have hF12583 := hF12581.up 376 46 1 rfl
            refine y_aload 151 c148_150 rfl rfl rfl ?_
            refine y_getR 154 c148_151 rfl kf376_44 ?_
            refine y_iload 156 c148_154 rfl rfl ?_
            refine y_iaT 157 ((-2147483648)) 2147483647 c148_156 rfl ka407 (by omega) hT12582 rfl (fun v12584 hv12584 gv12584 => ?_)
            refine y_if 176 160 c148_157 rfl rfl (yz_ge (by omega)) (fun hb12585 => ?_) (fun hb12585 => ?_)
            · refine y_aload 177 c148_176 rfl rfl rfl ?_
              refine y_aload 178 c148_177 rfl rfl rfl ?_
              refine y_getR 181 c148_178 rfl kf376_35 ?_
              refine y_iconst 183 c148_181 rfl ?_
              refine y_aload 184 c148_183 rfl rfl rfl ?_
              refine y_getX 187 (m 376 18) c148_184 rfl kf376_18 ((yup_nk (by decide)).trans ((yup_na (by decide)).trans (hFi 376 18 rfl))) ?_
              refine y_top 1 (by omega) ?_
              refine y_imul 188 c148_187 rfl ?_
              refine y_top 10 (by decide) ?_
              refine y_iload 190 c148_188 rfl rfl ?_
              refine y_iadd 191 c148_190 rfl ?_
              refine y_iaT 192 0 46 c148_191 rfl ka398 (by omega) hT12582 rfl (fun v12586 hv12586 gv12586 => ?_)
              have gv12586_ : m 398 (10 * 1 + r12560.toNat) = v12586 := by rw [show 10 * 1 + r12560.toNat = (10 + r12560).toNat by omega]; exact (((yup_na (by decide)).trans ((yup_na (by decide)).trans (hFi 398 _ rfl)))).symm.trans hv12586
              have gmv12586_ := hG.2.2.2.1 r12560.toNat (by omega)
              refine y_iconst 193 c148_192 rfl ?_
              refine y_iadd 194 c148_193 rfl ?_
              refine y_iload 196 c148_194 rfl rfl ?_
              have es12588 : (yup (yup mi 406 (((10 * c) + r12560).toNat) (m 376 45)) 376 46 1) 376 45 = m 376 45 := ((yup_nk (by decide)).trans ((yup_na (by decide)).trans (hFi 376 45 rfl)))
              have es12589 : (yup (yup mi 406 (((10 * c) + r12560).toNat) (m 376 45)) 376 46 1) 376 18 = m 376 18 := ((yup_nk (by decide)).trans ((yup_na (by decide)).trans (hFi 376 18 rfl)))
              refine y_callUB 199 [.ref 376, yI (v12586 + 1), yI i] [] c148_196 rfl rfl rfl rfl rfl (ycanO km145 ko376) (t145 hT12582 (by omega) (by omega) (by omega)) (fun mq12587 nq12587 hq12587 => ?_)
              obtain ⟨rfl, hTq12587, hFq12587, hAq12587⟩ := hq12587
              have hF12590 := hF12583.tr hFq12587 wAm_wAn
              refine y_iinc 202 c148_199 rfl rfl rfl ?_
              refine y_goto 37 c148_202 rfl ?_
              exact ih (m 388 1 - (i + 1) : Int).toNat (by omega) (i + 1) _  _ (by omega) (by omega) hTq12587 hF12590 ((hAi.tr (AN.w (by omega) (by omega) (by omega))).tr hAq12587) (GM.fr (GM.up (hgo r12560 _ (by omega) (by rw [show 10 * 1 + r12560.toNat = 10 + r12560.toNat by omega, ← hFi 397 (10 + r12560.toNat) rfl]; exact hr12560.2.2 (by omega)) hGi) (by decide)) hFq12587)
            · refine y_aload 161 c148_160 rfl rfl rfl ?_
              refine y_getR 164 c148_161 rfl kf376_44 ?_
              refine y_iload 166 c148_164 rfl rfl ?_
              refine y_aload 167 c148_166 rfl rfl rfl ?_
              refine y_getX 170 (m 376 45) c148_167 rfl kf376_45 ((yup_nk (by decide)).trans ((yup_na (by decide)).trans (hFi 376 45 rfl))) ?_
              refine y_iastore 171 c148_170 rfl ka407 (by omega) (y_nar0 _) ?_
              have hT12591 := hT12582.up 407 r12560.toNat (m 376 45) ((-2147483648)) 2147483647 rfl (by omega)
              have hF12592 := hF12583.up 407 r12560.toNat (m 376 45) rfl
              refine y_aload 172 c148_171 rfl rfl rfl ?_
              refine y_iconst 173 c148_172 rfl ?_
              refine y_putI 176 c148_173 rfl kf376_46 (y_fit1 (by omega)) ?_
              have hT12593 := hT12591.up 376 46 1 0 1 rfl (by omega)
              have hF12594 := hF12592.up 376 46 1 rfl
              refine y_aload 177 c148_176 rfl rfl rfl ?_
              refine y_aload 178 c148_177 rfl rfl rfl ?_
              refine y_getR 181 c148_178 rfl kf376_35 ?_
              refine y_iconst 183 c148_181 rfl ?_
              refine y_aload 184 c148_183 rfl rfl rfl ?_
              refine y_getX 187 (m 376 18) c148_184 rfl kf376_18 ((yup_nk (by decide)).trans ((yup_na (by decide)).trans ((yup_nk (by decide)).trans ((yup_na (by decide)).trans (hFi 376 18 rfl))))) ?_
              refine y_top 1 (by omega) ?_
              refine y_imul 188 c148_187 rfl ?_
              refine y_top 10 (by decide) ?_
              refine y_iload 190 c148_188 rfl rfl ?_
              refine y_iadd 191 c148_190 rfl ?_
              refine y_iaT 192 0 46 c148_191 rfl ka398 (by omega) hT12593 rfl (fun v12595 hv12595 gv12595 => ?_)
              have gv12595_ : m 398 (10 * 1 + r12560.toNat) = v12595 := by rw [show 10 * 1 + r12560.toNat = (10 + r12560).toNat by omega]; exact (((yup_na (by decide)).trans ((yup_na (by decide)).trans ((yup_na (by decide)).trans ((yup_na (by decide)).trans (hFi 398 _ rfl)))))).symm.trans hv12595
              have gmv12595_ := hG.2.2.2.1 r12560.toNat (by omega)
              refine y_iconst 193 c148_192 rfl ?_
              refine y_iadd 194 c148_193 rfl ?_
              refine y_iload 196 c148_194 rfl rfl ?_
              have es12597 : (yup (yup (yup (yup mi 406 (((10 * c) + r12560).toNat) (m 376 45)) 376 46 1) 407 r12560.toNat (m 376 45)) 376 46 1) 376 45 = m 376 45 := ((yup_nk (by decide)).trans ((yup_na (by decide)).trans ((yup_nk (by decide)).trans ((yup_na (by decide)).trans (hFi 376 45 rfl)))))
              have es12598 : (yup (yup (yup (yup mi 406 (((10 * c) + r12560).toNat) (m 376 45)) 376 46 1) 407 r12560.toNat (m 376 45)) 376 46 1) 376 18 = m 376 18 := ((yup_nk (by decide)).trans ((yup_na (by decide)).trans ((yup_nk (by decide)).trans ((yup_na (by decide)).trans (hFi 376 18 rfl)))))
              refine y_callUB 199 [.ref 376, yI (v12595 + 1), yI i] [] c148_196 rfl rfl rfl rfl rfl (ycanO km145 ko376) (t145 hT12593 (by omega) (by omega) (by omega)) (fun mq12596 nq12596 hq12596 => ?_)
              obtain ⟨rfl, hTq12596, hFq12596, hAq12596⟩ := hq12596
              have hF12599 := hF12594.tr hFq12596 wAm_wAn
              refine y_iinc 202 c148_199 rfl rfl rfl ?_
              refine y_goto 37 c148_202 rfl ?_
              exact ih (m 388 1 - (i + 1) : Int).toNat (by omega) (i + 1) _  _ (by omega) (by omega) hTq12596 hF12599 (((hAi.tr (AN.w (by omega) (by omega) (by omega))).tr (AN.w (by omega) (by omega) (by omega))).tr hAq12596) (GM.fr (GM.up (GM.up (GM.up (hgo r12560 _ (by omega) (by rw [show 10 * 1 + r12560.toNat = 10 + r12560.toNat by omega, ← hFi 397 (10 + r12560.toNat) rfl]; exact hr12560.2.2 (by omega)) hGi) (by decide)) (by decide)) (by decide)) hFq12596)
set_option maxRecDepth 100000 in
theorem t148b_1 {L : Nat} {xs : Nat → Int32} {d nn : Nat} {m : yM} {k : Int} (hT : Ty gT m) (hr : 1 ≤ m 376 45 ∧ m 376 45 ≤ 2000) (hn : m 376 18 = 1) (hG : GQ 1 m) (hko : 0 ≤ k ∧ k < m 390 1) (h7 : m 403 (1000 * 1 + 8 * k.toNat) = 7) {u c n : Int} (hu : 0 ≤ u ∧ u ≤ 47) (hc : c = m 403 (1000 * 1 + 8 * k.toNat + 5) / 16) (hna : n = m 403 (1000 * 1 + 8 * k.toNat + 5) % 16) : ∀ (km : Nat) (i : Int) (x6 : Option Value) (x7 : Option Value) (mi : yM), m 384 1 - i = km → 0 ≤ i ∧ i ≤ m 384 1 → Ty gT mi → Fr wAn m mi → AN m mi → GM 1 mi → YW (gZ L xs) 148 (d + 2) 208 [some (.ref 376), some (yI (1000 + 8 * k)), some (yI u), some (yI c), some (yI n), some (yI i), x6, x7] [] mi nn (qU (fun m' n' => n' = nn ∧ Ty gT m' ∧ Fr wAn m m' ∧ AN m m' ∧ GM 1 m')) := by
  intro km
  induction km using Nat.strongRecOn with
  | ind km ih =>
    intro i x6 x7 mi hk hi hTi hFi hAi hGi
    have tb383 := hT.atp 383 1 0 6 rfl
    have tb384 := hT.atp 384 1 0 10 rfl
    have tb388 := hT.atp 388 1 0 12 rfl
    have tb390 := hT.atp 390 1 0 125 rfl
    have hw := hG.1.1 k.toNat (by omega)
    unfold OW at hw
    have hfx := hG.2.2.2.2.2.2.1 k.toNat (by omega)
    have g88 := hG.2.2.2.2.2.2.2.2.1
    have g90 := hG.2.2.2.2.2.2.2.2.2.2
    refine y_iload 210 c148_208 rfl rfl ?_
    refine y_aload 211 c148_210 rfl rfl rfl ?_
    refine y_getR 214 c148_211 rfl kf376_21 ?_
    refine y_aload 215 c148_214 rfl rfl rfl ?_
    refine y_getX 218 (m 376 18) c148_215 rfl kf376_18 (hFi 376 18 rfl) ?_
    refine y_top 1 (by omega) ?_
    refine y_iaX 219 (m 384 1) c148_218 rfl ka384 (by decide) (hFi 384 1 rfl) ?_
    refine y_icmp 328 222 c148_219 rfl rfl (yc_ge (by omega) (by omega)) (fun hb12600 => ?_) (fun hb12600 => ?_)
    · exact y_retU c148_328 ⟨rfl, hTi, hFi, hAi, hGi⟩
    · refine y_aload 223 c148_222 rfl rfl rfl ?_
      refine y_aload 224 c148_223 rfl rfl rfl ?_
      refine y_getR 227 c148_224 rfl kf376_43 ?_
      refine y_iconst 229 c148_227 rfl ?_
      refine y_iload 230 c148_229 rfl rfl ?_
      refine y_imul 231 c148_230 rfl ?_
      refine y_iload 233 c148_231 rfl rfl ?_
      refine y_iadd 234 c148_233 rfl ?_
      refine y_iaT 235 ((-2147483648)) 2147483647 c148_234 rfl ka406 (by omega) hTi rfl (fun v12601 hv12601 gv12601 => ?_)
      refine y_callP 238 [.ref 376, yI v12601] [] c148_235 rfl rfl rfl rfl rfl (ycanO km144 ko376) (t144 hTi (by omega)) (fun r12602 hr12602 => ?_)
      refine y_if 322 241 c148_238 rfl rfl (yz_eq (by omega)) (fun hb12603 => ?_) (fun hb12603 => ?_)
      · refine y_iinc 325 c148_322 rfl rfl rfl ?_
        refine y_goto 208 c148_325 rfl ?_
        exact ih (m 384 1 - (i + 1) : Int).toNat (by omega) (i + 1) _ _  _ (by omega) (by omega) hTi hFi hAi hGi
      · have hsz : m 397 (10 * 1 + i.toNat) = n := by have h0 := hGi k.toNat (by rw [hFi 390 1 rfl]; omega) (by rw [hFi 403 _ rfl]; exact h7) i.toNat (by rw [hFi 384 1 rfl]; omega) (by rw [hFi 403 _ rfl, show 10 * (m 403 (1000 * 1 + 8 * k.toNat + 5) / 16).toNat + i.toNat = ((10 * c) + i).toNat by omega, hv12601]; omega); rw [hFi 397 _ rfl, hFi 403 _ rfl] at h0; omega
        refine y_aload 242 c148_241 rfl rfl rfl ?_
        refine y_getR 245 c148_242 rfl kf376_35 ?_
        refine y_iconst 247 c148_245 rfl ?_
        refine y_aload 248 c148_247 rfl rfl rfl ?_
        refine y_getX 251 (m 376 18) c148_248 rfl kf376_18 (hFi 376 18 rfl) ?_
        refine y_top 1 (by omega) ?_
        refine y_imul 252 c148_251 rfl ?_
        refine y_top 10 (by decide) ?_
        refine y_iload 254 c148_252 rfl rfl ?_
        refine y_iadd 255 c148_254 rfl ?_
        refine y_iaT 256 0 46 c148_255 rfl ka398 (by omega) hTi rfl (fun v12604 hv12604 gv12604 => ?_)
        have gv12604_ : m 398 (10 * 1 + i.toNat) = v12604 := by rw [show 10 * 1 + i.toNat = (10 + i).toNat by omega]; exact ((hFi 398 _ rfl)).symm.trans hv12604
        have gmv12604_ := hG.2.2.2.1 i.toNat (by omega)
        refine y_istore 258 c148_256 rfl rfl ?_
        refine y_iconst 259 c148_258 rfl ?_
        refine y_istore 261 c148_259 rfl rfl ?_
        refine y_iload 263 c148_261 rfl rfl ?_
        refine y_iload 265 c148_263 rfl rfl ?_
        refine y_icmp 297 268 c148_265 rfl rfl (yc_ge (by omega) (by omega)) (fun hb12605 => ?_) (fun hb12605 => ?_)
        · refine y_aload 298 c148_297 rfl rfl rfl ?_
          refine y_getR 301 c148_298 rfl kf376_40 ?_
          refine y_iload 302 c148_301 rfl rfl ?_
          refine y_iconst 303 c148_302 rfl ?_
          refine y_iadd 304 c148_303 rfl ?_
          refine y_iaT 305 ((-2147483648)) 2147483647 c148_304 rfl ka403 (by omega) hTi rfl (fun v12606 hv12606 gv12606 => ?_)
          have gv12606_ : m 403 (1000 * 1 + 8 * k.toNat + 2) = v12606 := by rw [show 1000 * 1 + 8 * k.toNat + 2 = ((1000 + 8 * k) + 2).toNat by omega]; exact ((hFi 403 _ rfl)).symm.trans hv12606
          refine y_if 322 308 c148_305 rfl rfl (yz_lt (by omega)) (fun hb12607 => ?_) (fun hb12607 => ?_)
          · refine y_iinc 325 c148_322 rfl rfl rfl ?_
            refine y_goto 208 c148_325 rfl ?_
            exact ih (m 384 1 - (i + 1) : Int).toNat (by omega) (i + 1) _ _  _ (by omega) (by omega) hTi hFi hAi hGi
          · refine y_aload 309 c148_308 rfl rfl rfl ?_
            refine y_aload 310 c148_309 rfl rfl rfl ?_
            refine y_getR 313 c148_310 rfl kf376_40 ?_
            refine y_iload 314 c148_313 rfl rfl ?_
            refine y_iconst 315 c148_314 rfl ?_
            refine y_iadd 316 c148_315 rfl ?_
            refine y_iaT 317 ((-2147483648)) 2147483647 c148_316 rfl ka403 (by omega) hTi rfl (fun v12608 hv12608 gv12608 => ?_)
            have gv12608_ : m 403 (1000 * 1 + 8 * k.toNat + 2) = v12608 := by rw [show 1000 * 1 + 8 * k.toNat + 2 = ((1000 + 8 * k) + 2).toNat by omega]; exact ((hFi 403 _ rfl)).symm.trans hv12608
            refine y_iload 319 c148_317 rfl rfl ?_
            have es12610 : mi 376 45 = m 376 45 := (hFi 376 45 rfl)
            have es12611 : mi 376 18 = m 376 18 := (hFi 376 18 rfl)
            refine y_callUB 322 [.ref 376, yI v12608, yI v12604] [] c148_319 rfl rfl rfl rfl rfl (ycanO km146 ko376) (t146_1 hTi (by omega) (by omega) (by omega) (by omega)) (fun mq12609 nq12609 hq12609 => ?_)
            obtain ⟨rfl, hTq12609, hFq12609, hAq12609⟩ := hq12609
            have hF12612 := hFi.tr hFq12609 wAm_wAn
            refine y_iinc 325 c148_322 rfl rfl rfl ?_
            refine y_goto 208 c148_325 rfl ?_
            exact ih (m 384 1 - (i + 1) : Int).toNat (by omega) (i + 1) _ _  _ (by omega) (by omega) hTq12609 hF12612 (hAi.tr hAq12609) (GM.fr hGi hFq12609)
        · refine y_aload 269 c148_268 rfl rfl rfl ?_
          refine y_iload 271 c148_269 rfl rfl ?_
          refine y_iconst 272 c148_271 rfl ?_
          refine y_iadd 273 c148_272 rfl ?_
          refine y_iload 275 c148_273 rfl rfl ?_
          refine y_iadd 276 c148_275 rfl ?_
          refine y_aload 277 c148_276 rfl rfl rfl ?_
          refine y_getR 280 c148_277 rfl kf376_40 ?_
          refine y_iload 281 c148_280 rfl rfl ?_
          refine y_iconst 283 c148_281 rfl ?_
          refine y_iadd 284 c148_283 rfl ?_
          refine y_iload 286 c148_284 rfl rfl ?_
          refine y_iadd 287 c148_286 rfl ?_
          refine y_iaT 288 ((-2147483648)) 2147483647 c148_287 rfl ka403 (by omega) hTi rfl (fun v12613 hv12613 gv12613 => ?_)
          have gv12613_ : m 403 (1000 * 1 + 8 * k.toNat + 6) = v12613 := by rw [show 1000 * 1 + 8 * k.toNat + 6 = (((1000 + 8 * k) + 6) + 0).toNat by omega]; exact ((hFi 403 _ rfl)).symm.trans hv12613
          have es12615 : mi 376 45 = m 376 45 := (hFi 376 45 rfl)
          have es12616 : mi 376 18 = m 376 18 := (hFi 376 18 rfl)
          refine y_callUB 291 [.ref 376, yI ((v12604 + 2) + 0), yI v12613] [] c148_288 rfl rfl rfl rfl rfl (ycanO km146 ko376) (t146_1 hTi (by omega) (by omega) (by omega) (by omega)) (fun mq12614 nq12614 hq12614 => ?_)
          obtain ⟨rfl, hTq12614, hFq12614, hAq12614⟩ := hq12614
          have hF12617 := hFi.tr hFq12614 wAm_wAn
          refine y_iincN 294 1 c148_291 rfl rfl (by decide) rfl ?_
          refine y_goto 261 c148_294 rfl ?_
          refine y_iload 263 c148_261 rfl rfl ?_
          refine y_iload 265 c148_263 rfl rfl ?_
          refine y_icmp 297 268 c148_265 rfl rfl (yc_ge (by omega) (by omega)) (fun hb12618 => ?_) (fun hb12618 => ?_)
          · refine y_aload 298 c148_297 rfl rfl rfl ?_
            refine y_getR 301 c148_298 rfl kf376_40 ?_
            refine y_iload 302 c148_301 rfl rfl ?_
            refine y_iconst 303 c148_302 rfl ?_
            refine y_iadd 304 c148_303 rfl ?_
            refine y_iaT 305 ((-2147483648)) 2147483647 c148_304 rfl ka403 (by omega) hTq12614 rfl (fun v12619 hv12619 gv12619 => ?_)
            have gv12619_ : m 403 (1000 * 1 + 8 * k.toNat + 2) = v12619 := by rw [show 1000 * 1 + 8 * k.toNat + 2 = ((1000 + 8 * k) + 2).toNat by omega]; exact (((hFq12614 403 _ rfl).trans (hFi 403 _ rfl))).symm.trans hv12619
            refine y_if 322 308 c148_305 rfl rfl (yz_lt (by omega)) (fun hb12620 => ?_) (fun hb12620 => ?_)
            · refine y_iinc 325 c148_322 rfl rfl rfl ?_
              refine y_goto 208 c148_325 rfl ?_
              exact ih (m 384 1 - (i + 1) : Int).toNat (by omega) (i + 1) _ _  _ (by omega) (by omega) hTq12614 hF12617 (hAi.tr hAq12614) (GM.fr hGi hFq12614)
            · refine y_aload 309 c148_308 rfl rfl rfl ?_
              refine y_aload 310 c148_309 rfl rfl rfl ?_
              refine y_getR 313 c148_310 rfl kf376_40 ?_
              refine y_iload 314 c148_313 rfl rfl ?_
              refine y_iconst 315 c148_314 rfl ?_
              refine y_iadd 316 c148_315 rfl ?_
              refine y_iaT 317 ((-2147483648)) 2147483647 c148_316 rfl ka403 (by omega) hTq12614 rfl (fun v12621 hv12621 gv12621 => ?_)
              have gv12621_ : m 403 (1000 * 1 + 8 * k.toNat + 2) = v12621 := by rw [show 1000 * 1 + 8 * k.toNat + 2 = ((1000 + 8 * k) + 2).toNat by omega]; exact (((hFq12614 403 _ rfl).trans (hFi 403 _ rfl))).symm.trans hv12621
              refine y_iload 319 c148_317 rfl rfl ?_
              have es12623 : mq12614 376 45 = m 376 45 := ((hFq12614 376 45 rfl).trans (hFi 376 45 rfl))
              have es12624 : mq12614 376 18 = m 376 18 := ((hFq12614 376 18 rfl).trans (hFi 376 18 rfl))
              refine y_callUB 322 [.ref 376, yI v12621, yI v12604] [] c148_319 rfl rfl rfl rfl rfl (ycanO km146 ko376) (t146_1 hTq12614 (by omega) (by omega) (by omega) (by omega)) (fun mq12622 nq12622 hq12622 => ?_)
              obtain ⟨rfl, hTq12622, hFq12622, hAq12622⟩ := hq12622
              have hF12625 := hF12617.tr hFq12622 wAm_wAn
              refine y_iinc 325 c148_322 rfl rfl rfl ?_
              refine y_goto 208 c148_325 rfl ?_
              exact ih (m 384 1 - (i + 1) : Int).toNat (by omega) (i + 1) _ _  _ (by omega) (by omega) hTq12622 hF12625 ((hAi.tr hAq12614).tr hAq12622) (GM.fr (GM.fr hGi hFq12614) hFq12622)
          · refine y_aload 269 c148_268 rfl rfl rfl ?_
            refine y_iload 271 c148_269 rfl rfl ?_
            refine y_iconst 272 c148_271 rfl ?_
            refine y_iadd 273 c148_272 rfl ?_
            refine y_iload 275 c148_273 rfl rfl ?_
            refine y_iadd 276 c148_275 rfl ?_
            refine y_aload 277 c148_276 rfl rfl rfl ?_
            refine y_getR 280 c148_277 rfl kf376_40 ?_
            refine y_iload 281 c148_280 rfl rfl ?_
            refine y_iconst 283 c148_281 rfl ?_
            refine y_iadd 284 c148_283 rfl ?_
            refine y_iload 286 c148_284 rfl rfl ?_
            refine y_iadd 287 c148_286 rfl ?_
            refine y_iaT 288 ((-2147483648)) 2147483647 c148_287 rfl ka403 (by omega) hTq12614 rfl (fun v12626 hv12626 gv12626 => ?_)
            have gv12626_ : m 403 (1000 * 1 + 8 * k.toNat + 7) = v12626 := by rw [show 1000 * 1 + 8 * k.toNat + 7 = (((1000 + 8 * k) + 6) + 1).toNat by omega]; exact (((hFq12614 403 _ rfl).trans (hFi 403 _ rfl))).symm.trans hv12626
            have es12628 : mq12614 376 45 = m 376 45 := ((hFq12614 376 45 rfl).trans (hFi 376 45 rfl))
            have es12629 : mq12614 376 18 = m 376 18 := ((hFq12614 376 18 rfl).trans (hFi 376 18 rfl))
            refine y_callUB 291 [.ref 376, yI ((v12604 + 2) + 1), yI v12626] [] c148_288 rfl rfl rfl rfl rfl (ycanO km146 ko376) (t146_1 hTq12614 (by omega) (by omega) (by omega) (by omega)) (fun mq12627 nq12627 hq12627 => ?_)
            obtain ⟨rfl, hTq12627, hFq12627, hAq12627⟩ := hq12627
            have hF12630 := hF12617.tr hFq12627 wAm_wAn
            refine y_iincN 294 2 c148_291 rfl rfl (by decide) rfl ?_
            refine y_goto 261 c148_294 rfl ?_
            refine y_iload 263 c148_261 rfl rfl ?_
            refine y_iload 265 c148_263 rfl rfl ?_
            refine y_icmp 297 268 c148_265 rfl rfl (yc_ge (by omega) (by omega)) (fun hb12631 => ?_) (fun hb12631 => ?_)
            · refine y_aload 298 c148_297 rfl rfl rfl ?_
              refine y_getR 301 c148_298 rfl kf376_40 ?_
              refine y_iload 302 c148_301 rfl rfl ?_
              refine y_iconst 303 c148_302 rfl ?_
              refine y_iadd 304 c148_303 rfl ?_
              refine y_iaT 305 ((-2147483648)) 2147483647 c148_304 rfl ka403 (by omega) hTq12627 rfl (fun v12632 hv12632 gv12632 => ?_)
              have gv12632_ : m 403 (1000 * 1 + 8 * k.toNat + 2) = v12632 := by rw [show 1000 * 1 + 8 * k.toNat + 2 = ((1000 + 8 * k) + 2).toNat by omega]; exact (((hFq12627 403 _ rfl).trans ((hFq12614 403 _ rfl).trans (hFi 403 _ rfl)))).symm.trans hv12632
              refine y_if 322 308 c148_305 rfl rfl (yz_lt (by omega)) (fun hb12633 => ?_) (fun hb12633 => ?_)
              · refine y_iinc 325 c148_322 rfl rfl rfl ?_
                refine y_goto 208 c148_325 rfl ?_
                exact ih (m 384 1 - (i + 1) : Int).toNat (by omega) (i + 1) _ _  _ (by omega) (by omega) hTq12627 hF12630 ((hAi.tr hAq12614).tr hAq12627) (GM.fr (GM.fr hGi hFq12614) hFq12627)
              · refine y_aload 309 c148_308 rfl rfl rfl ?_
                refine y_aload 310 c148_309 rfl rfl rfl ?_
                refine y_getR 313 c148_310 rfl kf376_40 ?_
                refine y_iload 314 c148_313 rfl rfl ?_
                refine y_iconst 315 c148_314 rfl ?_
                refine y_iadd 316 c148_315 rfl ?_
                refine y_iaT 317 ((-2147483648)) 2147483647 c148_316 rfl ka403 (by omega) hTq12627 rfl (fun v12634 hv12634 gv12634 => ?_)
                have gv12634_ : m 403 (1000 * 1 + 8 * k.toNat + 2) = v12634 := by rw [show 1000 * 1 + 8 * k.toNat + 2 = ((1000 + 8 * k) + 2).toNat by omega]; exact (((hFq12627 403 _ rfl).trans ((hFq12614 403 _ rfl).trans (hFi 403 _ rfl)))).symm.trans hv12634
                refine y_iload 319 c148_317 rfl rfl ?_
                have es12636 : mq12627 376 45 = m 376 45 := ((hFq12627 376 45 rfl).trans ((hFq12614 376 45 rfl).trans (hFi 376 45 rfl)))
                have es12637 : mq12627 376 18 = m 376 18 := ((hFq12627 376 18 rfl).trans ((hFq12614 376 18 rfl).trans (hFi 376 18 rfl)))
                refine y_callUB 322 [.ref 376, yI v12634, yI v12604] [] c148_319 rfl rfl rfl rfl rfl (ycanO km146 ko376) (t146_1 hTq12627 (by omega) (by omega) (by omega) (by omega)) (fun mq12635 nq12635 hq12635 => ?_)
                obtain ⟨rfl, hTq12635, hFq12635, hAq12635⟩ := hq12635
                have hF12638 := hF12630.tr hFq12635 wAm_wAn
                refine y_iinc 325 c148_322 rfl rfl rfl ?_
                refine y_goto 208 c148_325 rfl ?_
                exact ih (m 384 1 - (i + 1) : Int).toNat (by omega) (i + 1) _ _  _ (by omega) (by omega) hTq12635 hF12638 (((hAi.tr hAq12614).tr hAq12627).tr hAq12635) (GM.fr (GM.fr (GM.fr hGi hFq12614) hFq12627) hFq12635)
            · exfalso; omega
set_option maxRecDepth 100000 in
theorem t148_1 {L : Nat} {xs : Nat → Int32} {d nn : Nat} {m : yM} {k : Int} (hT : Ty gT m) (hr : 1 ≤ m 376 45 ∧ m 376 45 ≤ 2000) (hn : m 376 18 = 1) (hG : GQ 1 m) (hko : 0 ≤ k ∧ k < m 390 1) (h7 : m 403 (1000 * 1 + 8 * k.toNat) = 7) (hM : GM 1 m) : YC (gZ L xs) (d + 2) 148 [.ref 376, yI (1000 + 8 * k)] m nn (qU (fun m' n' => n' = nn ∧ Ty gT m' ∧ Fr wAn m m' ∧ AN m m' ∧ GM 1 m')) := by
  have tb383 := hT.atp 383 1 0 6 rfl
  have tb384 := hT.atp 384 1 0 10 rfl
  have tb388 := hT.atp 388 1 0 12 rfl
  have tb390 := hT.atp 390 1 0 125 rfl
  have hw := hG.1.1 k.toNat (by omega)
  unfold OW at hw
  have hfx := hG.2.2.2.2.2.2.1 k.toNat (by omega)
  have g88 := hG.2.2.2.2.2.2.2.2.1
  have g90 := hG.2.2.2.2.2.2.2.2.2.2
  refine YC.mkB [some (.ref 376), some (yI (1000 + 8 * k)), none, none, none, none, none, none] kn148 rfl rfl ?_
  refine y_aload 1 c148_0 rfl rfl rfl ?_
  refine y_getR 4 c148_1 rfl kf376_40 ?_
  refine y_iload 5 c148_4 rfl rfl ?_
  refine y_iconst 6 c148_5 rfl ?_
  refine y_iadd 7 c148_6 rfl ?_
  refine y_iaT 8 ((-2147483648)) 2147483647 c148_7 rfl ka403 (by omega) hT rfl (fun v12639 hv12639 gv12639 => ?_)
  have gv12639_ : m 403 (1000 * 1 + 8 * k.toNat + 3) = v12639 := by rw [show 1000 * 1 + 8 * k.toNat + 3 = ((1000 + 8 * k) + 3).toNat by omega]; exact (rfl).symm.trans hv12639
  refine y_istore 9 c148_8 rfl rfl ?_
  refine y_aload 10 c148_9 rfl rfl rfl ?_
  refine y_getR 13 c148_10 rfl kf376_40 ?_
  refine y_iload 14 c148_13 rfl rfl ?_
  refine y_iconst 15 c148_14 rfl ?_
  refine y_iadd 16 c148_15 rfl ?_
  refine y_iaT 17 ((-2147483648)) 2147483647 c148_16 rfl ka403 (by omega) hT rfl (fun v12640 hv12640 gv12640 => ?_)
  have gv12640_ : m 403 (1000 * 1 + 8 * k.toNat + 5) = v12640 := by rw [show 1000 * 1 + 8 * k.toNat + 5 = ((1000 + 8 * k) + 5).toNat by omega]; exact (rfl).symm.trans hv12640
  refine y_iconst 19 c148_17 rfl ?_
  refine y_idiv 20 c148_19 rfl (by omega) (by omega) ?_
  refine y_istore 21 c148_20 rfl rfl ?_
  refine y_aload 22 c148_21 rfl rfl rfl ?_
  refine y_getR 25 c148_22 rfl kf376_40 ?_
  refine y_iload 26 c148_25 rfl rfl ?_
  refine y_iconst 27 c148_26 rfl ?_
  refine y_iadd 28 c148_27 rfl ?_
  refine y_iaT 29 ((-2147483648)) 2147483647 c148_28 rfl ka403 (by omega) hT rfl (fun v12641 hv12641 gv12641 => ?_)
  have gv12641_ : m 403 (1000 * 1 + 8 * k.toNat + 5) = v12641 := by rw [show 1000 * 1 + 8 * k.toNat + 5 = ((1000 + 8 * k) + 5).toNat by omega]; exact (rfl).symm.trans hv12641
  refine y_iconst 31 c148_29 rfl ?_
  refine y_irem 32 c148_31 rfl (by omega) (by omega) ?_
  refine y_istore 34 c148_32 rfl rfl ?_
  refine y_iconst 35 c148_34 rfl ?_
  refine y_istore 37 c148_35 rfl rfl ?_
  refine t148a_1 hT hr hn hG hko h7 (u := v12639) (c := v12640 / 16) (n := v12641 % 16) (by omega) (by omega) (by omega) (fun y5 y6 mi j1 j2 j3 j4 => ?_) (m 388 1 - 0).toNat 0 _ m (by omega) (by omega) hT Fr.rf AN.rf hM
  refine y_iconst 206 c148_205 rfl ?_
  refine y_istore 208 c148_206 rfl rfl ?_
  exact t148b_1 hT hr hn hG hko h7 (by omega) (by omega) (by omega) (m 384 1 - 0).toNat 0 _ _ mi (by omega) (by omega) j1 j2 j3 j4
