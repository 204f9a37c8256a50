section
/-! CONTRACTS: the model, facts. Printed by wip/whole/gen9c.py -/
set_option maxRecDepth 100000 in
theorem t150a_0 {L : Nat} {xs : Nat → Int32} {d nn : Nat} {m : yM} {k : Int} (hT : Ty gT m) (hr : 1 ≤ m 376 45 ∧ m 376 45 ≤ 2000) (hn : m 376 18 = 0) (hG : GQ 0 m) (hko : 0 ≤ k ∧ k < m 390 0) (hM : GM 0 m) {w v u : Int} (h3 : m 403 (1000 * 0 + 8 * k.toNat) = 3) (hv : 0 ≤ v ∧ v ≤ 47) (hu : 0 ≤ u ∧ u ≤ 47) : ∀ (km : Nat) (i : Int) (mi : yM), m 388 0 - i = km → 0 ≤ i ∧ i ≤ m 388 0 → Ty gT mi → Fr wAn m mi → AN m mi → GM 0 mi → YW (gZ L xs) 150 (d + 3) 131 [some (.ref 376), some (yI (0 + 8 * k)), some (yI w), some (yI v), some (yI u), some (yI i)] [] mi nn (qU (fun m' n' => n' = nn ∧ Ty gT m' ∧ Fr wAn m m' ∧ AN m m' ∧ GM 0 m')) := by
  intro km
  induction km using Nat.strongRecOn with
  | ind km ih =>
    intro i mi hk hi hTi hFi hAi hGi
    have tb383 := hT.atp 383 0 0 6 rfl
    have tb384 := hT.atp 384 0 0 10 rfl
    have tb388 := hT.atp 388 0 0 12 rfl
    have tb390 := hT.atp 390 0 0 125 rfl
    have hw := hG.1.1 k.toNat (by omega)
    unfold OW at hw
    have hfx := hG.2.2.2.2.2.2.1 k.toNat (by omega)
    have g88 := hG.2.2.2.2.2.2.2.2.1
    have g90 := hG.2.2.2.2.2.2.2.2.2.2
    refine y_iload 133 c150_131 rfl rfl ?_
    refine y_aload 134 c150_133 rfl rfl rfl ?_
    refine y_getR 137 c150_134 rfl kf376_25 ?_
    refine y_aload 138 c150_137 rfl rfl rfl ?_
    refine y_getX 141 (m 376 18) c150_138 rfl kf376_18 (hFi 376 18 rfl) ?_
    refine y_top 0 (by omega) ?_
    refine y_iaX 142 (m 388 0) c150_141 rfl ka388 (by decide) (hFi 388 0 rfl) ?_
    refine y_icmp 225 145 c150_142 rfl rfl (yc_ge (by omega) (by omega)) (fun hb12465 => ?_) (fun hb12465 => ?_)
    · exact y_retU c150_225 ⟨rfl, hTi, hFi, hAi, hGi⟩
    · refine y_aload 146 c150_145 rfl rfl rfl ?_
      refine y_aload 147 c150_146 rfl rfl rfl ?_
      refine y_getR 150 c150_147 rfl kf376_41 ?_
      refine y_iconst 152 c150_150 rfl ?_
      refine y_iload 154 c150_152 rfl rfl ?_
      refine y_imul 155 c150_154 rfl ?_
      refine y_iload 157 c150_155 rfl rfl ?_
      refine y_iadd 158 c150_157 rfl ?_
      refine y_iaT 159 ((-2147483648)) 2147483647 c150_158 rfl ka404 (by omega) hTi rfl (fun v12466 hv12466 gv12466 => ?_)
      refine y_callP 162 [.ref 376, yI v12466] [] c150_159 rfl rfl rfl rfl rfl (ycanO km144 ko376) (t144 hTi (by omega)) (fun r12467 hr12467 => ?_)
      refine y_if 219 165 c150_162 rfl rfl (yz_eq (by omega)) (fun hb12468 => ?_) (fun hb12468 => ?_)
      · refine y_iinc 222 c150_219 rfl rfl rfl ?_
        refine y_goto 131 c150_222 rfl ?_
        exact ih (m 388 0 - (i + 1) : Int).toNat (by omega) (i + 1)  _ (by omega) (by omega) hTi hFi hAi hGi
      · refine y_aload 166 c150_165 rfl rfl rfl ?_
        refine y_aload 167 c150_166 rfl rfl rfl ?_
        refine y_getX 170 (m 376 18) c150_167 rfl kf376_18 (hFi 376 18 rfl) ?_
        refine y_top 0 (by omega) ?_
        refine y_aload 171 c150_170 rfl rfl rfl ?_
        refine y_getR 174 c150_171 rfl kf376_37 ?_
        refine y_iconst 176 c150_174 rfl ?_
        refine y_aload 177 c150_176 rfl rfl rfl ?_
        refine y_getX 180 (m 376 18) c150_177 rfl kf376_18 (hFi 376 18 rfl) ?_
        refine y_top 0 (by omega) ?_
        refine y_imul 181 c150_180 rfl ?_
        refine y_top 0 (by decide) ?_
        refine y_iload 183 c150_181 rfl rfl ?_
        refine y_iadd 184 c150_183 rfl ?_
        refine y_iaT 185 ((-2147483648)) 2147483647 c150_184 rfl ka400 (by omega) hTi rfl (fun v12469 hv12469 gv12469 => ?_)
        have gv12469_ : -1 ≤ v12469 ∧ v12469 < m 383 0 := by have h0 := hG.2.2.2.2.2.1 i.toNat (by omega); rw [show 12 * 0 + i.toNat = (0 + i).toNat by omega, ← show _ = m 400 (0 + i).toNat from (hFi 400 _ rfl), hv12469] at h0; exact h0
        refine y_aload 186 c150_185 rfl rfl rfl ?_
        refine y_getR 189 c150_186 rfl kf376_39 ?_
        refine y_iconst 191 c150_189 rfl ?_
        refine y_aload 192 c150_191 rfl rfl rfl ?_
        refine y_getX 195 (m 376 18) c150_192 rfl kf376_18 (hFi 376 18 rfl) ?_
        refine y_top 0 (by omega) ?_
        refine y_imul 196 c150_195 rfl ?_
        refine y_top 0 (by decide) ?_
        refine y_aload 197 c150_196 rfl rfl rfl ?_
        refine y_getR 200 c150_197 rfl kf376_40 ?_
        refine y_iload 201 c150_200 rfl rfl ?_
        refine y_iconst 202 c150_201 rfl ?_
        refine y_iadd 203 c150_202 rfl ?_
        refine y_iaT 204 ((-2147483648)) 2147483647 c150_203 rfl ka403 (by omega) hTi rfl (fun v12470 hv12470 gv12470 => ?_)
        have gv12470_ : m 403 (1000 * 0 + 8 * k.toNat + 4) = v12470 := by rw [show 1000 * 0 + 8 * k.toNat + 4 = ((0 + 8 * k) + 4).toNat by omega]; exact ((hFi 403 _ rfl)).symm.trans hv12470
        refine y_iadd 205 c150_204 rfl ?_
        refine y_iaT 206 ((-2147483648)) 2147483647 c150_205 rfl ka402 (by omega) hTi rfl (fun v12471 hv12471 gv12471 => ?_)
        have es12472 : mi 383 0 = m 383 0 := (hFi 383 0 rfl)
        refine y_callP 209 [.ref 376, yI 0, yI v12469, yI v12471] [] c150_206 rfl rfl rfl rfl rfl (ycanO km149 ko376) (t149_0 hTi (by rw [show mi 383 0 = m 383 0 from (hFi 383 0 rfl)]; exact hG.2.2.2.2.1.fr (fun q => (hFi 392 q rfl))) (by omega) (by omega)) (fun r12473 hr12473 => ?_)
        refine y_if 219 212 c150_209 rfl rfl (yz_eq (by omega)) (fun hb12474 => ?_) (fun hb12474 => ?_)
        · refine y_iinc 222 c150_219 rfl rfl rfl ?_
          refine y_goto 131 c150_222 rfl ?_
          exact ih (m 388 0 - (i + 1) : Int).toNat (by omega) (i + 1)  _ (by omega) (by omega) hTi hFi hAi hGi
        · refine y_aload 213 c150_212 rfl rfl rfl ?_
          refine y_iload 214 c150_213 rfl rfl ?_
          refine y_iload 216 c150_214 rfl rfl ?_
          have es12476 : mi 376 45 = m 376 45 := (hFi 376 45 rfl)
          have es12477 : mi 376 18 = m 376 18 := (hFi 376 18 rfl)
          refine y_callUB 219 [.ref 376, yI v, yI i] [] c150_216 rfl rfl rfl rfl rfl (ycanO km145 ko376) (t145 hTi (by omega) (by omega) (by omega)) (fun mq12475 nq12475 hq12475 => ?_)
          obtain ⟨rfl, hTq12475, hFq12475, hAq12475⟩ := hq12475
          have hF12478 := hFi.tr hFq12475 wAm_wAn
          refine y_iinc 222 c150_219 rfl rfl rfl ?_
          refine y_goto 131 c150_222 rfl ?_
          exact ih (m 388 0 - (i + 1) : Int).toNat (by omega) (i + 1)  _ (by omega) (by omega) hTq12475 hF12478 (hAi.tr hAq12475) (GM.fr hGi hFq12475)
set_option maxRecDepth 100000 in
theorem t150_0 {L : Nat} {xs : Nat → Int32} {d nn : Nat} {m : yM} {k : Int} (hT : Ty gT m) (hr : 1 ≤ m 376 45 ∧ m 376 45 ≤ 2000) (hn : m 376 18 = 0) (hG : GQ 0 m) (hko : 0 ≤ k ∧ k < m 390 0) (hM : GM 0 m) : YC (gZ L xs) (d + 3) 150 [.ref 376, yI (0 + 8 * k)] m nn (qU (fun m' n' => n' = nn ∧ Ty gT m' ∧ Fr wAn m m' ∧ AN m m' ∧ GM 0 m')) := by
  have tb383 := hT.atp 383 0 0 6 rfl
  have tb384 := hT.atp 384 0 0 10 rfl
  have tb388 := hT.atp 388 0 0 12 rfl
  have tb390 := hT.atp 390 0 0 125 rfl
  have hw := hG.1.1 k.toNat (by omega)
  unfold OW at hw
  have hfx := hG.2.2.2.2.2.2.1 k.toNat (by omega)
  have g88 := hG.2.2.2.2.2.2.2.2.1
  have g90 := hG.2.2.2.2.2.2.2.2.2.2
  refine YC.mkB [some (.ref 376), some (yI (0 + 8 * k)), none, none, none, none] kn150 rfl rfl ?_
  have hF : Fr wAn m m := Fr.rf
  refine y_aload 1 c150_0 rfl rfl rfl ?_
  refine y_getR 4 c150_1 rfl kf376_40 ?_
  refine y_iload 5 c150_4 rfl rfl ?_
  refine y_iaT 6 ((-2147483648)) 2147483647 c150_5 rfl ka403 (by omega) hT rfl (fun v12479 hv12479 gv12479 => ?_)
  have gv12479_ : m 403 (1000 * 0 + 8 * k.toNat) = v12479 := by rw [show 1000 * 0 + 8 * k.toNat = (0 + 8 * k).toNat by omega]; exact (rfl).symm.trans hv12479
  refine y_istore 7 c150_6 rfl rfl ?_
  refine y_aload 8 c150_7 rfl rfl rfl ?_
  refine y_getR 11 c150_8 rfl kf376_40 ?_
  refine y_iload 12 c150_11 rfl rfl ?_
  refine y_iconst 13 c150_12 rfl ?_
  refine y_iadd 14 c150_13 rfl ?_
  refine y_iaT 15 ((-2147483648)) 2147483647 c150_14 rfl ka403 (by omega) hT rfl (fun v12480 hv12480 gv12480 => ?_)
  have gv12480_ : m 403 (1000 * 0 + 8 * k.toNat + 2) = v12480 := by rw [show 1000 * 0 + 8 * k.toNat + 2 = ((0 + 8 * k) + 2).toNat by omega]; exact (rfl).symm.trans hv12480
  refine y_istore 16 c150_15 rfl rfl ?_
  refine y_aload 17 c150_16 rfl rfl rfl ?_
  refine y_getR 20 c150_17 rfl kf376_40 ?_
  refine y_iload 21 c150_20 rfl rfl ?_
  refine y_iconst 22 c150_21 rfl ?_
  refine y_iadd 23 c150_22 rfl ?_
  refine y_iaT 24 ((-2147483648)) 2147483647 c150_23 rfl ka403 (by omega) hT rfl (fun v12481 hv12481 gv12481 => ?_)
  have gv12481_ : m 403 (1000 * 0 + 8 * k.toNat + 3) = v12481 := by rw [show 1000 * 0 + 8 * k.toNat + 3 = ((0 + 8 * k) + 3).toNat by omega]; exact (rfl).symm.trans hv12481
  refine y_istore 26 c150_24 rfl rfl ?_
  refine y_iload 27 c150_26 rfl rfl ?_
  refine y_iconst 28 c150_27 rfl ?_
  refine y_icmp 41 31 c150_28 rfl rfl (yc_ne (by omega) (by omega)) (fun hb12482 => ?_) (fun hb12482 => ?_)
  · refine y_iload 42 c150_41 rfl rfl ?_
    refine y_iconst 43 c150_42 rfl ?_
    refine y_icmp 56 46 c150_43 rfl rfl (yc_ne (by omega) (by omega)) (fun hb12483 => ?_) (fun hb12483 => ?_)
    · refine y_iload 57 c150_56 rfl rfl ?_
      refine y_iconst 59 c150_57 rfl ?_
      refine y_icmp 91 62 c150_59 rfl rfl (yc_ne (by omega) (by omega)) (fun hb12484 => ?_) (fun hb12484 => ?_)
      · refine y_iload 92 c150_91 rfl rfl ?_
        refine y_iconst 93 c150_92 rfl ?_
        refine y_icmp 101 96 c150_93 rfl rfl (yc_eq (by omega) (by omega)) (fun hb12485 => ?_) (fun hb12485 => ?_)
        · refine y_aload 102 c150_101 rfl rfl rfl ?_
          refine y_iload 103 c150_102 rfl rfl ?_
          refine y_callUB 106 [.ref 376, yI (0 + 8 * k)] [] c150_103 rfl rfl rfl rfl rfl (ycanO km147 ko376) (t147_0 hT (by omega) (by omega) hG hko (by omega)) (fun mq12486 nq12486 hq12486 => ?_)
          obtain ⟨rfl, hTq12486, hFq12486, hAq12486⟩ := hq12486
          have hF12487 := hF.tr hFq12486 wAm_wAn
          refine y_goto 225 c150_106 rfl ?_
          exact y_retU c150_225 ⟨rfl, hTq12486, hF12487, (AN.rf.tr hAq12486), (GM.fr hM hFq12486)⟩
        · refine y_iload 97 c150_96 rfl rfl ?_
          refine y_iconst 98 c150_97 rfl ?_
          refine y_icmp 109 101 c150_98 rfl rfl (yc_ne (by omega) (by omega)) (fun hb12488 => ?_) (fun hb12488 => ?_)
          · refine y_iload 110 c150_109 rfl rfl ?_
            refine y_iconst 112 c150_110 rfl ?_
            refine y_icmp 123 115 c150_112 rfl rfl (yc_ne (by omega) (by omega)) (fun hb12489 => ?_) (fun hb12489 => ?_)
            · refine y_iload 124 c150_123 rfl rfl ?_
              refine y_iconst 125 c150_124 rfl ?_
              refine y_icmp 225 128 c150_125 rfl rfl (yc_ne (by omega) (by omega)) (fun hb12490 => ?_) (fun hb12490 => ?_)
              · exact y_retU c150_225 ⟨rfl, hT, hF, AN.rf, hM⟩
              · refine y_iconst 129 c150_128 rfl ?_
                refine y_istore 131 c150_129 rfl rfl ?_
                exact t150a_0 hT hr hn hG hko hM (w := v12479) (v := v12480) (u := v12481) (by omega) (by omega) (by omega) (m 388 0 - 0).toNat 0 m (by omega) (by omega) hT Fr.rf AN.rf hM
            · refine y_aload 116 c150_115 rfl rfl rfl ?_
              refine y_iload 117 c150_116 rfl rfl ?_
              refine y_callUB 120 [.ref 376, yI (0 + 8 * k)] [] c150_117 rfl rfl rfl rfl rfl (ycanO km148 ko376) (t148_0 hT (by omega) (by omega) hG hko (by omega) hM) (fun mq12491 nq12491 hq12491 => ?_)
              obtain ⟨rfl, hTq12491, hFq12491, hAq12491, hMq12491⟩ := hq12491
              have hF12492 := hF.tr hFq12491 (fun _ _ e => e)
              refine y_goto 225 c150_120 rfl ?_
              exact y_retU c150_225 ⟨rfl, hTq12491, hF12492, (AN.rf.tr hAq12491), hMq12491⟩
          · refine y_aload 102 c150_101 rfl rfl rfl ?_
            refine y_iload 103 c150_102 rfl rfl ?_
            refine y_callUB 106 [.ref 376, yI (0 + 8 * k)] [] c150_103 rfl rfl rfl rfl rfl (ycanO km147 ko376) (t147_0 hT (by omega) (by omega) hG hko (by omega)) (fun mq12493 nq12493 hq12493 => ?_)
            obtain ⟨rfl, hTq12493, hFq12493, hAq12493⟩ := hq12493
            have hF12494 := hF.tr hFq12493 wAm_wAn
            refine y_goto 225 c150_106 rfl ?_
            exact y_retU c150_225 ⟨rfl, hTq12493, hF12494, (AN.rf.tr hAq12493), (GM.fr hM hFq12493)⟩
      · refine y_aload 63 c150_62 rfl rfl rfl ?_
        refine y_aload 64 c150_63 rfl rfl rfl ?_
        refine y_getR 67 c150_64 rfl kf376_35 ?_
        refine y_iconst 69 c150_67 rfl ?_
        refine y_aload 70 c150_69 rfl rfl rfl ?_
        refine y_getX 73 (m 376 18) c150_70 rfl kf376_18 rfl ?_
        refine y_top 0 (by omega) ?_
        refine y_imul 74 c150_73 rfl ?_
        refine y_top 0 (by decide) ?_
        refine y_aload 75 c150_74 rfl rfl rfl ?_
        refine y_getR 78 c150_75 rfl kf376_40 ?_
        refine y_iload 79 c150_78 rfl rfl ?_
        refine y_iconst 80 c150_79 rfl ?_
        refine y_iadd 81 c150_80 rfl ?_
        refine y_iaT 82 ((-2147483648)) 2147483647 c150_81 rfl ka403 (by omega) hT rfl (fun v12495 hv12495 gv12495 => ?_)
        have gv12495_ : m 403 (1000 * 0 + 8 * k.toNat + 1) = v12495 := by rw [show 1000 * 0 + 8 * k.toNat + 1 = ((0 + 8 * k) + 1).toNat by omega]; exact (rfl).symm.trans hv12495
        refine y_iadd 83 c150_82 rfl ?_
        refine y_iaT 84 0 46 c150_83 rfl ka398 (by omega) hT rfl (fun v12496 hv12496 gv12496 => ?_)
        refine y_iload 85 c150_84 rfl rfl ?_
        refine y_callUB 88 [.ref 376, yI v12496, yI v12480] [] c150_85 rfl rfl rfl rfl rfl (ycanO km146 ko376) (t146_0 hT (by omega) (by omega) (by omega) (by omega)) (fun mq12497 nq12497 hq12497 => ?_)
        obtain ⟨rfl, hTq12497, hFq12497, hAq12497⟩ := hq12497
        have hF12498 := hF.tr hFq12497 wAm_wAn
        refine y_goto 225 c150_88 rfl ?_
        exact y_retU c150_225 ⟨rfl, hTq12497, hF12498, (AN.rf.tr hAq12497), (GM.fr hM hFq12497)⟩
    · refine y_aload 47 c150_46 rfl rfl rfl ?_
      refine y_iload 48 c150_47 rfl rfl ?_
      refine y_iload 50 c150_48 rfl rfl ?_
      refine y_callUB 53 [.ref 376, yI v12480, yI v12481] [] c150_50 rfl rfl rfl rfl rfl (ycanO km146 ko376) (t146_0 hT (by omega) (by omega) (by omega) (by omega)) (fun mq12499 nq12499 hq12499 => ?_)
      obtain ⟨rfl, hTq12499, hFq12499, hAq12499⟩ := hq12499
      have hF12500 := hF.tr hFq12499 wAm_wAn
      refine y_goto 225 c150_53 rfl ?_
      exact y_retU c150_225 ⟨rfl, hTq12499, hF12500, (AN.rf.tr hAq12499), (GM.fr hM hFq12499)⟩
  · refine y_aload 32 c150_31 rfl rfl rfl ?_
    refine y_iload 33 c150_32 rfl rfl ?_
    refine y_iload 35 c150_33 rfl rfl ?_
    refine y_callUB 38 [.ref 376, yI v12480, yI v12481] [] c150_35 rfl rfl rfl rfl rfl (ycanO km145 ko376) (t145 hT (by omega) (by omega) (by omega)) (fun mq12501 nq12501 hq12501 => ?_)
    obtain ⟨rfl, hTq12501, hFq12501, hAq12501⟩ := hq12501
    have hF12502 := hF.tr hFq12501 wAm_wAn
    refine y_goto 225 c150_38 rfl ?_
    exact y_retU c150_225 ⟨rfl, hTq12501, hF12502, (AN.rf.tr hAq12501), (GM.fr hM hFq12501)⟩
set_option maxRecDepth 100000 in
theorem t150a_1 {L : Nat} {xs : Nat → Int32} {d nn : Nat} {m : yM} {k : Int} (hT : Ty gT m) (hr : 1 ≤ m 376 45 ∧ m 376 45 ≤ 2000) (hn : m 376 18 = 1) (hG : GQ 1 m) (hko : 0 ≤ k ∧ k < m 390 1) (hM : GM 1 m) {w v u : Int} (h3 : m 403 (1000 * 1 + 8 * k.toNat) = 3) (hv : 0 ≤ v ∧ v ≤ 47) (hu : 0 ≤ u ∧ u ≤ 47) : ∀ (km : Nat) (i : Int) (mi : yM), m 388 1 - i = km → 0 ≤ i ∧ i ≤ m 388 1 → Ty gT mi → Fr wAn m mi → AN m mi → GM 1 mi → YW (gZ L xs) 150 (d + 3) 131 [some (.ref 376), some (yI (1000 + 8 * k)), some (yI w), some (yI v), some (yI u), some (yI i)] [] mi nn (qU (fun m' n' => n' = nn ∧ Ty gT m' ∧ Fr wAn m m' ∧ AN m m' ∧ GM 1 m')) := by
  intro km
  induction km using Nat.strongRecOn with
  | ind km ih =>
    intro i mi hk hi hTi hFi hAi hGi
    have tb383 := hT.atp 383 1 0 6 rfl
    have tb384 := hT.atp 384 1 0 10 rfl
    have tb388 := hT.atp 388 1 0 12 rfl
    have tb390 := hT.atp 390 1 0 125 rfl
    have hw := hG.1.1 k.toNat (by omega)
    unfold OW at hw
    have hfx := hG.2.2.2.2.2.2.1 k.toNat (by omega)
    have g88 := hG.2.2.2.2.2.2.2.2.1
    have g90 := hG.2.2.2.2.2.2.2.2.2.2
    refine y_iload 133 c150_131 rfl rfl ?_
    refine y_aload 134 c150_133 rfl rfl rfl ?_
    refine y_getR 137 c150_134 rfl kf376_25 ?_
    refine y_aload 138 c150_137 rfl rfl rfl ?_
    refine y_getX 141 (m 376 18) c150_138 rfl kf376_18 (hFi 376 18 rfl) ?_
    refine y_top 1 (by omega) ?_
    refine y_iaX 142 (m 388 1) c150_141 rfl ka388 (by decide) (hFi 388 1 rfl) ?_
    refine y_icmp 225 145 c150_142 rfl rfl (yc_ge (by omega) (by omega)) (fun hb12642 => ?_) (fun hb12642 => ?_)
    · exact y_retU c150_225 ⟨rfl, hTi, hFi, hAi, hGi⟩
    · refine y_aload 146 c150_145 rfl rfl rfl ?_
      refine y_aload 147 c150_146 rfl rfl rfl ?_
      refine y_getR 150 c150_147 rfl kf376_41 ?_
      refine y_iconst 152 c150_150 rfl ?_
      refine y_iload 154 c150_152 rfl rfl ?_
      refine y_imul 155 c150_154 rfl ?_
      refine y_iload 157 c150_155 rfl rfl ?_
      refine y_iadd 158 c150_157 rfl ?_
      refine y_iaT 159 ((-2147483648)) 2147483647 c150_158 rfl ka404 (by omega) hTi rfl (fun v12643 hv12643 gv12643 => ?_)
      refine y_callP 162 [.ref 376, yI v12643] [] c150_159 rfl rfl rfl rfl rfl (ycanO km144 ko376) (t144 hTi (by omega)) (fun r12644 hr12644 => ?_)
      refine y_if 219 165 c150_162 rfl rfl (yz_eq (by omega)) (fun hb12645 => ?_) (fun hb12645 => ?_)
      · refine y_iinc 222 c150_219 rfl rfl rfl ?_
        refine y_goto 131 c150_222 rfl ?_
        exact ih (m 388 1 - (i + 1) : Int).toNat (by omega) (i + 1)  _ (by omega) (by omega) hTi hFi hAi hGi
      · refine y_aload 166 c150_165 rfl rfl rfl ?_
        refine y_aload 167 c150_166 rfl rfl rfl ?_
        refine y_getX 170 (m 376 18) c150_167 rfl kf376_18 (hFi 376 18 rfl) ?_
        refine y_top 1 (by omega) ?_
        refine y_aload 171 c150_170 rfl rfl rfl ?_
        refine y_getR 174 c150_171 rfl kf376_37 ?_
        refine y_iconst 176 c150_174 rfl ?_
        refine y_aload 177 c150_176 rfl rfl rfl ?_
        refine y_getX 180 (m 376 18) c150_177 rfl kf376_18 (hFi 376 18 rfl) ?_
        refine y_top 1 (by omega) ?_
        refine y_imul 181 c150_180 rfl ?_
        refine y_top 12 (by decide) ?_
        refine y_iload 183 c150_181 rfl rfl ?_
        refine y_iadd 184 c150_183 rfl ?_
        refine y_iaT 185 ((-2147483648)) 2147483647 c150_184 rfl ka400 (by omega) hTi rfl (fun v12646 hv12646 gv12646 => ?_)
        have gv12646_ : -1 ≤ v12646 ∧ v12646 < m 383 1 := by have h0 := hG.2.2.2.2.2.1 i.toNat (by omega); rw [show 12 * 1 + i.toNat = (12 + i).toNat by omega, ← show _ = m 400 (12 + i).toNat from (hFi 400 _ rfl), hv12646] at h0; exact h0
        refine y_aload 186 c150_185 rfl rfl rfl ?_
        refine y_getR 189 c150_186 rfl kf376_39 ?_
        refine y_iconst 191 c150_189 rfl ?_
        refine y_aload 192 c150_191 rfl rfl rfl ?_
        refine y_getX 195 (m 376 18) c150_192 rfl kf376_18 (hFi 376 18 rfl) ?_
        refine y_top 1 (by omega) ?_
        refine y_imul 196 c150_195 rfl ?_
        refine y_top 8 (by decide) ?_
        refine y_aload 197 c150_196 rfl rfl rfl ?_
        refine y_getR 200 c150_197 rfl kf376_40 ?_
        refine y_iload 201 c150_200 rfl rfl ?_
        refine y_iconst 202 c150_201 rfl ?_
        refine y_iadd 203 c150_202 rfl ?_
        refine y_iaT 204 ((-2147483648)) 2147483647 c150_203 rfl ka403 (by omega) hTi rfl (fun v12647 hv12647 gv12647 => ?_)
        have gv12647_ : m 403 (1000 * 1 + 8 * k.toNat + 4) = v12647 := by rw [show 1000 * 1 + 8 * k.toNat + 4 = ((1000 + 8 * k) + 4).toNat by omega]; exact ((hFi 403 _ rfl)).symm.trans hv12647
        refine y_iadd 205 c150_204 rfl ?_
        refine y_iaT 206 ((-2147483648)) 2147483647 c150_205 rfl ka402 (by omega) hTi rfl (fun v12648 hv12648 gv12648 => ?_)
        have es12649 : mi 383 1 = m 383 1 := (hFi 383 1 rfl)
        refine y_callP 209 [.ref 376, yI 1, yI v12646, yI v12648] [] c150_206 rfl rfl rfl rfl rfl (ycanO km149 ko376) (t149_1 hTi (by rw [show mi 383 1 = m 383 1 from (hFi 383 1 rfl)]; exact hG.2.2.2.2.1.fr (fun q => (hFi 392 q rfl))) (by omega) (by omega)) (fun r12650 hr12650 => ?_)
        refine y_if 219 212 c150_209 rfl rfl (yz_eq (by omega)) (fun hb12651 => ?_) (fun hb12651 => ?_)
        · refine y_iinc 222 c150_219 rfl rfl rfl ?_
          refine y_goto 131 c150_222 rfl ?_
          exact ih (m 388 1 - (i + 1) : Int).toNat (by omega) (i + 1)  _ (by omega) (by omega) hTi hFi hAi hGi
        · refine y_aload 213 c150_212 rfl rfl rfl ?_
          refine y_iload 214 c150_213 rfl rfl ?_
          refine y_iload 216 c150_214 rfl rfl ?_
          have es12653 : mi 376 45 = m 376 45 := (hFi 376 45 rfl)
          have es12654 : mi 376 18 = m 376 18 := (hFi 376 18 rfl)
          refine y_callUB 219 [.ref 376, yI v, yI i] [] c150_216 rfl rfl rfl rfl rfl (ycanO km145 ko376) (t145 hTi (by omega) (by omega) (by omega)) (fun mq12652 nq12652 hq12652 => ?_)
          obtain ⟨rfl, hTq12652, hFq12652, hAq12652⟩ := hq12652
          have hF12655 := hFi.tr hFq12652 wAm_wAn
          refine y_iinc 222 c150_219 rfl rfl rfl ?_
          refine y_goto 131 c150_222 rfl ?_
          exact ih (m 388 1 - (i + 1) : Int).toNat (by omega) (i + 1)  _ (by omega) (by omega) hTq12652 hF12655 (hAi.tr hAq12652) (GM.fr hGi hFq12652)
set_option maxRecDepth 100000 in
theorem t150_1 {L : Nat} {xs : Nat → Int32} {d nn : Nat} {m : yM} {k : Int} (hT : Ty gT m) (hr : 1 ≤ m 376 45 ∧ m 376 45 ≤ 2000) (hn : m 376 18 = 1) (hG : GQ 1 m) (hko : 0 ≤ k ∧ k < m 390 1) (hM : GM 1 m) : YC (gZ L xs) (d + 3) 150 [.ref 376, yI (1000 + 8 * k)] m nn (qU (fun m' n' => n' = nn ∧ Ty gT m' ∧ Fr wAn m m' ∧ AN m m' ∧ GM 1 m')) := by
  have tb383 := hT.atp 383 1 0 6 rfl
  have tb384 := hT.atp 384 1 0 10 rfl
  have tb388 := hT.atp 388 1 0 12 rfl
  have tb390 := hT.atp 390 1 0 125 rfl
  have hw := hG.1.1 k.toNat (by omega)
  unfold OW at hw
  have hfx := hG.2.2.2.2.2.2.1 k.toNat (by omega)
  have g88 := hG.2.2.2.2.2.2.2.2.1
  have g90 := hG.2.2.2.2.2.2.2.2.2.2
  refine YC.mkB [some (.ref 376), some (yI (1000 + 8 * k)), none, none, none, none] kn150 rfl rfl ?_
  have hF : Fr wAn m m := Fr.rf
  refine y_aload 1 c150_0 rfl rfl rfl ?_
  refine y_getR 4 c150_1 rfl kf376_40 ?_
  refine y_iload 5 c150_4 rfl rfl ?_
  refine y_iaT 6 ((-2147483648)) 2147483647 c150_5 rfl ka403 (by omega) hT rfl (fun v12656 hv12656 gv12656 => ?_)
  have gv12656_ : m 403 (1000 * 1 + 8 * k.toNat) = v12656 := by rw [show 1000 * 1 + 8 * k.toNat = (1000 + 8 * k).toNat by omega]; exact (rfl).symm.trans hv12656
  refine y_istore 7 c150_6 rfl rfl ?_
  refine y_aload 8 c150_7 rfl rfl rfl ?_
  refine y_getR 11 c150_8 rfl kf376_40 ?_
  refine y_iload 12 c150_11 rfl rfl ?_
  refine y_iconst 13 c150_12 rfl ?_
  refine y_iadd 14 c150_13 rfl ?_
  refine y_iaT 15 ((-2147483648)) 2147483647 c150_14 rfl ka403 (by omega) hT rfl (fun v12657 hv12657 gv12657 => ?_)
  have gv12657_ : m 403 (1000 * 1 + 8 * k.toNat + 2) = v12657 := by rw [show 1000 * 1 + 8 * k.toNat + 2 = ((1000 + 8 * k) + 2).toNat by omega]; exact (rfl).symm.trans hv12657
  refine y_istore 16 c150_15 rfl rfl ?_
  refine y_aload 17 c150_16 rfl rfl rfl ?_
  refine y_getR 20 c150_17 rfl kf376_40 ?_
  refine y_iload 21 c150_20 rfl rfl ?_
  refine y_iconst 22 c150_21 rfl ?_
  refine y_iadd 23 c150_22 rfl ?_
  refine y_iaT 24 ((-2147483648)) 2147483647 c150_23 rfl ka403 (by omega) hT rfl (fun v12658 hv12658 gv12658 => ?_)
  have gv12658_ : m 403 (1000 * 1 + 8 * k.toNat + 3) = v12658 := by rw [show 1000 * 1 + 8 * k.toNat + 3 = ((1000 + 8 * k) + 3).toNat by omega]; exact (rfl).symm.trans hv12658
  refine y_istore 26 c150_24 rfl rfl ?_
  refine y_iload 27 c150_26 rfl rfl ?_
  refine y_iconst 28 c150_27 rfl ?_
  refine y_icmp 41 31 c150_28 rfl rfl (yc_ne (by omega) (by omega)) (fun hb12659 => ?_) (fun hb12659 => ?_)
  · refine y_iload 42 c150_41 rfl rfl ?_
    refine y_iconst 43 c150_42 rfl ?_
    refine y_icmp 56 46 c150_43 rfl rfl (yc_ne (by omega) (by omega)) (fun hb12660 => ?_) (fun hb12660 => ?_)
    · refine y_iload 57 c150_56 rfl rfl ?_
      refine y_iconst 59 c150_57 rfl ?_
      refine y_icmp 91 62 c150_59 rfl rfl (yc_ne (by omega) (by omega)) (fun hb12661 => ?_) (fun hb12661 => ?_)
      · refine y_iload 92 c150_91 rfl rfl ?_
        refine y_iconst 93 c150_92 rfl ?_
        refine y_icmp 101 96 c150_93 rfl rfl (yc_eq (by omega) (by omega)) (fun hb12662 => ?_) (fun hb12662 => ?_)
        · refine y_aload 102 c150_101 rfl rfl rfl ?_
          refine y_iload 103 c150_102 rfl rfl ?_
          refine y_callUB 106 [.ref 376, yI (1000 + 8 * k)] [] c150_103 rfl rfl rfl rfl rfl (ycanO km147 ko376) (t147_1 hT (by omega) (by omega) hG hko (by omega)) (fun mq12663 nq12663 hq12663 => ?_)
          obtain ⟨rfl, hTq12663, hFq12663, hAq12663⟩ := hq12663
          have hF12664 := hF.tr hFq12663 wAm_wAn
          refine y_goto 225 c150_106 rfl ?_
          exact y_retU c150_225 ⟨rfl, hTq12663, hF12664, (AN.rf.tr hAq12663), (GM.fr hM hFq12663)⟩
        · refine y_iload 97 c150_96 rfl rfl ?_
          refine y_iconst 98 c150_97 rfl ?_
          refine y_icmp 109 101 c150_98 rfl rfl (yc_ne (by omega) (by omega)) (fun hb12665 => ?_) (fun hb12665 => ?_)
          · refine y_iload 110 c150_109 rfl rfl ?_
            refine y_iconst 112 c150_110 rfl ?_
            refine y_icmp 123 115 c150_112 rfl rfl (yc_ne (by omega) (by omega)) (fun hb12666 => ?_) (fun hb12666 => ?_)
            · refine y_iload 124 c150_123 rfl rfl ?_
              refine y_iconst 125 c150_124 rfl ?_
              refine y_icmp 225 128 c150_125 rfl rfl (yc_ne (by omega) (by omega)) (fun hb12667 => ?_) (fun hb12667 => ?_)
              · exact y_retU c150_225 ⟨rfl, hT, hF, AN.rf, hM⟩
              · refine y_iconst 129 c150_128 rfl ?_
                refine y_istore 131 c150_129 rfl rfl ?_
                exact t150a_1 hT hr hn hG hko hM (w := v12656) (v := v12657) (u := v12658) (by omega) (by omega) (by omega) (m 388 1 - 0).toNat 0 m (by omega) (by omega) hT Fr.rf AN.rf hM
            · refine y_aload 116 c150_115 rfl rfl rfl ?_
              refine y_iload 117 c150_116 rfl rfl ?_
              refine y_callUB 120 [.ref 376, yI (1000 + 8 * k)] [] c150_117 rfl rfl rfl rfl rfl (ycanO km148 ko376) (t148_1 hT (by omega) (by omega) hG hko (by omega) hM) (fun mq12668 nq12668 hq12668 => ?_)
              obtain ⟨rfl, hTq12668, hFq12668, hAq12668, hMq12668⟩ := hq12668
              have hF12669 := hF.tr hFq12668 (fun _ _ e => e)
              refine y_goto 225 c150_120 rfl ?_
              exact y_retU c150_225 ⟨rfl, hTq12668, hF12669, (AN.rf.tr hAq12668), hMq12668⟩
          · refine y_aload 102 c150_101 rfl rfl rfl ?_
            refine y_iload 103 c150_102 rfl rfl ?_
            refine y_callUB 106 [.ref 376, yI (1000 + 8 * k)] [] c150_103 rfl rfl rfl rfl rfl (ycanO km147 ko376) (t147_1 hT (by omega) (by omega) hG hko (by omega)) (fun mq12670 nq12670 hq12670 => ?_)
            obtain ⟨rfl, hTq12670, hFq12670, hAq12670⟩ := hq12670
            have hF12671 := hF.tr hFq12670 wAm_wAn
            refine y_goto 225 c150_106 rfl ?_
            exact y_retU c150_225 ⟨rfl, hTq12670, hF12671, (AN.rf.tr hAq12670), (GM.fr hM hFq12670)⟩
      · refine y_aload 63 c150_62 rfl rfl rfl ?_
        refine y_aload 64 c150_63 rfl rfl rfl ?_
        refine y_getR 67 c150_64 rfl kf376_35 ?_
        refine y_iconst 69 c150_67 rfl ?_
        refine y_aload 70 c150_69 rfl rfl rfl ?_
        refine y_getX 73 (m 376 18) c150_70 rfl kf376_18 rfl ?_
        refine y_top 1 (by omega) ?_
        refine y_imul 74 c150_73 rfl ?_
        refine y_top 10 (by decide) ?_
        refine y_aload 75 c150_74 rfl rfl rfl ?_
        refine y_getR 78 c150_75 rfl kf376_40 ?_
        refine y_iload 79 c150_78 rfl rfl ?_
        refine y_iconst 80 c150_79 rfl ?_
        refine y_iadd 81 c150_80 rfl ?_
        refine y_iaT 82 ((-2147483648)) 2147483647 c150_81 rfl ka403 (by omega) hT rfl (fun v12672 hv12672 gv12672 => ?_)
        have gv12672_ : m 403 (1000 * 1 + 8 * k.toNat + 1) = v12672 := by rw [show 1000 * 1 + 8 * k.toNat + 1 = ((1000 + 8 * k) + 1).toNat by omega]; exact (rfl).symm.trans hv12672
        refine y_iadd 83 c150_82 rfl ?_
        refine y_iaT 84 0 46 c150_83 rfl ka398 (by omega) hT rfl (fun v12673 hv12673 gv12673 => ?_)
        refine y_iload 85 c150_84 rfl rfl ?_
        refine y_callUB 88 [.ref 376, yI v12673, yI v12657] [] c150_85 rfl rfl rfl rfl rfl (ycanO km146 ko376) (t146_1 hT (by omega) (by omega) (by omega) (by omega)) (fun mq12674 nq12674 hq12674 => ?_)
        obtain ⟨rfl, hTq12674, hFq12674, hAq12674⟩ := hq12674
        have hF12675 := hF.tr hFq12674 wAm_wAn
        refine y_goto 225 c150_88 rfl ?_
        exact y_retU c150_225 ⟨rfl, hTq12674, hF12675, (AN.rf.tr hAq12674), (GM.fr hM hFq12674)⟩
    · refine y_aload 47 c150_46 rfl rfl rfl ?_
      refine y_iload 48 c150_47 rfl rfl ?_
      refine y_iload 50 c150_48 rfl rfl ?_
      refine y_callUB 53 [.ref 376, yI v12657, yI v12658] [] c150_50 rfl rfl rfl rfl rfl (ycanO km146 ko376) (t146_1 hT (by omega) (by omega) (by omega) (by omega)) (fun mq12676 nq12676 hq12676 => ?_)
      obtain ⟨rfl, hTq12676, hFq12676, hAq12676⟩ := hq12676
      have hF12677 := hF.tr hFq12676 wAm_wAn
      refine y_goto 225 c150_53 rfl ?_
      exact y_retU c150_225 ⟨rfl, hTq12676, hF12677, (AN.rf.tr hAq12676), (GM.fr hM hFq12676)⟩
  · refine y_aload 32 c150_31 rfl rfl rfl ?_
    refine y_iload 33 c150_32 rfl rfl ?_
    refine y_iload 35 c150_33 rfl rfl ?_
    refine y_callUB 38 [.ref 376, yI v12657, yI v12658] [] c150_35 rfl rfl rfl rfl rfl (ycanO km145 ko376) (t145 hT (by omega) (by omega) (by omega)) (fun mq12678 nq12678 hq12678 => ?_)
    obtain ⟨rfl, hTq12678, hFq12678, hAq12678⟩ := hq12678
    have hF12679 := hF.tr hFq12678 wAm_wAn
    refine y_goto 225 c150_38 rfl ?_
    exact y_retU c150_225 ⟨rfl, hTq12678, hF12679, (AN.rf.tr hAq12678), (GM.fr hM hFq12678)⟩
end
section
/-! THE MODEL: names are settled; between its calls -/
section STL
variable {p : Nat} {m m' : yM} {n c : Int}
theorem OX.x4 (h : OX p m n c) (e : ∀ o j : Nat, j < 8 → j ≠ 4 → m' 403 (1000 * p + 8 * o + j) = m 403 (1000 * p + 8 * o + j)) (e4 : ∀ o : Nat, m 403 (1000 * p + 8 * o) = 3 → m' 403 (1000 * p + 8 * o + 4) = m 403 (1000 * p + 8 * o + 4)) : OX p m' n c := by
  have e0 : ∀ o : Nat, m' 403 (1000 * p + 8 * o) = m 403 (1000 * p + 8 * o) := fun o => e o 0 (by decide) (by decide)
  obtain ⟨h1, h2, h3, h4⟩ := h
  refine ⟨fun o ho => ?_, fun o ho => ?_, fun o ho => ?_, fun i j hij hj => ?_⟩
  · have hw := h1 o ho
    unfold OW at hw ⊢
    rw [e0 o, e o 1 (by decide) (by decide), e o 2 (by decide) (by decide), e o 3 (by decide) (by decide), e o 5 (by decide) (by decide), e o 6 (by decide) (by decide), e o 7 (by decide) (by decide)]
    obtain ⟨w1, w2, w3, w4, w5, w6, w7, w8, w9⟩ := hw
    refine ⟨w1, w2, w3, w4, w5, w6, w7, fun q => ?_, w9⟩
    rw [e4 o q]
    exact w8 q
  · rw [e0 o, e o 3 (by decide) (by decide)]
    exact h2 o ho
  · rw [e0 o, e o 5 (by decide) (by decide)]
    exact h3 o ho
  · rw [e0 i, e0 j, e i 5 (by decide) (by decide), e j 5 (by decide) (by decide)]
    exact h4 i j hij hj
theorem JA.x4 (h : JA p m n) (e : ∀ o j : Nat, j < 8 → j ≠ 4 → m' 403 (1000 * p + 8 * o + j) = m 403 (1000 * p + 8 * o + j)) : JA p m' n := by
  have e0 : ∀ o : Nat, m' 403 (1000 * p + 8 * o) = m 403 (1000 * p + 8 * o) := fun o => e o 0 (by decide) (by decide)
  intro o ho k
  rw [e0 o] at k
  have := h o ho k
  unfold JK at this ⊢
  rw [e o 3 (by decide) (by decide), e0]
  exact this
theorem LE.x4 (h : LE p m n) (e : ∀ o j : Nat, j < 8 → j ≠ 4 → m' 403 (1000 * p + 8 * o + j) = m 403 (1000 * p + 8 * o + j)) : LE p m' n := by
  have e0 : ∀ o : Nat, m' 403 (1000 * p + 8 * o) = m 403 (1000 * p + 8 * o) := fun o => e o 0 (by decide) (by decide)
  refine ⟨fun o ho => ?_, fun o ho => ?_⟩
  · rw [e0 o]
    exact h.1 o ho
  · rw [e0 o, e o 3 (by decide) (by decide)]
    exact h.2 o ho
theorem FX.snoc {k : Int} (h : FX p m k) (h0 : 0 ≤ k) (h1 : (m 403 (1000 * p + 8 * k.toNat) = 4 ∨ m 403 (1000 * p + 8 * k.toNat) = 5) → -1 ≤ m 403 (1000 * p + 8 * k.toNat + 4) ∧ m 403 (1000 * p + 8 * k.toNat + 4) ≤ 7) : FX p m (k + 1) := by
  intro o ho hk
  by_cases q : (o : Int) < k
  · exact h o q hk
  · have : o = k.toNat := by omega
    subst this
    exact h1 hk
theorem FX.fr {k : Int} (h : FX p m k) (e : ∀ o : Nat, (o : Int) < k → m' 403 (1000 * p + 8 * o) = m 403 (1000 * p + 8 * o) ∧ m' 403 (1000 * p + 8 * o + 4) = m 403 (1000 * p + 8 * o + 4)) : FX p m' k := by
  intro o ho hk
  rw [(e o ho).1] at hk
  rw [(e o ho).2]
  exact h o ho hk
theorem SX.snoc {k : Int} (h : SX p m k c) (h0 : 0 ≤ k) (h1 : -1 ≤ m 400 (12 * p + k.toNat) ∧ m 400 (12 * p + k.toNat) < c) : SX p m (k + 1) c := by
  intro i hi
  by_cases q : (i : Int) < k
  · exact h i q
  · have : i = k.toNat := by omega
    subst this
    exact h1
theorem SX.fr {k : Int} (h : SX p m k c) (e : ∀ i : Nat, (i : Int) < k → m' 400 (12 * p + i) = m 400 (12 * p + i)) : SX p m' k c := by
  intro i hi
  rw [e i hi]
  exact h i hi
end STL
/-- what a call of the model may write -/
def wML (a q : Nat) : Bool := (a == 376 && decide (q ≠ 1)) || decide (378 ≤ a ∧ a ≤ 412)
/-- what stands between the model's calls -/
def MI (m : yM) : Prop := Ty gT m ∧ (m 376 19 = 0 ∨ (m 376 18 = 0 ∧ GQ 0 m) ∨ (m 376 18 = 1 ∧ GQ 1 m))
theorem wML_of {w : Nat → Nat → Bool} (h : ∀ a q, w a q = true → (a = 376 ∧ q ≠ 1) ∨ (378 ≤ a ∧ a ≤ 412)) : ∀ a q, w a q = true → wML a q = true := by
  intro a q e
  have := h a q e
  simp [wML]
  omega
end
section
/-! CONTRACTS: the model, rounds. Printed by wip/whole/gen9d.py -/
def wAz (a q : Nat) : Bool := (a == 376 && (q == 45 || q == 46 || q == 47)) || decide (404 ≤ a ∧ a ≤ 407)
theorem wAn_wAz : ∀ a q, wAn a q = true → wAz a q = true := by
  intro a q h
  simp [wAn] at h
  simp [wAz]
  omega
theorem wAm_wAz : ∀ a q, wAm a q = true → wAz a q = true := by
  intro a q h
  simp [wAm] at h
  simp [wAz]
  omega
theorem wRo_wAz {R : Nat} (h : 404 ≤ R ∧ R ≤ 407) : ∀ a q, wRo R a q = true → wAz a q = true := by
  intro a q e
  simp [wRo] at e
  simp [wAz]
  omega
theorem wAz_G {p : Nat} : ∀ a q, vGq p a q = true → wAz a q = false := by
  intro a q h
  cases e : wAz a q with
  | false => rfl
  | true => simp [wAz] at e; simp [vGq] at h; omega
set_option maxRecDepth 100000 in
theorem t151_404 {L : Nat} {xs : Nat → Int32} {d nn : Nat} {m : yM} {Q : xO → yM → Nat → Prop} (hT : Ty gT m) (ho : ∀ (x1 : Option Value) (mi : yM), Ty gT mi → Fr (wRo 404) m mi → YW (gZ L xs) 151 (d + 5) 22 [some (.ref 376), x1, none, none] [] mi nn Q) : ∀ (km : Nat) (i : Int) (mi : yM), 576 - i = km → 0 ≤ i ∧ i ≤ 576 → Ty gT mi → Fr (wRo 404) m mi → YW (gZ L xs) 151 (d + 5) 2 [some (.ref 376), some (yI i), none, none] [] mi nn (Q) := by
  intro km
  induction km using Nat.strongRecOn with
  | ind km ih =>
    intro i mi hk hi hTi hFi
    refine y_iload 3 c151_2 rfl rfl ?_
    refine y_iconst 6 c151_3 rfl ?_
    refine y_icmp 22 9 c151_6 rfl rfl (yc_ge (by omega) (by omega)) (fun hb12680 => ?_) (fun hb12680 => ?_)
    · exact ho _ _ hTi hFi
    · refine y_aload 10 c151_9 rfl rfl rfl ?_
      refine y_getR 13 c151_10 rfl kf376_41 ?_
      refine y_iload 14 c151_13 rfl rfl ?_
      refine y_iconst 15 c151_14 rfl ?_
      refine y_iastore 16 c151_15 rfl ka404 (by omega) (y_nar0 _) ?_
      have hT12681 := hTi.up 404 i.toNat ((-1)) ((-2147483648)) 2147483647 rfl (by omega)
      have hF12682 := hFi.up 404 i.toNat ((-1)) rfl
      refine y_iinc 19 c151_16 rfl rfl rfl ?_
      refine y_goto 2 c151_19 rfl ?_
      exact ih (576 - (i + 1) : Int).toNat (by omega) (i + 1)  _ (by omega) (by omega) hT12681 hF12682
set_option maxRecDepth 100000 in
theorem t151_405 {L : Nat} {xs : Nat → Int32} {d nn : Nat} {m : yM} {Q : xO → yM → Nat → Prop} (hT : Ty gT m) (ho : ∀ (x1 : Option Value) (mi : yM), Ty gT mi → Fr (wRo 405) m mi → YW (gZ L xs) 151 (d + 5) 44 [some (.ref 376), x1, none, none] [] mi nn Q) : ∀ (km : Nat) (i : Int) (mi : yM), 1152 - i = km → 0 ≤ i ∧ i ≤ 1152 → Ty gT mi → Fr (wRo 405) m mi → YW (gZ L xs) 151 (d + 5) 24 [some (.ref 376), some (yI i), none, none] [] mi nn (Q) := by
  intro km
  induction km using Nat.strongRecOn with
  | ind km ih =>
    intro i mi hk hi hTi hFi
    refine y_iload 25 c151_24 rfl rfl ?_
    refine y_iconst 28 c151_25 rfl ?_
    refine y_icmp 44 31 c151_28 rfl rfl (yc_ge (by omega) (by omega)) (fun hb12683 => ?_) (fun hb12683 => ?_)
    · exact ho _ _ hTi hFi
    · refine y_aload 32 c151_31 rfl rfl rfl ?_
      refine y_getR 35 c151_32 rfl kf376_42 ?_
      refine y_iload 36 c151_35 rfl rfl ?_
      refine y_iconst 37 c151_36 rfl ?_
      refine y_iastore 38 c151_37 rfl ka405 (by omega) (y_nar0 _) ?_
      have hT12684 := hTi.up 405 i.toNat ((-1)) ((-2147483648)) 2147483647 rfl (by omega)
      have hF12685 := hFi.up 405 i.toNat ((-1)) rfl
      refine y_iinc 41 c151_38 rfl rfl rfl ?_
      refine y_goto 24 c151_41 rfl ?_
      exact ih (1152 - (i + 1) : Int).toNat (by omega) (i + 1)  _ (by omega) (by omega) hT12684 hF12685
set_option maxRecDepth 100000 in
theorem t151_406 {L : Nat} {xs : Nat → Int32} {d nn : Nat} {m : yM} {Q : xO → yM → Nat → Prop} (hT : Ty gT m) (ho : ∀ (x1 : Option Value) (mi : yM), Ty gT mi → Fr (wRo 406) m mi → (∀ q, q < 120 → mi 406 q = -1) → YW (gZ L xs) 151 (d + 5) 65 [some (.ref 376), x1, none, none] [] mi nn Q) : ∀ (km : Nat) (i : Int) (mi : yM), 120 - i = km → 0 ≤ i ∧ i ≤ 120 → Ty gT mi → Fr (wRo 406) m mi → (∀ q, q < i.toNat → mi 406 q = -1) → YW (gZ L xs) 151 (d + 5) 46 [some (.ref 376), some (yI i), none, none] [] mi nn (Q) := by
  intro km
  induction km using Nat.strongRecOn with
  | ind km ih =>
    intro i mi hk hi hTi hFi hz
    refine y_iload 47 c151_46 rfl rfl ?_
    refine y_iconst 49 c151_47 rfl ?_
    refine y_icmp 65 52 c151_49 rfl rfl (yc_ge (by omega) (by omega)) (fun hb12686 => ?_) (fun hb12686 => ?_)
    · exact ho _ _ hTi hFi (fun q hq => hz q (by omega))
    · refine y_aload 53 c151_52 rfl rfl rfl ?_
      refine y_getR 56 c151_53 rfl kf376_43 ?_
      refine y_iload 57 c151_56 rfl rfl ?_
      refine y_iconst 58 c151_57 rfl ?_
      refine y_iastore 59 c151_58 rfl ka406 (by omega) (y_nar0 _) ?_
      have hT12687 := hTi.up 406 i.toNat ((-1)) ((-2147483648)) 2147483647 rfl (by omega)
      have hF12688 := hFi.up 406 i.toNat ((-1)) rfl
      refine y_iinc 62 c151_59 rfl rfl rfl ?_
      refine y_goto 46 c151_62 rfl ?_
      exact ih (120 - (i + 1) : Int).toNat (by omega) (i + 1)  _ (by omega) (by omega) hT12687 hF12688 (fun q hq => by
          by_cases e : q = i.toNat
          · subst e; exact yup_eq _ _ _ _
          · rw [yup_nk e]; exact hz q (by omega))
set_option maxRecDepth 100000 in
theorem t151_407 {L : Nat} {xs : Nat → Int32} {d nn : Nat} {m : yM} {Q : xO → yM → Nat → Prop} (hT : Ty gT m) (ho : ∀ (x1 : Option Value) (mi : yM), Ty gT mi → Fr (wRo 407) m mi → YW (gZ L xs) 151 (d + 5) 86 [some (.ref 376), x1, none, none] [] mi nn Q) : ∀ (km : Nat) (i : Int) (mi : yM), 10 - i = km → 0 ≤ i ∧ i ≤ 10 → Ty gT mi → Fr (wRo 407) m mi → YW (gZ L xs) 151 (d + 5) 67 [some (.ref 376), some (yI i), none, none] [] mi nn (Q) := by
  intro km
  induction km using Nat.strongRecOn with
  | ind km ih =>
    intro i mi hk hi hTi hFi
    refine y_iload 68 c151_67 rfl rfl ?_
    refine y_iconst 70 c151_68 rfl ?_
    refine y_icmp 86 73 c151_70 rfl rfl (yc_ge (by omega) (by omega)) (fun hb12689 => ?_) (fun hb12689 => ?_)
    · exact ho _ _ hTi hFi
    · refine y_aload 74 c151_73 rfl rfl rfl ?_
      refine y_getR 77 c151_74 rfl kf376_44 ?_
      refine y_iload 78 c151_77 rfl rfl ?_
      refine y_iconst 79 c151_78 rfl ?_
      refine y_iastore 80 c151_79 rfl ka407 (by omega) (y_nar0 _) ?_
      have hT12690 := hTi.up 407 i.toNat ((-1)) ((-2147483648)) 2147483647 rfl (by omega)
      have hF12691 := hFi.up 407 i.toNat ((-1)) rfl
      refine y_iinc 83 c151_80 rfl rfl rfl ?_
      refine y_goto 67 c151_83 rfl ?_
      exact ih (10 - (i + 1) : Int).toNat (by omega) (i + 1)  _ (by omega) (by omega) hT12690 hF12691
end
section
/-! CONTRACTS: the model, rounds. Printed by wip/whole/gen9d.py -/
set_option maxRecDepth 100000 in
theorem t143_0 {L : Nat} {xs : Nat → Int32} {d nn : Nat} {m : yM} (hT : Ty gT m) (hn : m 376 18 = 0) (hG : GQ 0 m) : YC (gZ L xs) (d + 2) 143 [.ref 376] m nn (qP m nn (fun r => -1 ≤ r ∧ r < m 384 0)) := by
  have tb383 := hT.atp 383 0 0 6 rfl
  have tb384 := hT.atp 384 0 0 10 rfl
  have tb388 := hT.atp 388 0 0 12 rfl
  have tb390 := hT.atp 390 0 0 125 rfl
  have g83 := hG.2.2.2.2.2.2.2.2.2.1
  refine YC.mkB [some (.ref 376)] kn143 rfl rfl ?_
  refine y_aload 1 c143_0 rfl rfl rfl ?_
  refine y_aload 2 c143_1 rfl rfl rfl ?_
  refine y_getX 5 (m 376 18) c143_2 rfl kf376_18 rfl ?_
  have tb12692 := hT.atp 376 18 0 1 rfl
  refine y_top 0 (by omega) ?_
  refine y_iconst 6 c143_5 rfl ?_
  refine y_iconst 8 c143_6 rfl ?_
  refine y_iconst 10 c143_8 rfl ?_
  refine y_iconst 11 c143_10 rfl ?_
  refine y_iconst 12 c143_11 rfl ?_
  refine y_iconst 13 c143_12 rfl ?_
  refine y_iconst 14 c143_13 rfl ?_
  refine y_callP 17 [yI 103, yI 111, yI 0, yI 0, yI 0, yI 0] [yI 0, yI 0, .ref 376] c143_14 rfl rfl rfl rfl rfl (ycanS km101) (t101 (by omega) (by omega) (by omega) (by omega) (by omega) (by omega)) (fun r12693 hr12693 => ?_)
  refine y_iconst 18 c143_17 rfl ?_
  refine y_callP 21 [.ref 376, yI 0, yI 0, yI r12693, yI 0] [] c143_18 rfl rfl rfl rfl rfl (ycanO km142 ko376) (t142_0 hT hG.2.2.2.2.1 (by omega) (by omega) (by omega)) (fun r12694 hr12694 => ?_)
  exact y_retP c143_21 (y_fit0 _) (by omega)
set_option maxRecDepth 100000 in
theorem t151i_0 {L : Nat} {xs : Nat → Int32} {d nn : Nat} {m : yM} {Q : xO → yM → Nat → Prop} {b : Int} (hT : Ty gT m) (hr : 1 ≤ m 376 45 ∧ m 376 45 ≤ 2000) (hn : m 376 18 = 0) (hG : GQ 0 m) (ho : ∀ (x2 x3 : Option Value) (mi : yM), Ty gT mi → Fr wAn m mi → AN m mi → GM 0 mi → YW (gZ L xs) 151 (d + 5) 225 [some (.ref 376), some (yI b), x2, x3] [] mi nn Q) : ∀ (km : Nat) (i : Int) (x3 : Option Value) (mi : yM), m 390 0 - i = km → 0 ≤ i ∧ i ≤ m 390 0 → Ty gT mi → Fr wAn m mi → AN m mi → GM 0 mi → YW (gZ L xs) 151 (d + 5) 167 [some (.ref 376), some (yI b), some (yI i), x3] [] mi nn (Q) := by
  intro km
  induction km using Nat.strongRecOn with
  | ind km ih =>
    intro i x3 mi hk hi hTi hFi hAi hGi
    have tb383 := hT.atp 383 0 0 6 rfl
    have tb384 := hT.atp 384 0 0 10 rfl
    have tb388 := hT.atp 388 0 0 12 rfl
    have tb390 := hT.atp 390 0 0 125 rfl
    have g90 := hG.2.2.2.2.2.2.2.2.2.2
    refine y_iload 168 c151_167 rfl rfl ?_
    refine y_aload 169 c151_168 rfl rfl rfl ?_
    refine y_getR 172 c151_169 rfl kf376_27 ?_
    refine y_aload 173 c151_172 rfl rfl rfl ?_
    refine y_getX 176 (m 376 18) c151_173 rfl kf376_18 (hFi 376 18 rfl) ?_
    have tb12695 := hT.atp 376 18 0 1 rfl
    refine y_top 0 (by omega) ?_
    refine y_iaX 177 (m 390 0) c151_176 rfl ka390 (by decide) (hFi 390 0 rfl) ?_
    refine y_icmp 225 180 c151_177 rfl rfl (yc_ge (by omega) (by omega)) (fun hb12696 => ?_) (fun hb12696 => ?_)
    · exact ho _ _ _ hTi hFi hAi hGi
    · refine y_iconst 183 c151_180 rfl ?_
      refine y_aload 184 c151_183 rfl rfl rfl ?_
      refine y_getX 187 (m 376 18) c151_184 rfl kf376_18 (hFi 376 18 rfl) ?_
      refine y_top 0 (by omega) ?_
      refine y_imul 188 c151_187 rfl ?_
      refine y_top 0 (by decide) ?_
      refine y_iconst 190 c151_188 rfl ?_
      refine y_iload 191 c151_190 rfl rfl ?_
      refine y_imul 192 c151_191 rfl ?_
      refine y_iadd 193 c151_192 rfl ?_
      refine y_istore 194 c151_193 rfl rfl ?_
      refine y_aload 195 c151_194 rfl rfl rfl ?_
      refine y_aload 196 c151_195 rfl rfl rfl ?_
      refine y_getR 199 c151_196 rfl kf376_44 ?_
      refine y_aload 200 c151_199 rfl rfl rfl ?_
      refine y_getR 203 c151_200 rfl kf376_40 ?_
      refine y_iload 204 c151_203 rfl rfl ?_
      refine y_iconst 205 c151_204 rfl ?_
      refine y_iadd 206 c151_205 rfl ?_
      refine y_iaT 207 ((-2147483648)) 2147483647 c151_206 rfl ka403 (by omega) hTi rfl (fun v12697 hv12697 gv12697 => ?_)
      have gv12697_ : m 403 (1000 * 0 + 8 * i.toNat + 1) = v12697 := by rw [show 1000 * 0 + 8 * i.toNat + 1 = ((0 + (8 * i)) + 1).toNat by omega]; exact ((hFi 403 _ rfl)).symm.trans hv12697
      have hw := hG.1.1 i.toNat (by omega)
      unfold OW at hw
      refine y_iaT 208 ((-2147483648)) 2147483647 c151_207 rfl ka407 (by omega) hTi rfl (fun v12698 hv12698 gv12698 => ?_)
      refine y_callP 211 [.ref 376, yI v12698] [] c151_208 rfl rfl rfl rfl rfl (ycanO km144 ko376) (t144 hTi (by omega)) (fun r12699 hr12699 => ?_)
      refine y_if 219 214 c151_211 rfl rfl (yz_eq (by omega)) (fun hb12700 => ?_) (fun hb12700 => ?_)
      · refine y_iinc 222 c151_219 rfl rfl rfl ?_
        refine y_goto 167 c151_222 rfl ?_
        exact ih (m 390 0 - (i + 1) : Int).toNat (by omega) (i + 1) _  _ (by omega) (by omega) hTi hFi hAi hGi
      · refine y_aload 215 c151_214 rfl rfl rfl ?_
        refine y_iload 216 c151_215 rfl rfl ?_
        have es12702 : mi 376 45 = m 376 45 := (hFi 376 45 rfl)
        have tb12703 := hT.atp 376 45 ((-2147483648)) 2147483647 rfl
        have es12704 : mi 376 18 = m 376 18 := (hFi 376 18 rfl)
        have es12705 : mi 390 0 = m 390 0 := (hFi 390 0 rfl)
        refine y_callUB 219 [.ref 376, yI (0 + (8 * i))] [] c151_216 rfl rfl rfl rfl rfl (ycanO km150 ko376) (t150_0 (k := i) hTi (by omega) (by omega) (hG.fr hT (by decide) (fun a q ha => hFi a q (wAn_G a q ha))) (by omega) hGi) (fun mq12701 nq12701 hq12701 => ?_)
        obtain ⟨rfl, hTq12701, hFq12701, hAq12701, hMq12701⟩ := hq12701
        have hF12706 := hFi.tr hFq12701 (fun _ _ e => e)
        refine y_iinc 222 c151_219 rfl rfl rfl ?_
        refine y_goto 167 c151_222 rfl ?_
        exact ih (m 390 0 - (i + 1) : Int).toNat (by omega) (i + 1) _  _ (by omega) (by omega) hTq12701 hF12706 (hAi.tr hAq12701) hMq12701
set_option maxRecDepth 100000 in
theorem t151w_0 {L : Nat} {xs : Nat → Int32} {d nn : Nat} {m : yM} {b : Int} (hT : Ty gT m) (hn : m 376 18 = 0) (hG : GQ 0 m) : ∀ (k : Nat) (x2 x3 : Option Value) (mi : yM), 2 * (NEG mi : Int) + mi 376 46 = k → Ty gT mi → Fr wAz m mi → GM 0 mi → (0 ≤ mi 376 45 ∧ mi 376 45 ≤ 1900) → (mi 376 46 = 1 → mi 376 45 + NEG mi ≤ 1858) → YW (gZ L xs) 151 (d + 5) 143 [some (.ref 376), some (yI b), x2, x3] [] mi nn (qU (fun m' n' => n' = nn ∧ Ty gT m' ∧ Fr wAz m m')) := by
  intro k
  induction k using Nat.strongRecOn with
  | ind k ih =>
    intro x2 x3 mi hk hTi hFi hGi h45 hfr
    have tf := hTi.atp 376 46 0 1 rfl
    have en : mi 376 18 = m 376 18 := hFi 376 18 rfl
    refine y_aload 144 c151_143 rfl rfl rfl ?_
    refine y_getX 147 (mi 376 46) c151_144 rfl kf376_46 rfl ?_
    refine y_if 243 150 c151_147 rfl rfl (yz_eq (by omega)) (fun hb12707 => ?_) (fun hb12707 => ?_)
    · exact y_retU c151_243 ⟨rfl, hTi, hFi⟩
    · refine y_aload 151 c151_150 rfl rfl rfl ?_
      refine y_iconst 152 c151_151 rfl ?_
      refine y_putI 155 c151_152 rfl kf376_46 (y_fit1 (by omega)) ?_
      have hT12708 := hTi.up 376 46 0 0 1 rfl (by omega)
      have hF12709 := hFi.up 376 46 0 rfl
      refine y_aload 156 c151_155 rfl rfl rfl ?_
      refine y_dup 157 c151_156 rfl rfl ?_
      refine y_getX 160 (mi 376 45) c151_157 rfl kf376_45 rfl ?_
      refine y_iconst 161 c151_160 rfl ?_
      refine y_iadd 162 c151_161 rfl ?_
      refine y_putI 165 c151_162 rfl kf376_45 (y_fit0 _) ?_
      have hT12710 := hT12708.up 376 45 ((mi 376 45) + 1) ((-2147483648)) 2147483647 rfl (by omega)
      have hF12711 := hF12709.up 376 45 ((mi 376 45) + 1) rfl
      refine y_iconst 166 c151_165 rfl ?_
      refine y_istore 167 c151_166 rfl rfl ?_
      have es12712 : (yup (yup mi 376 46 0) 376 45 ((mi 376 45) + 1)) 376 45 = (mi 376 45) + 1 := rfl
      have es12713 : (yup (yup mi 376 46 0) 376 45 ((mi 376 45) + 1)) 376 46 = 0 := rfl
      have es12714 : (yup (yup mi 376 46 0) 376 45 ((mi 376 45) + 1)) 376 18 = m 376 18 := ((yup_nk (by decide)).trans ((yup_nk (by decide)).trans (hFi 376 18 rfl)))
      have tb12715 := hT.atp 376 18 0 1 rfl
      have hGc : GQ 0 (yup (yup mi 376 46 0) 376 45 ((mi 376 45) + 1)) := hG.fr hT (by decide) (fun a q ha => (yup_ne (by rintro ⟨rfl, rfl⟩; simp [vGq] at ha)).trans ((yup_ne (by rintro ⟨rfl, rfl⟩; simp [vGq] at ha)).trans (hFi a q (wAz_G a q ha))))
      have hNe : NEG (yup (yup mi 376 46 0) 376 45 ((mi 376 45) + 1)) = NEG mi := rfl
      have tq90 := hT12710.atp 390 0 0 125 rfl
      refine t151i_0 (m := yup (yup mi 376 46 0) 376 45 ((mi 376 45) + 1)) (b := b) hT12710 (by omega) (by omega) hGc (fun y2 y3 mj j1 j2 j3 j4 => ?_) ((yup (yup mi 376 46 0) 376 45 ((mi 376 45) + 1)) 390 0 - 0).toNat 0 _ _ (by omega) (by omega) hT12710 Fr.rf AN.rf (GM.up (GM.up hGi (by decide)) (by decide))
      have hng := j3.neg
      have tj := j1.atp 376 46 0 1 rfl
      have hF12716 := hF12711.tr j2 wAn_wAz
      refine y_aload 226 c151_225 rfl rfl rfl ?_
      refine y_getX 229 (mj 376 46) c151_226 rfl kf376_46 rfl ?_
      refine y_if 143 232 c151_229 rfl rfl (yz_eq (by omega)) (fun hb12717 => ?_) (fun hb12717 => ?_)
      · have es12718 : mj 376 45 = (mi 376 45) + 1 := ((j2 376 45 rfl).trans (yup_eq _ _ _ _))
        exact ih (2 * (NEG mj : Int) + mj 376 46).toNat (by omega) _ _ _ (by omega) j1 hF12716 j4 (by omega) (by omega)
      · refine y_aload 233 c151_232 rfl rfl rfl ?_
        refine y_aload 234 c151_233 rfl rfl rfl ?_
        refine y_getX 237 ((mi 376 45) + 1) c151_234 rfl kf376_45 ((j2 376 45 rfl).trans (yup_eq _ _ _ _)) ?_
        refine y_putI 240 c151_237 rfl kf376_47 (y_fit0 _) ?_
        have hT12719 := j1.up 376 47 ((mi 376 45) + 1) ((-2147483648)) 2147483647 rfl (by omega)
        have hF12720 := hF12716.up 376 47 ((mi 376 45) + 1) rfl
        refine y_goto 143 c151_240 rfl ?_
        have es12721 : (yup mj 376 47 ((mi 376 45) + 1)) 376 45 = (mi 376 45) + 1 := ((yup_nk (by decide)).trans ((j2 376 45 rfl).trans (yup_eq _ _ _ _)))
        have es12722 : (yup mj 376 47 ((mi 376 45) + 1)) 376 46 = mj 376 46 := rfl
        have hN2 : NEG (yup mj 376 47 ((mi 376 45) + 1)) = NEG mj := rfl
        exact ih (2 * (NEG (yup mj 376 47 ((mi 376 45) + 1)) : Int) + (yup mj 376 47 ((mi 376 45) + 1)) 376 46).toNat (by omega) _ _ _ (by omega) hT12719 hF12720 (GM.up j4 (by decide)) (by omega) (by omega)
set_option maxRecDepth 100000 in
theorem t151_0 {L : Nat} {xs : Nat → Int32} {d nn : Nat} {m : yM} (hT : Ty gT m) (hn : m 376 18 = 0) (hG : GQ 0 m) : YC (gZ L xs) (d + 5) 151 [.ref 376] m nn (qU (fun m' n' => n' = nn ∧ Ty gT m' ∧ Fr wAz m m')) := by
  have tb383 := hT.atp 383 0 0 6 rfl
  have tb384 := hT.atp 384 0 0 10 rfl
  have tb388 := hT.atp 388 0 0 12 rfl
  have tb390 := hT.atp 390 0 0 125 rfl
  refine YC.mkB [some (.ref 376), none, none, none] kn151 rfl rfl ?_
  have hF : Fr wAz m m := Fr.rf
  refine y_iconst 1 c151_0 rfl ?_
  refine y_istore 2 c151_1 rfl rfl ?_
  refine t151_404 hT (fun x1_404 me404 hTme404 hFme404 => ?_) 576 0 _ (by omega) (by omega) hT Fr.rf
  have hF12723 := hF.tr hFme404 (wRo_wAz (by decide))
  refine y_iconst 23 c151_22 rfl ?_
  refine y_istore 24 c151_23 rfl rfl ?_
  refine t151_405 hTme404 (fun x1_405 me405 hTme405 hFme405 => ?_) 1152 0 _ (by omega) (by omega) hTme404 Fr.rf
  have hF12724 := hF12723.tr hFme405 (wRo_wAz (by decide))
  refine y_iconst 45 c151_44 rfl ?_
  refine y_istore 46 c151_45 rfl rfl ?_
  refine t151_406 hTme405 (fun x1_406 me406 hTme406 hFme406 hz6 => ?_) 120 0 _ (by omega) (by omega) hTme405 Fr.rf (fun q hq => by simp at hq)
  have hF12725 := hF12724.tr hFme406 (wRo_wAz (by decide))
  refine y_iconst 66 c151_65 rfl ?_
  refine y_istore 67 c151_66 rfl rfl ?_
  refine t151_407 hTme406 (fun x1_407 me407 hTme407 hFme407 => ?_) 10 0 _ (by omega) (by omega) hTme406 Fr.rf
  have hF12726 := hF12725.tr hFme407 (wRo_wAz (by decide))
  refine y_aload 87 c151_86 rfl rfl rfl ?_
  refine y_iconst 88 c151_87 rfl ?_
  refine y_putI 91 c151_88 rfl kf376_47 (y_fit0 _) ?_
  have hT12727 := hTme407.up 376 47 0 ((-2147483648)) 2147483647 rfl (by omega)
  have hF12728 := hF12726.up 376 47 0 rfl
  refine y_aload 92 c151_91 rfl rfl rfl ?_
  refine y_iconst 93 c151_92 rfl ?_
  refine y_putI 96 c151_93 rfl kf376_45 (y_fit0 _) ?_
  have hT12729 := hT12727.up 376 45 0 ((-2147483648)) 2147483647 rfl (by omega)
  have hF12730 := hF12728.up 376 45 0 rfl
  refine y_aload 97 c151_96 rfl rfl rfl ?_
  have es12731 : (yup (yup me407 376 47 0) 376 45 0) 376 18 = m 376 18 := ((yup_nk (by decide)).trans ((yup_nk (by decide)).trans ((hFme407 376 18 rfl).trans ((hFme406 376 18 rfl).trans ((hFme405 376 18 rfl).trans (hFme404 376 18 rfl))))))
  have tb12732 := hT.atp 376 18 0 1 rfl
  have es12733 : (yup (yup me407 376 47 0) 376 45 0) 384 0 = m 384 0 := ((yup_na (by decide)).trans ((yup_na (by decide)).trans ((hFme407 384 0 rfl).trans ((hFme406 384 0 rfl).trans ((hFme405 384 0 rfl).trans (hFme404 384 0 rfl))))))
  refine y_callP 100 [.ref 376] [] c151_97 rfl rfl rfl rfl rfl (ycanO km143 ko376) (t143_0 hT12729 (by omega) (hG.fr hT (by decide) (fun a q ha => hF12730 a q (wAz_G a q ha)))) (fun r12734 hr12734 => ?_)
  refine y_istore 101 c151_100 rfl rfl ?_
  refine y_iload 102 c151_101 rfl rfl ?_
  refine y_if 106 105 c151_102 rfl rfl (yz_ge (by omega)) (fun hb12735 => ?_) (fun hb12735 => ?_)
  · refine y_aload 107 c151_106 rfl rfl rfl ?_
    refine y_getR 110 c151_107 rfl kf376_44 ?_
    refine y_iload 111 c151_110 rfl rfl ?_
    refine y_iconst 112 c151_111 rfl ?_
    refine y_iastore 113 c151_112 rfl ka407 (by omega) (y_nar0 _) ?_
    have hT12736 := hT12729.up 407 r12734.toNat 0 ((-2147483648)) 2147483647 rfl (by omega)
    have hF12737 := hF12730.up 407 r12734.toNat 0 rfl
    refine y_aload 114 c151_113 rfl rfl rfl ?_
    refine y_getR 117 c151_114 rfl kf376_41 ?_
    refine y_iconst 119 c151_117 rfl ?_
    refine y_aload 120 c151_119 rfl rfl rfl ?_
    refine y_getR 123 c151_120 rfl kf376_35 ?_
    refine y_iconst 125 c151_123 rfl ?_
    refine y_aload 126 c151_125 rfl rfl rfl ?_
    refine y_getX 129 (m 376 18) c151_126 rfl kf376_18 ((yup_na (by decide)).trans ((yup_nk (by decide)).trans ((yup_nk (by decide)).trans ((hFme407 376 18 rfl).trans ((hFme406 376 18 rfl).trans ((hFme405 376 18 rfl).trans (hFme404 376 18 rfl))))))) ?_
    refine y_top 0 (by omega) ?_
    refine y_imul 130 c151_129 rfl ?_
    refine y_top 0 (by decide) ?_
    refine y_iload 131 c151_130 rfl rfl ?_
    refine y_iadd 132 c151_131 rfl ?_
    refine y_iaT 133 0 46 c151_132 rfl ka398 (by omega) hT12736 rfl (fun v12738 hv12738 gv12738 => ?_)
    refine y_iconst 134 c151_133 rfl ?_
    refine y_iadd 135 c151_134 rfl ?_
    refine y_imul 136 c151_135 rfl ?_
    refine y_iconst 137 c151_136 rfl ?_
    refine y_iastore 138 c151_137 rfl ka404 (by omega) (y_nar0 _) ?_
    have hT12739 := hT12736.up 404 ((12 * (v12738 + 1)).toNat) 0 ((-2147483648)) 2147483647 rfl (by omega)
    have hF12740 := hF12737.up 404 ((12 * (v12738 + 1)).toNat) 0 rfl
    refine y_aload 139 c151_138 rfl rfl rfl ?_
    refine y_iconst 140 c151_139 rfl ?_
    refine y_putI 143 c151_140 rfl kf376_46 (y_fit1 (by omega)) ?_
    have hT12741 := hT12739.up 376 46 1 0 1 rfl (by omega)
    have hF12742 := hF12740.up 376 46 1 rfl
    have es12743 : (yup (yup (yup (yup (yup me407 376 47 0) 376 45 0) 407 r12734.toNat 0) 404 ((12 * (v12738 + 1)).toNat) 0) 376 46 1) 376 45 = 0 := rfl
    have es12744 : (yup (yup (yup (yup (yup me407 376 47 0) 376 45 0) 407 r12734.toNat 0) 404 ((12 * (v12738 + 1)).toNat) 0) 376 46 1) 376 46 = 1 := rfl
    have hgm : GM 0 (yup (yup (yup (yup (yup me407 376 47 0) 376 45 0) 407 r12734.toNat 0) 404 ((12 * (v12738 + 1)).toNat) 0) 376 46 1) := by
      intro o ho h7 i hi hne
      exfalso
      have hgc : GQ 0 (yup (yup (yup (yup (yup me407 376 47 0) 376 45 0) 407 r12734.toNat 0) 404 ((12 * (v12738 + 1)).toNat) 0) 376 46 1) := hG.fr hT (by decide) (fun a q ha => hF12742 a q (wAz_G a q ha))
      have w7 := (hgc.1.1 o ho).2.2.2.2.2.2.2.2 h7
      have t4 := hT12741.atp 384 0 0 10 rfl
      rw [show (yup (yup (yup (yup (yup me407 376 47 0) 376 45 0) 407 r12734.toNat 0) 404 ((12 * (v12738 + 1)).toNat) 0) 376 46 1) 406 (10 * ((yup (yup (yup (yup (yup me407 376 47 0) 376 45 0) 407 r12734.toNat 0) 404 ((12 * (v12738 + 1)).toNat) 0) 376 46 1) 403 (1000 * 0 + 8 * o + 5) / 16).toNat + i) = -1 from (((yup_na (by decide)).trans ((yup_na (by decide)).trans ((yup_na (by decide)).trans ((yup_na (by decide)).trans ((yup_na (by decide)).trans (hFme407 406 _ rfl))))))).trans (hz6 _ (by omega))] at hne
      omega
    have hnh := NEG.hi (m := yup (yup (yup (yup (yup me407 376 47 0) 376 45 0) 407 r12734.toNat 0) 404 ((12 * (v12738 + 1)).toNat) 0) 376 46 1)
    exact t151w_0 (b := r12734) hT hn hG (2 * (NEG (yup (yup (yup (yup (yup me407 376 47 0) 376 45 0) 407 r12734.toNat 0) 404 ((12 * (v12738 + 1)).toNat) 0) 376 46 1) : Int) + (yup (yup (yup (yup (yup me407 376 47 0) 376 45 0) 407 r12734.toNat 0) 404 ((12 * (v12738 + 1)).toNat) 0) 376 46 1) 376 46).toNat _ _ _ (by omega) hT12741 hF12742 hgm (by omega) (by omega)
  · exact y_retU c151_105 ⟨rfl, hT12729, hF12730⟩
set_option maxRecDepth 100000 in
theorem t143_1 {L : Nat} {xs : Nat → Int32} {d nn : Nat} {m : yM} (hT : Ty gT m) (hn : m 376 18 = 1) (hG : GQ 1 m) : YC (gZ L xs) (d + 2) 143 [.ref 376] m nn (qP m nn (fun r => -1 ≤ r ∧ r < m 384 1)) := by
  have tb383 := hT.atp 383 1 0 6 rfl
  have tb384 := hT.atp 384 1 0 10 rfl
  have tb388 := hT.atp 388 1 0 12 rfl
  have tb390 := hT.atp 390 1 0 125 rfl
  have g83 := hG.2.2.2.2.2.2.2.2.2.1
  refine YC.mkB [some (.ref 376)] kn143 rfl rfl ?_
  refine y_aload 1 c143_0 rfl rfl rfl ?_
  refine y_aload 2 c143_1 rfl rfl rfl ?_
  refine y_getX 5 (m 376 18) c143_2 rfl kf376_18 rfl ?_
  have tb12745 := hT.atp 376 18 0 1 rfl
  refine y_top 1 (by omega) ?_
  refine y_iconst 6 c143_5 rfl ?_
  refine y_iconst 8 c143_6 rfl ?_
  refine y_iconst 10 c143_8 rfl ?_
  refine y_iconst 11 c143_10 rfl ?_
  refine y_iconst 12 c143_11 rfl ?_
  refine y_iconst 13 c143_12 rfl ?_
  refine y_iconst 14 c143_13 rfl ?_
  refine y_callP 17 [yI 103, yI 111, yI 0, yI 0, yI 0, yI 0] [yI 0, yI 1, .ref 376] c143_14 rfl rfl rfl rfl rfl (ycanS km101) (t101 (by omega) (by omega) (by omega) (by omega) (by omega) (by omega)) (fun r12746 hr12746 => ?_)
  refine y_iconst 18 c143_17 rfl ?_
  refine y_callP 21 [.ref 376, yI 1, yI 0, yI r12746, yI 0] [] c143_18 rfl rfl rfl rfl rfl (ycanO km142 ko376) (t142_1 hT hG.2.2.2.2.1 (by omega) (by omega) (by omega)) (fun r12747 hr12747 => ?_)
  exact y_retP c143_21 (y_fit0 _) (by omega)
set_option maxRecDepth 100000 in
theorem t151i_1 {L : Nat} {xs : Nat → Int32} {d nn : Nat} {m : yM} {Q : xO → yM → Nat → Prop} {b : Int} (hT : Ty gT m) (hr : 1 ≤ m 376 45 ∧ m 376 45 ≤ 2000) (hn : m 376 18 = 1) (hG : GQ 1 m) (ho : ∀ (x2 x3 : Option Value) (mi : yM), Ty gT mi → Fr wAn m mi → AN m mi → GM 1 mi → YW (gZ L xs) 151 (d + 5) 225 [some (.ref 376), some (yI b), x2, x3] [] mi nn Q) : ∀ (km : Nat) (i : Int) (x3 : Option Value) (mi : yM), m 390 1 - i = km → 0 ≤ i ∧ i ≤ m 390 1 → Ty gT mi → Fr wAn m mi → AN m mi → GM 1 mi → YW (gZ L xs) 151 (d + 5) 167 [some (.ref 376), some (yI b), some (yI i), x3] [] mi nn (Q) := by
  intro km
  induction km using Nat.strongRecOn with
  | ind km ih =>
    intro i x3 mi hk hi hTi hFi hAi hGi
    have tb383 := hT.atp 383 1 0 6 rfl
    have tb384 := hT.atp 384 1 0 10 rfl
    have tb388 := hT.atp 388 1 0 12 rfl
    have tb390 := hT.atp 390 1 0 125 rfl
    have g90 := hG.2.2.2.2.2.2.2.2.2.2
    refine y_iload 168 c151_167 rfl rfl ?_
    refine y_aload 169 c151_168 rfl rfl rfl ?_
    refine y_getR 172 c151_169 rfl kf376_27 ?_
    refine y_aload 173 c151_172 rfl rfl rfl ?_
    refine y_getX 176 (m 376 18) c151_173 rfl kf376_18 (hFi 376 18 rfl) ?_
    have tb12748 := hT.atp 376 18 0 1 rfl
    refine y_top 1 (by omega) ?_
    refine y_iaX 177 (m 390 1) c151_176 rfl ka390 (by decide) (hFi 390 1 rfl) ?_
    refine y_icmp 225 180 c151_177 rfl rfl (yc_ge (by omega) (by omega)) (fun hb12749 => ?_) (fun hb12749 => ?_)
    · exact ho _ _ _ hTi hFi hAi hGi
    · refine y_iconst 183 c151_180 rfl ?_
      refine y_aload 184 c151_183 rfl rfl rfl ?_
      refine y_getX 187 (m 376 18) c151_184 rfl kf376_18 (hFi 376 18 rfl) ?_
      refine y_top 1 (by omega) ?_
      refine y_imul 188 c151_187 rfl ?_
      refine y_top 1000 (by decide) ?_
      refine y_iconst 190 c151_188 rfl ?_
      refine y_iload 191 c151_190 rfl rfl ?_
      refine y_imul 192 c151_191 rfl ?_
      refine y_iadd 193 c151_192 rfl ?_
      refine y_istore 194 c151_193 rfl rfl ?_
      refine y_aload 195 c151_194 rfl rfl rfl ?_
      refine y_aload 196 c151_195 rfl rfl rfl ?_
      refine y_getR 199 c151_196 rfl kf376_44 ?_
      refine y_aload 200 c151_199 rfl rfl rfl ?_
      refine y_getR 203 c151_200 rfl kf376_40 ?_
      refine y_iload 204 c151_203 rfl rfl ?_
      refine y_iconst 205 c151_204 rfl ?_
      refine y_iadd 206 c151_205 rfl ?_
      refine y_iaT 207 ((-2147483648)) 2147483647 c151_206 rfl ka403 (by omega) hTi rfl (fun v12750 hv12750 gv12750 => ?_)
      have gv12750_ : m 403 (1000 * 1 + 8 * i.toNat + 1) = v12750 := by rw [show 1000 * 1 + 8 * i.toNat + 1 = ((1000 + (8 * i)) + 1).toNat by omega]; exact ((hFi 403 _ rfl)).symm.trans hv12750
      have hw := hG.1.1 i.toNat (by omega)
      unfold OW at hw
      refine y_iaT 208 ((-2147483648)) 2147483647 c151_207 rfl ka407 (by omega) hTi rfl (fun v12751 hv12751 gv12751 => ?_)
      refine y_callP 211 [.ref 376, yI v12751] [] c151_208 rfl rfl rfl rfl rfl (ycanO km144 ko376) (t144 hTi (by omega)) (fun r12752 hr12752 => ?_)
      refine y_if 219 214 c151_211 rfl rfl (yz_eq (by omega)) (fun hb12753 => ?_) (fun hb12753 => ?_)
      · refine y_iinc 222 c151_219 rfl rfl rfl ?_
        refine y_goto 167 c151_222 rfl ?_
        exact ih (m 390 1 - (i + 1) : Int).toNat (by omega) (i + 1) _  _ (by omega) (by omega) hTi hFi hAi hGi
      · refine y_aload 215 c151_214 rfl rfl rfl ?_
        refine y_iload 216 c151_215 rfl rfl ?_
        have es12755 : mi 376 45 = m 376 45 := (hFi 376 45 rfl)
        have tb12756 := hT.atp 376 45 ((-2147483648)) 2147483647 rfl
        have es12757 : mi 376 18 = m 376 18 := (hFi 376 18 rfl)
        have es12758 : mi 390 1 = m 390 1 := (hFi 390 1 rfl)
        refine y_callUB 219 [.ref 376, yI (1000 + (8 * i))] [] c151_216 rfl rfl rfl rfl rfl (ycanO km150 ko376) (t150_1 (k := i) hTi (by omega) (by omega) (hG.fr hT (by decide) (fun a q ha => hFi a q (wAn_G a q ha))) (by omega) hGi) (fun mq12754 nq12754 hq12754 => ?_)
        obtain ⟨rfl, hTq12754, hFq12754, hAq12754, hMq12754⟩ := hq12754
        have hF12759 := hFi.tr hFq12754 (fun _ _ e => e)
        refine y_iinc 222 c151_219 rfl rfl rfl ?_
        refine y_goto 167 c151_222 rfl ?_
        exact ih (m 390 1 - (i + 1) : Int).toNat (by omega) (i + 1) _  _ (by omega) (by omega) hTq12754 hF12759 (hAi.tr hAq12754) hMq12754
set_option maxRecDepth 100000 in
theorem t151w_1 {L : Nat} {xs : Nat → Int32} {d nn : Nat} {m : yM} {b : Int} (hT : Ty gT m) (hn : m 376 18 = 1) (hG : GQ 1 m) : ∀ (k : Nat) (x2 x3 : Option Value) (mi : yM), 2 * (NEG mi : Int) + mi 376 46 = k → Ty gT mi → Fr wAz m mi → GM 1 mi → (0 ≤ mi 376 45 ∧ mi 376 45 ≤ 1900) → (mi 376 46 = 1 → mi 376 45 + NEG mi ≤ 1858) → YW (gZ L xs) 151 (d + 5) 143 [some (.ref 376), some (yI b), x2, x3] [] mi nn (qU (fun m' n' => n' = nn ∧ Ty gT m' ∧ Fr wAz m m')) := by
  intro k
  induction k using Nat.strongRecOn with
  | ind k ih =>
    intro x2 x3 mi hk hTi hFi hGi h45 hfr
    have tf := hTi.atp 376 46 0 1 rfl
    have en : mi 376 18 = m 376 18 := hFi 376 18 rfl
    refine y_aload 144 c151_143 rfl rfl rfl ?_
    refine y_getX 147 (mi 376 46) c151_144 rfl kf376_46 rfl ?_
    refine y_if 243 150 c151_147 rfl rfl (yz_eq (by omega)) (fun hb12760 => ?_) (fun hb12760 => ?_)
    · exact y_retU c151_243 ⟨rfl, hTi, hFi⟩
    · refine y_aload 151 c151_150 rfl rfl rfl ?_
      refine y_iconst 152 c151_151 rfl ?_
      refine y_putI 155 c151_152 rfl kf376_46 (y_fit1 (by omega)) ?_
      have hT12761 := hTi.up 376 46 0 0 1 rfl (by omega)
      have hF12762 := hFi.up 376 46 0 rfl
      refine y_aload 156 c151_155 rfl rfl rfl ?_
      refine y_dup 157 c151_156 rfl rfl ?_
      refine y_getX 160 (mi 376 45) c151_157 rfl kf376_45 rfl ?_
      refine y_iconst 161 c151_160 rfl ?_
      refine y_iadd 162 c151_161 rfl ?_
      refine y_putI 165 c151_162 rfl kf376_45 (y_fit0 _) ?_
      have hT12763 := hT12761.up 376 45 ((mi 376 45) + 1) ((-2147483648)) 2147483647 rfl (by omega)
      have hF12764 := hF12762.up 376 45 ((mi 376 45) + 1) rfl
      refine y_iconst 166 c151_165 rfl ?_
      refine y_istore 167 c151_166 rfl rfl ?_
      have es12765 : (yup (yup mi 376 46 0) 376 45 ((mi 376 45) + 1)) 376 45 = (mi 376 45) + 1 := rfl
      have es12766 : (yup (yup mi 376 46 0) 376 45 ((mi 376 45) + 1)) 376 46 = 0 := rfl
      have es12767 : (yup (yup mi 376 46 0) 376 45 ((mi 376 45) + 1)) 376 18 = m 376 18 := ((yup_nk (by decide)).trans ((yup_nk (by decide)).trans (hFi 376 18 rfl)))
      have tb12768 := hT.atp 376 18 0 1 rfl
      have hGc : GQ 1 (yup (yup mi 376 46 0) 376 45 ((mi 376 45) + 1)) := hG.fr hT (by decide) (fun a q ha => (yup_ne (by rintro ⟨rfl, rfl⟩; simp [vGq] at ha)).trans ((yup_ne (by rintro ⟨rfl, rfl⟩; simp [vGq] at ha)).trans (hFi a q (wAz_G a q ha))))
      have hNe : NEG (yup (yup mi 376 46 0) 376 45 ((mi 376 45) + 1)) = NEG mi := rfl
      have tq90 := hT12763.atp 390 1 0 125 rfl
      refine t151i_1 (m := yup (yup mi 376 46 0) 376 45 ((mi 376 45) + 1)) (b := b) hT12763 (by omega) (by omega) hGc (fun y2 y3 mj j1 j2 j3 j4 => ?_) ((yup (yup mi 376 46 0) 376 45 ((mi 376 45) + 1)) 390 1 - 0).toNat 0 _ _ (by omega) (by omega) hT12763 Fr.rf AN.rf (GM.up (GM.up hGi (by decide)) (by decide))
      have hng := j3.neg
      have tj := j1.atp 376 46 0 1 rfl
      have hF12769 := hF12764.tr j2 wAn_wAz
      refine y_aload 226 c151_225 rfl rfl rfl ?_
      refine y_getX 229 (mj 376 46) c151_226 rfl kf376_46 rfl ?_
      refine y_if 143 232 c151_229 rfl rfl (yz_eq (by omega)) (fun hb12770 => ?_) (fun hb12770 => ?_)
      · have es12771 : mj 376 45 = (mi 376 45) + 1 := ((j2 376 45 rfl).trans (yup_eq _ _ _ _))
        exact ih (2 * (NEG mj : Int) + mj 376 46).toNat (by omega) _ _ _ (by omega) j1 hF12769 j4 (by omega) (by omega)
      · refine y_aload 233 c151_232 rfl rfl rfl ?_
        refine y_aload 234 c151_233 rfl rfl rfl ?_
        refine y_getX 237 ((mi 376 45) + 1) c151_234 rfl kf376_45 ((j2 376 45 rfl).trans (yup_eq _ _ _ _)) ?_
        refine y_putI 240 c151_237 rfl kf376_47 (y_fit0 _) ?_
        have hT12772 := j1.up 376 47 ((mi 376 45) + 1) ((-2147483648)) 2147483647 rfl (by omega)
        have hF12773 := hF12769.up 376 47 ((mi 376 45) + 1) rfl
        refine y_goto 143 c151_240 rfl ?_
        have es12774 : (yup mj 376 47 ((mi 376 45) + 1)) 376 45 = (mi 376 45) + 1 := ((yup_nk (by decide)).trans ((j2 376 45 rfl).trans (yup_eq _ _ _ _)))
        have es12775 : (yup mj 376 47 ((mi 376 45) + 1)) 376 46 = mj 376 46 := rfl
        have hN2 : NEG (yup mj 376 47 ((mi 376 45) + 1)) = NEG mj := rfl
        exact ih (2 * (NEG (yup mj 376 47 ((mi 376 45) + 1)) : Int) + (yup mj 376 47 ((mi 376 45) + 1)) 376 46).toNat (by omega) _ _ _ (by omega) hT12772 hF12773 (GM.up j4 (by decide)) (by omega) (by omega)
set_option maxRecDepth 100000 in
theorem t151_1 {L : Nat} {xs : Nat → Int32} {d nn : Nat} {m : yM} (hT : Ty gT m) (hn : m 376 18 = 1) (hG : GQ 1 m) : YC (gZ L xs) (d + 5) 151 [.ref 376] m nn (qU (fun m' n' => n' = nn ∧ Ty gT m' ∧ Fr wAz m m')) := by
  have tb383 := hT.atp 383 1 0 6 rfl
  have tb384 := hT.atp 384 1 0 10 rfl
  have tb388 := hT.atp 388 1 0 12 rfl
  have tb390 := hT.atp 390 1 0 125 rfl
  refine YC.mkB [some (.ref 376), none, none, none] kn151 rfl rfl ?_
  have hF : Fr wAz m m := Fr.rf
  refine y_iconst 1 c151_0 rfl ?_
  refine y_istore 2 c151_1 rfl rfl ?_
  refine t151_404 hT (fun x1_404 me404 hTme404 hFme404 => ?_) 576 0 _ (by omega) (by omega) hT Fr.rf
  have hF12776 := hF.tr hFme404 (wRo_wAz (by decide))
  refine y_iconst 23 c151_22 rfl ?_
  refine y_istore 24 c151_23 rfl rfl ?_
  refine t151_405 hTme404 (fun x1_405 me405 hTme405 hFme405 => ?_) 1152 0 _ (by omega) (by omega) hTme404 Fr.rf
  have hF12777 := hF12776.tr hFme405 (wRo_wAz (by decide))
  refine y_iconst 45 c151_44 rfl ?_
  refine y_istore 46 c151_45 rfl rfl ?_
  refine t151_406 hTme405 (fun x1_406 me406 hTme406 hFme406 hz6 => ?_) 120 0 _ (by omega) (by omega) hTme405 Fr.rf (fun q hq => by simp at hq)
  have hF12778 := hF12777.tr hFme406 (wRo_wAz (by decide))
  refine y_iconst 66 c151_65 rfl ?_
  refine y_istore 67 c151_66 rfl rfl ?_
  refine t151_407 hTme406 (fun x1_407 me407 hTme407 hFme407 => ?_) 10 0 _ (by omega) (by omega) hTme406 Fr.rf
  have hF12779 := hF12778.tr hFme407 (wRo_wAz (by decide))
  refine y_aload 87 c151_86 rfl rfl rfl ?_
  refine y_iconst 88 c151_87 rfl ?_
  refine y_putI 91 c151_88 rfl kf376_47 (y_fit0 _) ?_
  have hT12780 := hTme407.up 376 47 0 ((-2147483648)) 2147483647 rfl (by omega)
  have hF12781 := hF12779.up 376 47 0 rfl
  refine y_aload 92 c151_91 rfl rfl rfl ?_
  refine y_iconst 93 c151_92 rfl ?_
  refine y_putI 96 c151_93 rfl kf376_45 (y_fit0 _) ?_
  have hT12782 := hT12780.up 376 45 0 ((-2147483648)) 2147483647 rfl (by omega)
  have hF12783 := hF12781.up 376 45 0 rfl
  refine y_aload 97 c151_96 rfl rfl rfl ?_
  have es12784 : (yup (yup me407 376 47 0) 376 45 0) 376 18 = m 376 18 := ((yup_nk (by decide)).trans ((yup_nk (by decide)).trans ((hFme407 376 18 rfl).trans ((hFme406 376 18 rfl).trans ((hFme405 376 18 rfl).trans (hFme404 376 18 rfl))))))
  have tb12785 := hT.atp 376 18 0 1 rfl
  have es12786 : (yup (yup me407 376 47 0) 376 45 0) 384 1 = m 384 1 := ((yup_na (by decide)).trans ((yup_na (by decide)).trans ((hFme407 384 1 rfl).trans ((hFme406 384 1 rfl).trans ((hFme405 384 1 rfl).trans (hFme404 384 1 rfl))))))
  refine y_callP 100 [.ref 376] [] c151_97 rfl rfl rfl rfl rfl (ycanO km143 ko376) (t143_1 hT12782 (by omega) (hG.fr hT (by decide) (fun a q ha => hF12783 a q (wAz_G a q ha)))) (fun r12787 hr12787 => ?_)
  refine y_istore 101 c151_100 rfl rfl ?_
  refine y_iload 102 c151_101 rfl rfl ?_
  refine y_if 106 105 c151_102 rfl rfl (yz_ge (by omega)) (fun hb12788 => ?_) (fun hb12788 => ?_)
  · refine y_aload 107 c151_106 rfl rfl rfl ?_
    refine y_getR 110 c151_107 rfl kf376_44 ?_
    refine y_iload 111 c151_110 rfl rfl ?_
    refine y_iconst 112 c151_111 rfl ?_
    refine y_iastore 113 c151_112 rfl ka407 (by omega) (y_nar0 _) ?_
    have hT12789 := hT12782.up 407 r12787.toNat 0 ((-2147483648)) 2147483647 rfl (by omega)
    have hF12790 := hF12783.up 407 r12787.toNat 0 rfl
    refine y_aload 114 c151_113 rfl rfl rfl ?_
    refine y_getR 117 c151_114 rfl kf376_41 ?_
    refine y_iconst 119 c151_117 rfl ?_
    refine y_aload 120 c151_119 rfl rfl rfl ?_
    refine y_getR 123 c151_120 rfl kf376_35 ?_
    refine y_iconst 125 c151_123 rfl ?_
    refine y_aload 126 c151_125 rfl rfl rfl ?_
    refine y_getX 129 (m 376 18) c151_126 rfl kf376_18 ((yup_na (by decide)).trans ((yup_nk (by decide)).trans ((yup_nk (by decide)).trans ((hFme407 376 18 rfl).trans ((hFme406 376 18 rfl).trans ((hFme405 376 18 rfl).trans (hFme404 376 18 rfl))))))) ?_
    refine y_top 1 (by omega) ?_
    refine y_imul 130 c151_129 rfl ?_
    refine y_top 10 (by decide) ?_
    refine y_iload 131 c151_130 rfl rfl ?_
    refine y_iadd 132 c151_131 rfl ?_
    refine y_iaT 133 0 46 c151_132 rfl ka398 (by omega) hT12789 rfl (fun v12791 hv12791 gv12791 => ?_)
    refine y_iconst 134 c151_133 rfl ?_
    refine y_iadd 135 c151_134 rfl ?_
    refine y_imul 136 c151_135 rfl ?_
    refine y_iconst 137 c151_136 rfl ?_
    refine y_iastore 138 c151_137 rfl ka404 (by omega) (y_nar0 _) ?_
    have hT12792 := hT12789.up 404 ((12 * (v12791 + 1)).toNat) 0 ((-2147483648)) 2147483647 rfl (by omega)
    have hF12793 := hF12790.up 404 ((12 * (v12791 + 1)).toNat) 0 rfl
    refine y_aload 139 c151_138 rfl rfl rfl ?_
    refine y_iconst 140 c151_139 rfl ?_
    refine y_putI 143 c151_140 rfl kf376_46 (y_fit1 (by omega)) ?_
    have hT12794 := hT12792.up 376 46 1 0 1 rfl (by omega)
    have hF12795 := hF12793.up 376 46 1 rfl
    have es12796 : (yup (yup (yup (yup (yup me407 376 47 0) 376 45 0) 407 r12787.toNat 0) 404 ((12 * (v12791 + 1)).toNat) 0) 376 46 1) 376 45 = 0 := rfl
    have es12797 : (yup (yup (yup (yup (yup me407 376 47 0) 376 45 0) 407 r12787.toNat 0) 404 ((12 * (v12791 + 1)).toNat) 0) 376 46 1) 376 46 = 1 := rfl
    have hgm : GM 1 (yup (yup (yup (yup (yup me407 376 47 0) 376 45 0) 407 r12787.toNat 0) 404 ((12 * (v12791 + 1)).toNat) 0) 376 46 1) := by
      intro o ho h7 i hi hne
      exfalso
      have hgc : GQ 1 (yup (yup (yup (yup (yup me407 376 47 0) 376 45 0) 407 r12787.toNat 0) 404 ((12 * (v12791 + 1)).toNat) 0) 376 46 1) := hG.fr hT (by decide) (fun a q ha => hF12795 a q (wAz_G a q ha))
      have w7 := (hgc.1.1 o ho).2.2.2.2.2.2.2.2 h7
      have t4 := hT12794.atp 384 1 0 10 rfl
      rw [show (yup (yup (yup (yup (yup me407 376 47 0) 376 45 0) 407 r12787.toNat 0) 404 ((12 * (v12791 + 1)).toNat) 0) 376 46 1) 406 (10 * ((yup (yup (yup (yup (yup me407 376 47 0) 376 45 0) 407 r12787.toNat 0) 404 ((12 * (v12791 + 1)).toNat) 0) 376 46 1) 403 (1000 * 1 + 8 * o + 5) / 16).toNat + i) = -1 from (((yup_na (by decide)).trans ((yup_na (by decide)).trans ((yup_na (by decide)).trans ((yup_na (by decide)).trans ((yup_na (by decide)).trans (hFme407 406 _ rfl))))))).trans (hz6 _ (by omega))] at hne
      omega
    have hnh := NEG.hi (m := yup (yup (yup (yup (yup me407 376 47 0) 376 45 0) 407 r12787.toNat 0) 404 ((12 * (v12791 + 1)).toNat) 0) 376 46 1)
    exact t151w_1 (b := r12787) hT hn hG (2 * (NEG (yup (yup (yup (yup (yup me407 376 47 0) 376 45 0) 407 r12787.toNat 0) 404 ((12 * (v12791 + 1)).toNat) 0) 376 46 1) : Int) + (yup (yup (yup (yup (yup me407 376 47 0) 376 45 0) 407 r12787.toNat 0) 404 ((12 * (v12791 + 1)).toNat) 0) 376 46 1) 376 46).toNat _ _ _ (by omega) hT12794 hF12795 hgm (by omega) (by omega)
  · exact y_retU c151_105 ⟨rfl, hT12782, hF12783⟩
end
section
/-! CONTRACTS: the model, names settled. Printed by wip/whole/gen9e.py -/
def wS40 (a q : Nat) : Bool := a == 400 && decide (0 ≤ q ∧ q < 12)
theorem wS40_w {q : Nat} (h : 0 ≤ q ∧ q < 12) : wS40 400 q = true := by
  simp [wS40]
  omega
def wS20 (a q : Nat) : Bool := a == 402 && decide (0 ≤ q ∧ q < 8)
theorem wS20_w {q : Nat} (h : 0 ≤ q ∧ q < 8) : wS20 402 q = true := by
  simp [wS20]
  omega
def wS30 (a q : Nat) : Bool := a == 403 && decide (0 ≤ q ∧ q < 1000)
theorem wS30_w {q : Nat} (h : 0 ≤ q ∧ q < 1000) : wS30 403 q = true := by
  simp [wS30]
  omega
def wSe0 (a q : Nat) : Bool := (a == 376 && q == 8) || wS40 a q || wS20 a q || wS30 a q
theorem wS40_wSe0 : ∀ a q, wS40 a q = true → wSe0 a q = true := by
  intro a q h
  simp [wSe0, h]
theorem wS20_wSe0 : ∀ a q, wS20 a q = true → wSe0 a q = true := by
  intro a q h
  simp [wSe0, h]
theorem wS30_wSe0 : ∀ a q, wS30 a q = true → wSe0 a q = true := by
  intro a q h
  simp [wSe0, h]
theorem wWr_wSe0 : ∀ a q, wWr a q = true → wSe0 a q = true := by
  intro a q h
  simp [wWr] at h
  simp [wSe0, h]
set_option maxRecDepth 100000 in
theorem t141a_0 {L : Nat} {xs : Nat → Int32} {d nn : Nat} {m : yM} {Q : xO → yM → Nat → Prop} (hT : Ty gT m) (ho : ∀ (x2 : Option Value) (mi : yM), Ty gT mi → Fr wWr m mi → YW (gZ L xs) 141 (d + 1) 47 [some (.ref 376), some (yI 0), x2, none] [] mi nn Q) : ∀ (km : Nat) (i : Int) (mi : yM), m 376 17 - i = km → 0 ≤ i ∧ i ≤ m 376 17 → Ty gT mi → Fr wWr m mi → YW (gZ L xs) 141 (d + 1) 2 [some (.ref 376), some (yI 0), some (yI i), none] [] mi nn (Q) := by
  intro km
  induction km using Nat.strongRecOn with
  | ind km ih =>
    intro i mi hk hi hTi hFi
    have tb383 := hT.atp 383 0 0 6 rfl
    have tb384 := hT.atp 384 0 0 10 rfl
    have tb385 := hT.atp 385 0 0 8 rfl
    have tb387 := hT.atp 387 0 0 8 rfl
    have tb388 := hT.atp 388 0 0 12 rfl
    have tb390 := hT.atp 390 0 0 125 rfl
    have tb17 := hT.atp 376 17 0 20 rfl
    refine y_iload 3 c141_2 rfl rfl ?_
    refine y_aload 4 c141_3 rfl rfl rfl ?_
    refine y_getX 7 (m 376 17) c141_4 rfl kf376_17 (hFi 376 17 rfl) ?_
    refine y_icmp 47 10 c141_7 rfl rfl (yc_ge (by omega) (by omega)) (fun hb12798 => ?_) (fun hb12798 => ?_)
    · exact ho _ _ hTi hFi
    · refine y_aload 11 c141_10 rfl rfl rfl ?_
      refine y_getX 14 (mi 376 8) c141_11 rfl kf376_8 rfl ?_
      have tb12799 := hTi.atp 376 8 ((-1)) 320 rfl
      refine y_if 47 17 c141_14 rfl rfl (yz_ge (by omega)) (fun hb12800 => ?_) (fun hb12800 => ?_)
      · exact ho _ _ hTi hFi
      · refine y_aload 18 c141_17 rfl rfl rfl ?_
        refine y_iload 19 c141_18 rfl rfl ?_
        refine y_aload 20 c141_19 rfl rfl rfl ?_
        refine y_getR 23 c141_20 rfl kf376_15 ?_
        refine y_iload 24 c141_23 rfl rfl ?_
        refine y_iaT 25 ((-2147483648)) 2147483647 c141_24 rfl ka381 (by omega) hTi rfl (fun v12801 hv12801 gv12801 => ?_)
        have es12802 : mi 383 0 = m 383 0 := (hFi 383 0 rfl)
        refine y_callP 28 [.ref 376, yI 0, yI v12801] [] c141_25 rfl rfl rfl rfl rfl (ycanO km116 ko376) (t116_0 hTi (by omega)) (fun r12803 hr12803 => ?_)
        refine y_if 41 31 c141_28 rfl rfl (yz_ge (by omega)) (fun hb12804 => ?_) (fun hb12804 => ?_)
        · refine y_iinc 44 c141_41 rfl rfl rfl ?_
          refine y_goto 2 c141_44 rfl ?_
          exact ih (m 376 17 - (i + 1) : Int).toNat (by omega) (i + 1)  _ (by omega) (by omega) hTi hFi
        · refine y_aload 32 c141_31 rfl rfl rfl ?_
          refine y_aload 33 c141_32 rfl rfl rfl ?_
          refine y_getR 36 c141_33 rfl kf376_16 ?_
          refine y_iload 37 c141_36 rfl rfl ?_
          refine y_iaT 38 0 320 c141_37 rfl ka382 (by omega) hTi rfl (fun v12805 hv12805 gv12805 => ?_)
          refine y_putI 41 c141_38 rfl kf376_8 (y_fit0 _) ?_
          have hT12806 := hTi.up 376 8 v12805 ((-1)) 320 rfl (by omega)
          have hF12807 := hFi.up 376 8 v12805 rfl
          refine y_iinc 44 c141_41 rfl rfl rfl ?_
          refine y_goto 2 c141_44 rfl ?_
          exact ih (m 376 17 - (i + 1) : Int).toNat (by omega) (i + 1)  _ (by omega) (by omega) hT12806 hF12807
set_option maxRecDepth 100000 in
theorem t141b_0 {L : Nat} {xs : Nat → Int32} {d nn : Nat} {m : yM} {Q : xO → yM → Nat → Prop} (hT : Ty gT m) (ho : ∀ (x2 : Option Value) (mi : yM), Ty gT mi → Fr wS40 m mi → SX 0 mi (m 388 0) (m 383 0) → YW (gZ L xs) 141 (d + 1) 100 [some (.ref 376), some (yI 0), x2, none] [] mi nn Q) : ∀ (km : Nat) (i : Int) (mi : yM), 12 - i = km → 1 ≤ i ∧ i ≤ 12 → Ty gT mi → Fr wS40 m mi → SX 0 mi i (m 383 0) → YW (gZ L xs) 141 (d + 1) 57 [some (.ref 376), some (yI 0), some (yI i), none] [] mi nn (Q) := by
  intro km
  induction km using Nat.strongRecOn with
  | ind km ih =>
    intro i mi hk hi hTi hFi hs
    have tb383 := hT.atp 383 0 0 6 rfl
    have tb384 := hT.atp 384 0 0 10 rfl
    have tb385 := hT.atp 385 0 0 8 rfl
    have tb387 := hT.atp 387 0 0 8 rfl
    have tb388 := hT.atp 388 0 0 12 rfl
    have tb390 := hT.atp 390 0 0 125 rfl
    have tb17 := hT.atp 376 17 0 20 rfl
    refine y_iload 58 c141_57 rfl rfl ?_
    refine y_aload 59 c141_58 rfl rfl rfl ?_
    refine y_getR 62 c141_59 rfl kf376_25 ?_
    refine y_iload 63 c141_62 rfl rfl ?_
    refine y_iaX 64 (m 388 0) c141_63 rfl ka388 (by decide) (hFi 388 0 rfl) ?_
    refine y_icmp 100 67 c141_64 rfl rfl (yc_ge (by omega) (by omega)) (fun hb12808 => ?_) (fun hb12808 => ?_)
    · exact ho _ _ hTi hFi (fun k hk => hs k (by omega))
    · refine y_aload 68 c141_67 rfl rfl rfl ?_
      refine y_getR 71 c141_68 rfl kf376_37 ?_
      refine y_iconst 73 c141_71 rfl ?_
      refine y_iload 74 c141_73 rfl rfl ?_
      refine y_imul 75 c141_74 rfl ?_
      refine y_top 0 (by decide) ?_
      refine y_iload 76 c141_75 rfl rfl ?_
      refine y_iadd 77 c141_76 rfl ?_
      refine y_aload 78 c141_77 rfl rfl rfl ?_
      refine y_iload 79 c141_78 rfl rfl ?_
      refine y_aload 80 c141_79 rfl rfl rfl ?_
      refine y_getR 83 c141_80 rfl kf376_37 ?_
      refine y_iconst 85 c141_83 rfl ?_
      refine y_iload 86 c141_85 rfl rfl ?_
      refine y_imul 87 c141_86 rfl ?_
      refine y_top 0 (by decide) ?_
      refine y_iload 88 c141_87 rfl rfl ?_
      refine y_iadd 89 c141_88 rfl ?_
      refine y_iaT 90 ((-2147483648)) 2147483647 c141_89 rfl ka400 (by omega) hTi rfl (fun v12809 hv12809 gv12809 => ?_)
      have es12810 : mi 383 0 = m 383 0 := (hFi 383 0 rfl)
      refine y_callP 93 [.ref 376, yI 0, yI v12809] [yI (0 + i), .ref 400] c141_90 rfl rfl rfl rfl rfl (ycanO km116 ko376) (t116_0 hTi (by omega)) (fun r12811 hr12811 => ?_)
      refine y_iastore 94 c141_93 rfl ka400 (by omega) (y_nar0 _) ?_
      have hT12812 := hTi.up 400 ((0 + i).toNat) r12811 ((-2147483648)) 2147483647 rfl (by omega)
      have hF12813 := hFi.up 400 ((0 + i).toNat) r12811 (wS40_w (by omega))
      refine y_iinc 97 c141_94 rfl rfl rfl ?_
      refine y_goto 57 c141_97 rfl ?_
      exact ih (12 - (i + 1) : Int).toNat (by omega) (i + 1)  _ (by omega) (by omega) hT12812 hF12813 (SX.snoc (SX.fr hs (fun k hk => yup_nk (by omega))) (by omega) (by rw [show 12 * 0 + i.toNat = (0 + i).toNat by omega, yup_eq]; omega))
set_option maxRecDepth 100000 in
theorem t141c_0 {L : Nat} {xs : Nat → Int32} {d nn : Nat} {m : yM} {Q : xO → yM → Nat → Prop} (hT : Ty gT m) (ho : ∀ (x2 : Option Value) (mi : yM), Ty gT mi → Fr wS20 m mi → YW (gZ L xs) 141 (d + 1) 145 [some (.ref 376), some (yI 0), x2, none] [] mi nn Q) : ∀ (km : Nat) (i : Int) (mi : yM), m 387 0 - i = km → 0 ≤ i ∧ i ≤ m 387 0 → Ty gT mi → Fr wS20 m mi → YW (gZ L xs) 141 (d + 1) 102 [some (.ref 376), some (yI 0), some (yI i), none] [] mi nn (Q) := by
  intro km
  induction km using Nat.strongRecOn with
  | ind km ih =>
    intro i mi hk hi hTi hFi
    have tb383 := hT.atp 383 0 0 6 rfl
    have tb384 := hT.atp 384 0 0 10 rfl
    have tb385 := hT.atp 385 0 0 8 rfl
    have tb387 := hT.atp 387 0 0 8 rfl
    have tb388 := hT.atp 388 0 0 12 rfl
    have tb390 := hT.atp 390 0 0 125 rfl
    have tb17 := hT.atp 376 17 0 20 rfl
    refine y_iload 103 c141_102 rfl rfl ?_
    refine y_aload 104 c141_103 rfl rfl rfl ?_
    refine y_getR 107 c141_104 rfl kf376_24 ?_
    refine y_iload 108 c141_107 rfl rfl ?_
    refine y_iaX 109 (m 387 0) c141_108 rfl ka387 (by decide) (hFi 387 0 rfl) ?_
    refine y_icmp 145 112 c141_109 rfl rfl (yc_ge (by omega) (by omega)) (fun hb12814 => ?_) (fun hb12814 => ?_)
    · exact ho _ _ hTi hFi
    · refine y_aload 113 c141_112 rfl rfl rfl ?_
      refine y_getR 116 c141_113 rfl kf376_39 ?_
      refine y_iconst 118 c141_116 rfl ?_
      refine y_iload 119 c141_118 rfl rfl ?_
      refine y_imul 120 c141_119 rfl ?_
      refine y_top 0 (by decide) ?_
      refine y_iload 121 c141_120 rfl rfl ?_
      refine y_iadd 122 c141_121 rfl ?_
      refine y_aload 123 c141_122 rfl rfl rfl ?_
      refine y_iload 124 c141_123 rfl rfl ?_
      refine y_aload 125 c141_124 rfl rfl rfl ?_
      refine y_getR 128 c141_125 rfl kf376_39 ?_
      refine y_iconst 130 c141_128 rfl ?_
      refine y_iload 131 c141_130 rfl rfl ?_
      refine y_imul 132 c141_131 rfl ?_
      refine y_top 0 (by decide) ?_
      refine y_iload 133 c141_132 rfl rfl ?_
      refine y_iadd 134 c141_133 rfl ?_
      refine y_iaT 135 ((-2147483648)) 2147483647 c141_134 rfl ka402 (by omega) hTi rfl (fun v12815 hv12815 gv12815 => ?_)
      have es12816 : mi 383 0 = m 383 0 := (hFi 383 0 rfl)
      refine y_callP 138 [.ref 376, yI 0, yI v12815] [yI (0 + i), .ref 402] c141_135 rfl rfl rfl rfl rfl (ycanO km116 ko376) (t116_0 hTi (by omega)) (fun r12817 hr12817 => ?_)
      refine y_iastore 139 c141_138 rfl ka402 (by omega) (y_nar0 _) ?_
      have hT12818 := hTi.up 402 ((0 + i).toNat) r12817 ((-2147483648)) 2147483647 rfl (by omega)
      have hF12819 := hFi.up 402 ((0 + i).toNat) r12817 (wS20_w (by omega))
      refine y_iinc 142 c141_139 rfl rfl rfl ?_
      refine y_goto 102 c141_142 rfl ?_
      exact ih (m 387 0 - (i + 1) : Int).toNat (by omega) (i + 1)  _ (by omega) (by omega) hT12818 hF12819
set_option maxRecDepth 100000 in
theorem t141d_0 {L : Nat} {xs : Nat → Int32} {d nn : Nat} {m : yM} {Q : xO → yM → Nat → Prop} (hT : Ty gT m) (h90 : m 390 0 ≤ 100) (ho : ∀ (x2 x3 : Option Value) (mi : yM), Ty gT mi → Fr wS30 m mi → (∀ o j : Nat, j < 8 → j ≠ 4 → mi 403 (1000 * 0 + 8 * o + j) = m 403 (1000 * 0 + 8 * o + j)) → (∀ o : Nat, m 403 (1000 * 0 + 8 * o) ≠ 4 → m 403 (1000 * 0 + 8 * o) ≠ 5 → mi 403 (1000 * 0 + 8 * o + 4) = m 403 (1000 * 0 + 8 * o + 4)) → FX 0 mi (m 390 0) → YW (gZ L xs) 141 (d + 1) 215 [some (.ref 376), some (yI 0), x2, x3] [] mi nn Q) : ∀ (km : Nat) (i : Int) (x3 : Option Value) (mi : yM), m 390 0 - i = km → 0 ≤ i ∧ i ≤ m 390 0 → Ty gT mi → Fr wS30 m mi → (∀ o j : Nat, j < 8 → j ≠ 4 → mi 403 (1000 * 0 + 8 * o + j) = m 403 (1000 * 0 + 8 * o + j)) → (∀ o : Nat, m 403 (1000 * 0 + 8 * o) ≠ 4 → m 403 (1000 * 0 + 8 * o) ≠ 5 → mi 403 (1000 * 0 + 8 * o + 4) = m 403 (1000 * 0 + 8 * o + 4)) → FX 0 mi i → YW (gZ L xs) 141 (d + 1) 147 [some (.ref 376), some (yI 0), some (yI i), x3] [] mi nn (Q) := by
  intro km
  induction km using Nat.strongRecOn with
  | ind km ih =>
    intro i x3 mi hk hi hTi hFi he he4 hx
    have tb383 := hT.atp 383 0 0 6 rfl
    have tb384 := hT.atp 384 0 0 10 rfl
    have tb385 := hT.atp 385 0 0 8 rfl
    have tb387 := hT.atp 387 0 0 8 rfl
    have tb388 := hT.atp 388 0 0 12 rfl
    have tb390 := hT.atp 390 0 0 125 rfl
    have tb17 := hT.atp 376 17 0 20 rfl
    refine y_iload 148 c141_147 rfl rfl ?_
    refine y_aload 149 c141_148 rfl rfl rfl ?_
    refine y_getR 152 c141_149 rfl kf376_27 ?_
    refine y_iload 153 c141_152 rfl rfl ?_
    refine y_iaX 154 (m 390 0) c141_153 rfl ka390 (by decide) (hFi 390 0 rfl) ?_
    refine y_icmp 215 157 c141_154 rfl rfl (yc_ge (by omega) (by omega)) (fun hb12820 => ?_) (fun hb12820 => ?_)
    · exact ho _ _ _ hTi hFi he he4 (fun k hk => hx k (by omega))
    · refine y_iconst 160 c141_157 rfl ?_
      refine y_iload 161 c141_160 rfl rfl ?_
      refine y_imul 162 c141_161 rfl ?_
      refine y_top 0 (by decide) ?_
      refine y_iconst 164 c141_162 rfl ?_
      refine y_iload 165 c141_164 rfl rfl ?_
      refine y_imul 166 c141_165 rfl ?_
      refine y_iadd 167 c141_166 rfl ?_
      refine y_istore 168 c141_167 rfl rfl ?_
      refine y_aload 169 c141_168 rfl rfl rfl ?_
      refine y_getR 172 c141_169 rfl kf376_40 ?_
      refine y_iload 173 c141_172 rfl rfl ?_
      refine y_iaT 174 ((-2147483648)) 2147483647 c141_173 rfl ka403 (by omega) hTi rfl (fun v12821 hv12821 gv12821 => ?_)
      have gv12821_ : m 403 (1000 * 0 + 8 * i.toNat) = v12821 := by have h0 := he i.toNat 0 (by decide) (by decide); simp only [Nat.add_zero] at h0; rw [← h0, show 1000 * 0 + 8 * i.toNat = (0 + (8 * i)).toNat by omega]; exact hv12821
      refine y_iconst 175 c141_174 rfl ?_
      refine y_icmp 188 178 c141_175 rfl rfl (yc_eq (by omega) (by omega)) (fun hb12822 => ?_) (fun hb12822 => ?_)
      · refine y_aload 189 c141_188 rfl rfl rfl ?_
        refine y_getR 192 c141_189 rfl kf376_40 ?_
        refine y_iload 193 c141_192 rfl rfl ?_
        refine y_iconst 194 c141_193 rfl ?_
        refine y_iadd 195 c141_194 rfl ?_
        refine y_aload 196 c141_195 rfl rfl rfl ?_
        refine y_iload 197 c141_196 rfl rfl ?_
        refine y_aload 198 c141_197 rfl rfl rfl ?_
        refine y_getR 201 c141_198 rfl kf376_40 ?_
        refine y_iload 202 c141_201 rfl rfl ?_
        refine y_iconst 203 c141_202 rfl ?_
        refine y_iadd 204 c141_203 rfl ?_
        refine y_iaT 205 ((-2147483648)) 2147483647 c141_204 rfl ka403 (by omega) hTi rfl (fun v12823 hv12823 gv12823 => ?_)
        have es12824 : mi 385 0 = m 385 0 := (hFi 385 0 rfl)
        refine y_callP 208 [.ref 376, yI 0, yI v12823] [yI ((0 + (8 * i)) + 4), .ref 403] c141_205 rfl rfl rfl rfl rfl (ycanO km120 ko376) (t120_0 hTi (by omega)) (fun r12825 hr12825 => ?_)
        refine y_iastore 209 c141_208 rfl ka403 (by omega) (y_nar0 _) ?_
        have hT12826 := hTi.up 403 (((0 + (8 * i)) + 4).toNat) r12825 ((-2147483648)) 2147483647 rfl (by omega)
        have hF12827 := hFi.up 403 (((0 + (8 * i)) + 4).toNat) r12825 (wS30_w (by omega))
        refine y_iinc 212 c141_209 rfl rfl rfl ?_
        refine y_goto 147 c141_212 rfl ?_
        exact ih (m 390 0 - (i + 1) : Int).toNat (by omega) (i + 1) _  _ (by omega) (by omega) hT12826 hF12827 (fun o j h1 h2 => (yup_nk (by omega)).trans (he o j h1 h2)) (fun o h1 h2 => (yup_nk (fun e => by have ho2 : o = i.toNat := (by omega); subst ho2; omega)).trans (he4 o h1 h2)) (FX.snoc (FX.fr hx (fun o ho2 => ⟨yup_nk (by omega), yup_nk (by omega)⟩)) (by omega) (fun _ => by rw [show 1000 * 0 + 8 * i.toNat + 4 = (0 + 8 * i + 4).toNat by omega, yup_eq]; omega))
      · refine y_aload 179 c141_178 rfl rfl rfl ?_
        refine y_getR 182 c141_179 rfl kf376_40 ?_
        refine y_iload 183 c141_182 rfl rfl ?_
        refine y_iaT 184 ((-2147483648)) 2147483647 c141_183 rfl ka403 (by omega) hTi rfl (fun v12828 hv12828 gv12828 => ?_)
        have gv12828_ : m 403 (1000 * 0 + 8 * i.toNat) = v12828 := by have h0 := he i.toNat 0 (by decide) (by decide); simp only [Nat.add_zero] at h0; rw [← h0, show 1000 * 0 + 8 * i.toNat = (0 + (8 * i)).toNat by omega]; exact hv12828
        refine y_iconst 185 c141_184 rfl ?_
        refine y_icmp 209 188 c141_185 rfl rfl (yc_ne (by omega) (by omega)) (fun hb12829 => ?_) (fun hb12829 => ?_)
        · refine y_iinc 212 c141_209 rfl rfl rfl ?_
          refine y_goto 147 c141_212 rfl ?_
          exact ih (m 390 0 - (i + 1) : Int).toNat (by omega) (i + 1) _  _ (by omega) (by omega) hTi hFi he he4 (FX.snoc hx (by omega) (by have h0 := he i.toNat 0 (by decide) (by decide); simp only [Nat.add_zero] at h0; rw [h0]; omega))
        · refine y_aload 189 c141_188 rfl rfl rfl ?_
          refine y_getR 192 c141_189 rfl kf376_40 ?_
          refine y_iload 193 c141_192 rfl rfl ?_
          refine y_iconst 194 c141_193 rfl ?_
          refine y_iadd 195 c141_194 rfl ?_
          refine y_aload 196 c141_195 rfl rfl rfl ?_
          refine y_iload 197 c141_196 rfl rfl ?_
          refine y_aload 198 c141_197 rfl rfl rfl ?_
          refine y_getR 201 c141_198 rfl kf376_40 ?_
          refine y_iload 202 c141_201 rfl rfl ?_
          refine y_iconst 203 c141_202 rfl ?_
          refine y_iadd 204 c141_203 rfl ?_
          refine y_iaT 205 ((-2147483648)) 2147483647 c141_204 rfl ka403 (by omega) hTi rfl (fun v12830 hv12830 gv12830 => ?_)
          have es12831 : mi 385 0 = m 385 0 := (hFi 385 0 rfl)
          refine y_callP 208 [.ref 376, yI 0, yI v12830] [yI ((0 + (8 * i)) + 4), .ref 403] c141_205 rfl rfl rfl rfl rfl (ycanO km120 ko376) (t120_0 hTi (by omega)) (fun r12832 hr12832 => ?_)
          refine y_iastore 209 c141_208 rfl ka403 (by omega) (y_nar0 _) ?_
          have hT12833 := hTi.up 403 (((0 + (8 * i)) + 4).toNat) r12832 ((-2147483648)) 2147483647 rfl (by omega)
          have hF12834 := hFi.up 403 (((0 + (8 * i)) + 4).toNat) r12832 (wS30_w (by omega))
          refine y_iinc 212 c141_209 rfl rfl rfl ?_
          refine y_goto 147 c141_212 rfl ?_
          exact ih (m 390 0 - (i + 1) : Int).toNat (by omega) (i + 1) _  _ (by omega) (by omega) hT12833 hF12834 (fun o j h1 h2 => (yup_nk (by omega)).trans (he o j h1 h2)) (fun o h1 h2 => (yup_nk (fun e => by have ho2 : o = i.toNat := (by omega); subst ho2; omega)).trans (he4 o h1 h2)) (FX.snoc (FX.fr hx (fun o ho2 => ⟨yup_nk (by omega), yup_nk (by omega)⟩)) (by omega) (fun _ => by rw [show 1000 * 0 + 8 * i.toNat + 4 = (0 + 8 * i + 4).toNat by omega, yup_eq]; omega))
set_option maxRecDepth 100000 in
theorem t141_0 {L : Nat} {xs : Nat → Int32} {d nn : Nat} {m : yM} (hT : Ty gT m) (hC : XD 0 m) (hc1 : 1 ≤ m 383 0) (h40 : m 400 (12 * 0) = 0) (h90 : m 390 0 ≤ 100) (hM0 : MX 0 m (m 384 0) (m 390 0 - 1)) : YC (gZ L xs) (d + 1) 141 [.ref 376, yI 0] m nn (qU (fun m' n' => n' = nn ∧ Ty gT m' ∧ Fr wSe0 m m' ∧ (0 ≤ m' 376 8 ∨ (m' 376 8 < 0 ∧ GQ 0 m')))) := by
  have tb383 := hT.atp 383 0 0 6 rfl
  have tb384 := hT.atp 384 0 0 10 rfl
  have tb385 := hT.atp 385 0 0 8 rfl
  have tb387 := hT.atp 387 0 0 8 rfl
  have tb388 := hT.atp 388 0 0 12 rfl
  have tb390 := hT.atp 390 0 0 125 rfl
  have tb17 := hT.atp 376 17 0 20 rfl
  refine YC.mkB [some (.ref 376), some (yI 0), none, none] kn141 rfl rfl ?_
  have hF : Fr wSe0 m m := Fr.rf
  refine y_iconst 1 c141_0 rfl ?_
  refine y_istore 2 c141_1 rfl rfl ?_
  refine t141a_0 hT (fun zma0 ma hTma hFma => ?_) (m 376 17 - 0).toNat 0 m (by omega) (by omega) hT Fr.rf
  have hF12835 := hF.tr hFma wWr_wSe0
  refine y_aload 48 c141_47 rfl rfl rfl ?_
  refine y_getX 51 (ma 376 8) c141_48 rfl kf376_8 rfl ?_
  have tb12836 := hTma.atp 376 8 ((-1)) 320 rfl
  refine y_if 55 54 c141_51 rfl rfl (yz_lt (by omega)) (fun hb12837 => ?_) (fun hb12837 => ?_)
  · refine y_iconst 56 c141_55 rfl ?_
    refine y_istore 57 c141_56 rfl rfl ?_
    have es12838 : ma 383 0 = m 383 0 := (hFma 383 0 rfl)
    have es12839 : ma 388 0 = m 388 0 := (hFma 388 0 rfl)
    refine t141b_0 hTma (fun zmb0 mb hTmb hFmb hsb => ?_) 11 1 _ (by omega) (by omega) hTma Fr.rf (fun k hk => by have hk0 : k = 0 := (by omega); subst hk0; rw [show ma 400 (12 * 0 + 0) = m 400 (12 * 0) from hFma 400 _ rfl, h40]; omega)
    have hF12840 := hF12835.tr hFmb wS40_wSe0
    refine y_iconst 101 c141_100 rfl ?_
    refine y_istore 102 c141_101 rfl rfl ?_
    have es12841 : mb 387 0 = m 387 0 := ((hFmb 387 0 rfl).trans (hFma 387 0 rfl))
    refine t141c_0 hTmb (fun zmc0 mc hTmc hFmc => ?_) (mb 387 0 - 0).toNat 0 _ (by omega) (by omega) hTmb Fr.rf
    have hF12842 := hF12840.tr hFmc wS20_wSe0
    refine y_iconst 146 c141_145 rfl ?_
    refine y_istore 147 c141_146 rfl rfl ?_
    have es12843 : mc 390 0 = m 390 0 := ((hFmc 390 0 rfl).trans ((hFmb 390 0 rfl).trans (hFma 390 0 rfl)))
    refine t141d_0 hTmc (by omega) (fun zmd0  zmd1 md hTmd hFmd hed hed4 hxd => ?_) (mc 390 0 - 0).toNat 0 _ _ (by omega) (by omega) hTmc Fr.rf (fun o j h1 h2 => rfl) (fun o h1 h2 => rfl) (fun o ho2 => by omega)
    have hF12844 := hF12842.tr hFmd wS30_wSe0
    have es12845 : md 376 8 = ma 376 8 := ((hFmd 376 8 rfl).trans ((hFmc 376 8 rfl).trans (hFmb 376 8 rfl)))
    have es12846 : md 383 0 = m 383 0 := ((hFmd 383 0 rfl).trans ((hFmc 383 0 rfl).trans ((hFmb 383 0 rfl).trans (hFma 383 0 rfl))))
    have es12847 : md 384 0 = m 384 0 := ((hFmd 384 0 rfl).trans ((hFmc 384 0 rfl).trans ((hFmb 384 0 rfl).trans (hFma 384 0 rfl))))
    have es12848 : md 386 0 = m 386 0 := ((hFmd 386 0 rfl).trans ((hFmc 386 0 rfl).trans ((hFmb 386 0 rfl).trans (hFma 386 0 rfl))))
    have tb12849 := hT.atp 386 0 0 12 rfl
    have es12850 : md 387 0 = m 387 0 := ((hFmd 387 0 rfl).trans ((hFmc 387 0 rfl).trans ((hFmb 387 0 rfl).trans (hFma 387 0 rfl))))
    have es12851 : md 388 0 = m 388 0 := ((hFmd 388 0 rfl).trans ((hFmc 388 0 rfl).trans ((hFmb 388 0 rfl).trans (hFma 388 0 rfl))))
    have es12852 : md 390 0 = m 390 0 := ((hFmd 390 0 rfl).trans ((hFmc 390 0 rfl).trans ((hFmb 390 0 rfl).trans (hFma 390 0 rfl))))
    obtain ⟨x1, x2, x3, x4, x5, x6, x7, x8, x9⟩ := hC
    have c3 : ∀ q, mc 403 q = m 403 q := fun q => (hFmc 403 q rfl).trans ((hFmb 403 q rfl).trans (hFma 403 q rfl))
    have e1 : ∀ o j : Nat, j < 8 → j ≠ 4 → md 403 (1000 * 0 + 8 * o + j) = m 403 (1000 * 0 + 8 * o + j) := fun o j h1 h2 => (hed o j h1 h2).trans (c3 _)
    have e4 : ∀ o : Nat, m 403 (1000 * 0 + 8 * o) = 3 → md 403 (1000 * 0 + 8 * o + 4) = m 403 (1000 * 0 + 8 * o + 4) := fun o h3 => (hed4 o (by rw [c3]; omega) (by rw [c3]; omega)).trans (c3 _)
    refine y_retU c141_215 ⟨rfl, hTmd, hF12844, Or.inr ⟨by omega, ?_⟩⟩
    unfold GQ
    rw [show md 390 0 = m 390 0 from by omega, show md 386 0 = m 386 0 from by omega, show md 384 0 = m 384 0 from by omega, show md 383 0 = m 383 0 from by omega, show md 388 0 = m 388 0 from by omega, show md 387 0 = m 387 0 from by omega]
    refine ⟨x1.x4 e1 e4, x2.x4 e1, x5.x4 e1, hM0.fr (fun q => (hFmd 397 _ rfl).trans ((hFmc 397 _ rfl).trans ((hFmb 397 _ rfl).trans (hFma 397 _ rfl)))) (fun q => (hFmd 398 _ rfl).trans ((hFmc 398 _ rfl).trans ((hFmb 398 _ rfl).trans (hFma 398 _ rfl)))) (fun q => (hFmd 399 _ rfl).trans ((hFmc 399 _ rfl).trans ((hFmb 399 _ rfl).trans (hFma 399 _ rfl)))) (Int.le_refl _), x4.fr (fun q => (hFmd 392 _ rfl).trans ((hFmc 392 _ rfl).trans ((hFmb 392 _ rfl).trans (hFma 392 _ rfl)))), ?_, ?_, (CV.fr x8 (fun q => (hFmd 401 _ rfl).trans ((hFmc 401 _ rfl).trans ((hFmb 401 _ rfl).trans (hFma 401 _ rfl))))), x7, hc1, h90, fun o ho => by have z0 := e1 o 0 (by decide) (by decide); simp only [Nat.add_zero] at z0; rw [z0, e1 o 3 (by decide) (by decide)]; exact x9 o ho⟩
    · have h0 := SX.fr (m' := md) hsb (fun k hk => (hFmd 400 _ rfl).trans (hFmc 400 _ rfl)); rw [show ma 388 0 = m 388 0 from hFma 388 0 rfl, show ma 383 0 = m 383 0 from hFma 383 0 rfl] at h0; exact h0
    · rw [show mc 390 0 = m 390 0 from by omega] at hxd; exact hxd
  · exact y_retU c141_54 ⟨rfl, hTma, hF12835, Or.inl (by omega)⟩
def wS41 (a q : Nat) : Bool := a == 400 && decide (12 ≤ q ∧ q < 24)
theorem wS41_w {q : Nat} (h : 12 ≤ q ∧ q < 24) : wS41 400 q = true := by
  simp [wS41]
  omega
def wS21 (a q : Nat) : Bool := a == 402 && decide (8 ≤ q ∧ q < 16)
theorem wS21_w {q : Nat} (h : 8 ≤ q ∧ q < 16) : wS21 402 q = true := by
  simp [wS21]
  omega
def wS31 (a q : Nat) : Bool := a == 403 && decide (1000 ≤ q ∧ q < 2000)
theorem wS31_w {q : Nat} (h : 1000 ≤ q ∧ q < 2000) : wS31 403 q = true := by
  simp [wS31]
  omega
def wSe1 (a q : Nat) : Bool := (a == 376 && q == 8) || wS41 a q || wS21 a q || wS31 a q
theorem wS41_wSe1 : ∀ a q, wS41 a q = true → wSe1 a q = true := by
  intro a q h
  simp [wSe1, h]
theorem wS21_wSe1 : ∀ a q, wS21 a q = true → wSe1 a q = true := by
  intro a q h
  simp [wSe1, h]
theorem wS31_wSe1 : ∀ a q, wS31 a q = true → wSe1 a q = true := by
  intro a q h
  simp [wSe1, h]
theorem wWr_wSe1 : ∀ a q, wWr a q = true → wSe1 a q = true := by
  intro a q h
  simp [wWr] at h
  simp [wSe1, h]
set_option maxRecDepth 100000 in
theorem t141a_1 {L : Nat} {xs : Nat → Int32} {d nn : Nat} {m : yM} {Q : xO → yM → Nat → Prop} (hT : Ty gT m) (ho : ∀ (x2 : Option Value) (mi : yM), Ty gT mi → Fr wWr m mi → YW (gZ L xs) 141 (d + 1) 47 [some (.ref 376), some (yI 1), x2, none] [] mi nn Q) : ∀ (km : Nat) (i : Int) (mi : yM), m 376 17 - i = km → 0 ≤ i ∧ i ≤ m 376 17 → Ty gT mi → Fr wWr m mi → YW (gZ L xs) 141 (d + 1) 2 [some (.ref 376), some (yI 1), some (yI i), none] [] mi nn (Q) := by
  intro km
  induction km using Nat.strongRecOn with
  | ind km ih =>
    intro i mi hk hi hTi hFi
    have tb383 := hT.atp 383 1 0 6 rfl
    have tb384 := hT.atp 384 1 0 10 rfl
    have tb385 := hT.atp 385 1 0 8 rfl
    have tb387 := hT.atp 387 1 0 8 rfl
    have tb388 := hT.atp 388 1 0 12 rfl
    have tb390 := hT.atp 390 1 0 125 rfl
    have tb17 := hT.atp 376 17 0 20 rfl
    refine y_iload 3 c141_2 rfl rfl ?_
    refine y_aload 4 c141_3 rfl rfl rfl ?_
    refine y_getX 7 (m 376 17) c141_4 rfl kf376_17 (hFi 376 17 rfl) ?_
    refine y_icmp 47 10 c141_7 rfl rfl (yc_ge (by omega) (by omega)) (fun hb12853 => ?_) (fun hb12853 => ?_)
    · exact ho _ _ hTi hFi
    · refine y_aload 11 c141_10 rfl rfl rfl ?_
      refine y_getX 14 (mi 376 8) c141_11 rfl kf376_8 rfl ?_
      have tb12854 := hTi.atp 376 8 ((-1)) 320 rfl
      refine y_if 47 17 c141_14 rfl rfl (yz_ge (by omega)) (fun hb12855 => ?_) (fun hb12855 => ?_)
      · exact ho _ _ hTi hFi
      · refine y_aload 18 c141_17 rfl rfl rfl ?_
        refine y_iload 19 c141_18 rfl rfl ?_
        refine y_aload 20 c141_19 rfl rfl rfl ?_
        refine y_getR 23 c141_20 rfl kf376_15 ?_
        refine y_iload 24 c141_23 rfl rfl ?_
        refine y_iaT 25 ((-2147483648)) 2147483647 c141_24 rfl ka381 (by omega) hTi rfl (fun v12856 hv12856 gv12856 => ?_)
        have es12857 : mi 383 1 = m 383 1 := (hFi 383 1 rfl)
        refine y_callP 28 [.ref 376, yI 1, yI v12856] [] c141_25 rfl rfl rfl rfl rfl (ycanO km116 ko376) (t116_1 hTi (by omega)) (fun r12858 hr12858 => ?_)
        refine y_if 41 31 c141_28 rfl rfl (yz_ge (by omega)) (fun hb12859 => ?_) (fun hb12859 => ?_)
        · refine y_iinc 44 c141_41 rfl rfl rfl ?_
          refine y_goto 2 c141_44 rfl ?_
          exact ih (m 376 17 - (i + 1) : Int).toNat (by omega) (i + 1)  _ (by omega) (by omega) hTi hFi
        · refine y_aload 32 c141_31 rfl rfl rfl ?_
          refine y_aload 33 c141_32 rfl rfl rfl ?_
          refine y_getR 36 c141_33 rfl kf376_16 ?_
          refine y_iload 37 c141_36 rfl rfl ?_
          refine y_iaT 38 0 320 c141_37 rfl ka382 (by omega) hTi rfl (fun v12860 hv12860 gv12860 => ?_)
          refine y_putI 41 c141_38 rfl kf376_8 (y_fit0 _) ?_
          have hT12861 := hTi.up 376 8 v12860 ((-1)) 320 rfl (by omega)
          have hF12862 := hFi.up 376 8 v12860 rfl
          refine y_iinc 44 c141_41 rfl rfl rfl ?_
          refine y_goto 2 c141_44 rfl ?_
          exact ih (m 376 17 - (i + 1) : Int).toNat (by omega) (i + 1)  _ (by omega) (by omega) hT12861 hF12862
set_option maxRecDepth 100000 in
theorem t141b_1 {L : Nat} {xs : Nat → Int32} {d nn : Nat} {m : yM} {Q : xO → yM → Nat → Prop} (hT : Ty gT m) (ho : ∀ (x2 : Option Value) (mi : yM), Ty gT mi → Fr wS41 m mi → SX 1 mi (m 388 1) (m 383 1) → YW (gZ L xs) 141 (d + 1) 100 [some (.ref 376), some (yI 1), x2, none] [] mi nn Q) : ∀ (km : Nat) (i : Int) (mi : yM), 12 - i = km → 1 ≤ i ∧ i ≤ 12 → Ty gT mi → Fr wS41 m mi → SX 1 mi i (m 383 1) → YW (gZ L xs) 141 (d + 1) 57 [some (.ref 376), some (yI 1), some (yI i), none] [] mi nn (Q) := by
  intro km
  induction km using Nat.strongRecOn with
  | ind km ih =>
    intro i mi hk hi hTi hFi hs
    have tb383 := hT.atp 383 1 0 6 rfl
    have tb384 := hT.atp 384 1 0 10 rfl
    have tb385 := hT.atp 385 1 0 8 rfl
    have tb387 := hT.atp 387 1 0 8 rfl
    have tb388 := hT.atp 388 1 0 12 rfl
    have tb390 := hT.atp 390 1 0 125 rfl
    have tb17 := hT.atp 376 17 0 20 rfl
    refine y_iload 58 c141_57 rfl rfl ?_
    refine y_aload 59 c141_58 rfl rfl rfl ?_
    refine y_getR 62 c141_59 rfl kf376_25 ?_
    refine y_iload 63 c141_62 rfl rfl ?_
    refine y_iaX 64 (m 388 1) c141_63 rfl ka388 (by decide) (hFi 388 1 rfl) ?_
    refine y_icmp 100 67 c141_64 rfl rfl (yc_ge (by omega) (by omega)) (fun hb12863 => ?_) (fun hb12863 => ?_)
    · exact ho _ _ hTi hFi (fun k hk => hs k (by omega))
    · refine y_aload 68 c141_67 rfl rfl rfl ?_
      refine y_getR 71 c141_68 rfl kf376_37 ?_
      refine y_iconst 73 c141_71 rfl ?_
      refine y_iload 74 c141_73 rfl rfl ?_
      refine y_imul 75 c141_74 rfl ?_
      refine y_top 12 (by decide) ?_
      refine y_iload 76 c141_75 rfl rfl ?_
      refine y_iadd 77 c141_76 rfl ?_
      refine y_aload 78 c141_77 rfl rfl rfl ?_
      refine y_iload 79 c141_78 rfl rfl ?_
      refine y_aload 80 c141_79 rfl rfl rfl ?_
      refine y_getR 83 c141_80 rfl kf376_37 ?_
      refine y_iconst 85 c141_83 rfl ?_
      refine y_iload 86 c141_85 rfl rfl ?_
      refine y_imul 87 c141_86 rfl ?_
      refine y_top 12 (by decide) ?_
      refine y_iload 88 c141_87 rfl rfl ?_
      refine y_iadd 89 c141_88 rfl ?_
      refine y_iaT 90 ((-2147483648)) 2147483647 c141_89 rfl ka400 (by omega) hTi rfl (fun v12864 hv12864 gv12864 => ?_)
      have es12865 : mi 383 1 = m 383 1 := (hFi 383 1 rfl)
      refine y_callP 93 [.ref 376, yI 1, yI v12864] [yI (12 + i), .ref 400] c141_90 rfl rfl rfl rfl rfl (ycanO km116 ko376) (t116_1 hTi (by omega)) (fun r12866 hr12866 => ?_)
      refine y_iastore 94 c141_93 rfl ka400 (by omega) (y_nar0 _) ?_
      have hT12867 := hTi.up 400 ((12 + i).toNat) r12866 ((-2147483648)) 2147483647 rfl (by omega)
      have hF12868 := hFi.up 400 ((12 + i).toNat) r12866 (wS41_w (by omega))
      refine y_iinc 97 c141_94 rfl rfl rfl ?_
      refine y_goto 57 c141_97 rfl ?_
      exact ih (12 - (i + 1) : Int).toNat (by omega) (i + 1)  _ (by omega) (by omega) hT12867 hF12868 (SX.snoc (SX.fr hs (fun k hk => yup_nk (by omega))) (by omega) (by rw [show 12 * 1 + i.toNat = (12 + i).toNat by omega, yup_eq]; omega))
set_option maxRecDepth 100000 in
theorem t141c_1 {L : Nat} {xs : Nat → Int32} {d nn : Nat} {m : yM} {Q : xO → yM → Nat → Prop} (hT : Ty gT m) (ho : ∀ (x2 : Option Value) (mi : yM), Ty gT mi → Fr wS21 m mi → YW (gZ L xs) 141 (d + 1) 145 [some (.ref 376), some (yI 1), x2, none] [] mi nn Q) : ∀ (km : Nat) (i : Int) (mi : yM), m 387 1 - i = km → 0 ≤ i ∧ i ≤ m 387 1 → Ty gT mi → Fr wS21 m mi → YW (gZ L xs) 141 (d + 1) 102 [some (.ref 376), some (yI 1), some (yI i), none] [] mi nn (Q) := by
  intro km
  induction km using Nat.strongRecOn with
  | ind km ih =>
    intro i mi hk hi hTi hFi
    have tb383 := hT.atp 383 1 0 6 rfl
    have tb384 := hT.atp 384 1 0 10 rfl
    have tb385 := hT.atp 385 1 0 8 rfl
    have tb387 := hT.atp 387 1 0 8 rfl
    have tb388 := hT.atp 388 1 0 12 rfl
    have tb390 := hT.atp 390 1 0 125 rfl
    have tb17 := hT.atp 376 17 0 20 rfl
    refine y_iload 103 c141_102 rfl rfl ?_
    refine y_aload 104 c141_103 rfl rfl rfl ?_
    refine y_getR 107 c141_104 rfl kf376_24 ?_
    refine y_iload 108 c141_107 rfl rfl ?_
    refine y_iaX 109 (m 387 1) c141_108 rfl ka387 (by decide) (hFi 387 1 rfl) ?_
    refine y_icmp 145 112 c141_109 rfl rfl (yc_ge (by omega) (by omega)) (fun hb12869 => ?_) (fun hb12869 => ?_)
    · exact ho _ _ hTi hFi
    · refine y_aload 113 c141_112 rfl rfl rfl ?_
      refine y_getR 116 c141_113 rfl kf376_39 ?_
      refine y_iconst 118 c141_116 rfl ?_
      refine y_iload 119 c141_118 rfl rfl ?_
      refine y_imul 120 c141_119 rfl ?_
      refine y_top 8 (by decide) ?_
      refine y_iload 121 c141_120 rfl rfl ?_
      refine y_iadd 122 c141_121 rfl ?_
      refine y_aload 123 c141_122 rfl rfl rfl ?_
      refine y_iload 124 c141_123 rfl rfl ?_
      refine y_aload 125 c141_124 rfl rfl rfl ?_
      refine y_getR 128 c141_125 rfl kf376_39 ?_
      refine y_iconst 130 c141_128 rfl ?_
      refine y_iload 131 c141_130 rfl rfl ?_
      refine y_imul 132 c141_131 rfl ?_
      refine y_top 8 (by decide) ?_
      refine y_iload 133 c141_132 rfl rfl ?_
      refine y_iadd 134 c141_133 rfl ?_
      refine y_iaT 135 ((-2147483648)) 2147483647 c141_134 rfl ka402 (by omega) hTi rfl (fun v12870 hv12870 gv12870 => ?_)
      have es12871 : mi 383 1 = m 383 1 := (hFi 383 1 rfl)
      refine y_callP 138 [.ref 376, yI 1, yI v12870] [yI (8 + i), .ref 402] c141_135 rfl rfl rfl rfl rfl (ycanO km116 ko376) (t116_1 hTi (by omega)) (fun r12872 hr12872 => ?_)
      refine y_iastore 139 c141_138 rfl ka402 (by omega) (y_nar0 _) ?_
      have hT12873 := hTi.up 402 ((8 + i).toNat) r12872 ((-2147483648)) 2147483647 rfl (by omega)
      have hF12874 := hFi.up 402 ((8 + i).toNat) r12872 (wS21_w (by omega))
      refine y_iinc 142 c141_139 rfl rfl rfl ?_
      refine y_goto 102 c141_142 rfl ?_
      exact ih (m 387 1 - (i + 1) : Int).toNat (by omega) (i + 1)  _ (by omega) (by omega) hT12873 hF12874
set_option maxRecDepth 100000 in
theorem t141d_1 {L : Nat} {xs : Nat → Int32} {d nn : Nat} {m : yM} {Q : xO → yM → Nat → Prop} (hT : Ty gT m) (h90 : m 390 1 ≤ 100) (ho : ∀ (x2 x3 : Option Value) (mi : yM), Ty gT mi → Fr wS31 m mi → (∀ o j : Nat, j < 8 → j ≠ 4 → mi 403 (1000 * 1 + 8 * o + j) = m 403 (1000 * 1 + 8 * o + j)) → (∀ o : Nat, m 403 (1000 * 1 + 8 * o) ≠ 4 → m 403 (1000 * 1 + 8 * o) ≠ 5 → mi 403 (1000 * 1 + 8 * o + 4) = m 403 (1000 * 1 + 8 * o + 4)) → FX 1 mi (m 390 1) → YW (gZ L xs) 141 (d + 1) 215 [some (.ref 376), some (yI 1), x2, x3] [] mi nn Q) : ∀ (km : Nat) (i : Int) (x3 : Option Value) (mi : yM), m 390 1 - i = km → 0 ≤ i ∧ i ≤ m 390 1 → Ty gT mi → Fr wS31 m mi → (∀ o j : Nat, j < 8 → j ≠ 4 → mi 403 (1000 * 1 + 8 * o + j) = m 403 (1000 * 1 + 8 * o + j)) → (∀ o : Nat, m 403 (1000 * 1 + 8 * o) ≠ 4 → m 403 (1000 * 1 + 8 * o) ≠ 5 → mi 403 (1000 * 1 + 8 * o + 4) = m 403 (1000 * 1 + 8 * o + 4)) → FX 1 mi i → YW (gZ L xs) 141 (d + 1) 147 [some (.ref 376), some (yI 1), some (yI i), x3] [] mi nn (Q) := by
  intro km
  induction km using Nat.strongRecOn with
  | ind km ih =>
    intro i x3 mi hk hi hTi hFi he he4 hx
    have tb383 := hT.atp 383 1 0 6 rfl
    have tb384 := hT.atp 384 1 0 10 rfl
    have tb385 := hT.atp 385 1 0 8 rfl
    have tb387 := hT.atp 387 1 0 8 rfl
    have tb388 := hT.atp 388 1 0 12 rfl
    have tb390 := hT.atp 390 1 0 125 rfl
    have tb17 := hT.atp 376 17 0 20 rfl
    refine y_iload 148 c141_147 rfl rfl ?_
    refine y_aload 149 c141_148 rfl rfl rfl ?_
    refine y_getR 152 c141_149 rfl kf376_27 ?_
    refine y_iload 153 c141_152 rfl rfl ?_
    refine y_iaX 154 (m 390 1) c141_153 rfl ka390 (by decide) (hFi 390 1 rfl) ?_
    refine y_icmp 215 157 c141_154 rfl rfl (yc_ge (by omega) (by omega)) (fun hb12875 => ?_) (fun hb12875 => ?_)
    · exact ho _ _ _ hTi hFi he he4 (fun k hk => hx k (by omega))
    · refine y_iconst 160 c141_157 rfl ?_
      refine y_iload 161 c141_160 rfl rfl ?_
      refine y_imul 162 c141_161 rfl ?_
      refine y_top 1000 (by decide) ?_
      refine y_iconst 164 c141_162 rfl ?_
      refine y_iload 165 c141_164 rfl rfl ?_
      refine y_imul 166 c141_165 rfl ?_
      refine y_iadd 167 c141_166 rfl ?_
      refine y_istore 168 c141_167 rfl rfl ?_
      refine y_aload 169 c141_168 rfl rfl rfl ?_
      refine y_getR 172 c141_169 rfl kf376_40 ?_
      refine y_iload 173 c141_172 rfl rfl ?_
      refine y_iaT 174 ((-2147483648)) 2147483647 c141_173 rfl ka403 (by omega) hTi rfl (fun v12876 hv12876 gv12876 => ?_)
      have gv12876_ : m 403 (1000 * 1 + 8 * i.toNat) = v12876 := by have h0 := he i.toNat 0 (by decide) (by decide); simp only [Nat.add_zero] at h0; rw [← h0, show 1000 * 1 + 8 * i.toNat = (1000 + (8 * i)).toNat by omega]; exact hv12876
      refine y_iconst 175 c141_174 rfl ?_
      refine y_icmp 188 178 c141_175 rfl rfl (yc_eq (by omega) (by omega)) (fun hb12877 => ?_) (fun hb12877 => ?_)
      · refine y_aload 189 c141_188 rfl rfl rfl ?_
        refine y_getR 192 c141_189 rfl kf376_40 ?_
        refine y_iload 193 c141_192 rfl rfl ?_
        refine y_iconst 194 c141_193 rfl ?_
        refine y_iadd 195 c141_194 rfl ?_
        refine y_aload 196 c141_195 rfl rfl rfl ?_
        refine y_iload 197 c141_196 rfl rfl ?_
        refine y_aload 198 c141_197 rfl rfl rfl ?_
        refine y_getR 201 c141_198 rfl kf376_40 ?_
        refine y_iload 202 c141_201 rfl rfl ?_
        refine y_iconst 203 c141_202 rfl ?_
        refine y_iadd 204 c141_203 rfl ?_
        refine y_iaT 205 ((-2147483648)) 2147483647 c141_204 rfl ka403 (by omega) hTi rfl (fun v12878 hv12878 gv12878 => ?_)
        have es12879 : mi 385 1 = m 385 1 := (hFi 385 1 rfl)
        refine y_callP 208 [.ref 376, yI 1, yI v12878] [yI ((1000 + (8 * i)) + 4), .ref 403] c141_205 rfl rfl rfl rfl rfl (ycanO km120 ko376) (t120_1 hTi (by omega)) (fun r12880 hr12880 => ?_)
        refine y_iastore 209 c141_208 rfl ka403 (by omega) (y_nar0 _) ?_
        have hT12881 := hTi.up 403 (((1000 + (8 * i)) + 4).toNat) r12880 ((-2147483648)) 2147483647 rfl (by omega)
        have hF12882 := hFi.up 403 (((1000 + (8 * i)) + 4).toNat) r12880 (wS31_w (by omega))
        refine y_iinc 212 c141_209 rfl rfl rfl ?_
        refine y_goto 147 c141_212 rfl ?_
        exact ih (m 390 1 - (i + 1) : Int).toNat (by omega) (i + 1) _  _ (by omega) (by omega) hT12881 hF12882 (fun o j h1 h2 => (yup_nk (by omega)).trans (he o j h1 h2)) (fun o h1 h2 => (yup_nk (fun e => by have ho2 : o = i.toNat := (by omega); subst ho2; omega)).trans (he4 o h1 h2)) (FX.snoc (FX.fr hx (fun o ho2 => ⟨yup_nk (by omega), yup_nk (by omega)⟩)) (by omega) (fun _ => by rw [show 1000 * 1 + 8 * i.toNat + 4 = (1000 + 8 * i + 4).toNat by omega, yup_eq]; omega))
      · refine y_aload 179 c141_178 rfl rfl rfl ?_
        refine y_getR 182 c141_179 rfl kf376_40 ?_
        refine y_iload 183 c141_182 rfl rfl ?_
        refine y_iaT 184 ((-2147483648)) 2147483647 c141_183 rfl ka403 (by omega) hTi rfl (fun v12883 hv12883 gv12883 => ?_)
        have gv12883_ : m 403 (1000 * 1 + 8 * i.toNat) = v12883 := by have h0 := he i.toNat 0 (by decide) (by decide); simp only [Nat.add_zero] at h0; rw [← h0, show 1000 * 1 + 8 * i.toNat = (1000 + (8 * i)).toNat by omega]; exact hv12883
        refine y_iconst 185 c141_184 rfl ?_
        refine y_icmp 209 188 c141_185 rfl rfl (yc_ne (by omega) (by omega)) (fun hb12884 => ?_) (fun hb12884 => ?_)
        · refine y_iinc 212 c141_209 rfl rfl rfl ?_
          refine y_goto 147 c141_212 rfl ?_
          exact ih (m 390 1 - (i + 1) : Int).toNat (by omega) (i + 1) _  _ (by omega) (by omega) hTi hFi he he4 (FX.snoc hx (by omega) (by have h0 := he i.toNat 0 (by decide) (by decide); simp only [Nat.add_zero] at h0; rw [h0]; omega))
        · refine y_aload 189 c141_188 rfl rfl rfl ?_
          refine y_getR 192 c141_189 rfl kf376_40 ?_
          refine y_iload 193 c141_192 rfl rfl ?_
          refine y_iconst 194 c141_193 rfl ?_
          refine y_iadd 195 c141_194 rfl ?_
          refine y_aload 196 c141_195 rfl rfl rfl ?_
          refine y_iload 197 c141_196 rfl rfl ?_
          refine y_aload 198 c141_197 rfl rfl rfl ?_
          refine y_getR 201 c141_198 rfl kf376_40 ?_
          refine y_iload 202 c141_201 rfl rfl ?_
          refine y_iconst 203 c141_202 rfl ?_
          refine y_iadd 204 c141_203 rfl ?_
          refine y_iaT 205 ((-2147483648)) 2147483647 c141_204 rfl ka403 (by omega) hTi rfl (fun v12885 hv12885 gv12885 => ?_)
          have es12886 : mi 385 1 = m 385 1 := (hFi 385 1 rfl)
          refine y_callP 208 [.ref 376, yI 1, yI v12885] [yI ((1000 + (8 * i)) + 4), .ref 403] c141_205 rfl rfl rfl rfl rfl (ycanO km120 ko376) (t120_1 hTi (by omega)) (fun r12887 hr12887 => ?_)
          refine y_iastore 209 c141_208 rfl ka403 (by omega) (y_nar0 _) ?_
          have hT12888 := hTi.up 403 (((1000 + (8 * i)) + 4).toNat) r12887 ((-2147483648)) 2147483647 rfl (by omega)
          have hF12889 := hFi.up 403 (((1000 + (8 * i)) + 4).toNat) r12887 (wS31_w (by omega))
          refine y_iinc 212 c141_209 rfl rfl rfl ?_
          refine y_goto 147 c141_212 rfl ?_
          exact ih (m 390 1 - (i + 1) : Int).toNat (by omega) (i + 1) _  _ (by omega) (by omega) hT12888 hF12889 (fun o j h1 h2 => (yup_nk (by omega)).trans (he o j h1 h2)) (fun o h1 h2 => (yup_nk (fun e => by have ho2 : o = i.toNat := (by omega); subst ho2; omega)).trans (he4 o h1 h2)) (FX.snoc (FX.fr hx (fun o ho2 => ⟨yup_nk (by omega), yup_nk (by omega)⟩)) (by omega) (fun _ => by rw [show 1000 * 1 + 8 * i.toNat + 4 = (1000 + 8 * i + 4).toNat by omega, yup_eq]; omega))
set_option maxRecDepth 100000 in
theorem t141_1 {L : Nat} {xs : Nat → Int32} {d nn : Nat} {m : yM} (hT : Ty gT m) (hC : XD 1 m) (hc1 : 1 ≤ m 383 1) (h40 : m 400 (12 * 1) = 0) (h90 : m 390 1 ≤ 100) (hM0 : MX 1 m (m 384 1) (m 390 1 - 1)) : YC (gZ L xs) (d + 1) 141 [.ref 376, yI 1] m nn (qU (fun m' n' => n' = nn ∧ Ty gT m' ∧ Fr wSe1 m m' ∧ (0 ≤ m' 376 8 ∨ (m' 376 8 < 0 ∧ GQ 1 m')))) := by
  have tb383 := hT.atp 383 1 0 6 rfl
  have tb384 := hT.atp 384 1 0 10 rfl
  have tb385 := hT.atp 385 1 0 8 rfl
  have tb387 := hT.atp 387 1 0 8 rfl
  have tb388 := hT.atp 388 1 0 12 rfl
  have tb390 := hT.atp 390 1 0 125 rfl
  have tb17 := hT.atp 376 17 0 20 rfl
  refine YC.mkB [some (.ref 376), some (yI 1), none, none] kn141 rfl rfl ?_
  have hF : Fr wSe1 m m := Fr.rf
  refine y_iconst 1 c141_0 rfl ?_
  refine y_istore 2 c141_1 rfl rfl ?_
  refine t141a_1 hT (fun zma0 ma hTma hFma => ?_) (m 376 17 - 0).toNat 0 m (by omega) (by omega) hT Fr.rf
  have hF12890 := hF.tr hFma wWr_wSe1
  refine y_aload 48 c141_47 rfl rfl rfl ?_
  refine y_getX 51 (ma 376 8) c141_48 rfl kf376_8 rfl ?_
  have tb12891 := hTma.atp 376 8 ((-1)) 320 rfl
  refine y_if 55 54 c141_51 rfl rfl (yz_lt (by omega)) (fun hb12892 => ?_) (fun hb12892 => ?_)
  · refine y_iconst 56 c141_55 rfl ?_
    refine y_istore 57 c141_56 rfl rfl ?_
    have es12893 : ma 383 1 = m 383 1 := (hFma 383 1 rfl)
    have es12894 : ma 388 1 = m 388 1 := (hFma 388 1 rfl)
    refine t141b_1 hTma (fun zmb0 mb hTmb hFmb hsb => ?_) 11 1 _ (by omega) (by omega) hTma Fr.rf (fun k hk => by have hk0 : k = 0 := (by omega); subst hk0; rw [show ma 400 (12 * 1 + 0) = m 400 (12 * 1) from hFma 400 _ rfl, h40]; omega)
    have hF12895 := hF12890.tr hFmb wS41_wSe1
    refine y_iconst 101 c141_100 rfl ?_
    refine y_istore 102 c141_101 rfl rfl ?_
    have es12896 : mb 387 1 = m 387 1 := ((hFmb 387 1 rfl).trans (hFma 387 1 rfl))
    refine t141c_1 hTmb (fun zmc0 mc hTmc hFmc => ?_) (mb 387 1 - 0).toNat 0 _ (by omega) (by omega) hTmb Fr.rf
    have hF12897 := hF12895.tr hFmc wS21_wSe1
    refine y_iconst 146 c141_145 rfl ?_
    refine y_istore 147 c141_146 rfl rfl ?_
    have es12898 : mc 390 1 = m 390 1 := ((hFmc 390 1 rfl).trans ((hFmb 390 1 rfl).trans (hFma 390 1 rfl)))
    refine t141d_1 hTmc (by omega) (fun zmd0  zmd1 md hTmd hFmd hed hed4 hxd => ?_) (mc 390 1 - 0).toNat 0 _ _ (by omega) (by omega) hTmc Fr.rf (fun o j h1 h2 => rfl) (fun o h1 h2 => rfl) (fun o ho2 => by omega)
    have hF12899 := hF12897.tr hFmd wS31_wSe1
    have es12900 : md 376 8 = ma 376 8 := ((hFmd 376 8 rfl).trans ((hFmc 376 8 rfl).trans (hFmb 376 8 rfl)))
    have es12901 : md 383 1 = m 383 1 := ((hFmd 383 1 rfl).trans ((hFmc 383 1 rfl).trans ((hFmb 383 1 rfl).trans (hFma 383 1 rfl))))
    have es12902 : md 384 1 = m 384 1 := ((hFmd 384 1 rfl).trans ((hFmc 384 1 rfl).trans ((hFmb 384 1 rfl).trans (hFma 384 1 rfl))))
    have es12903 : md 386 1 = m 386 1 := ((hFmd 386 1 rfl).trans ((hFmc 386 1 rfl).trans ((hFmb 386 1 rfl).trans (hFma 386 1 rfl))))
    have tb12904 := hT.atp 386 1 0 12 rfl
    have es12905 : md 387 1 = m 387 1 := ((hFmd 387 1 rfl).trans ((hFmc 387 1 rfl).trans ((hFmb 387 1 rfl).trans (hFma 387 1 rfl))))
    have es12906 : md 388 1 = m 388 1 := ((hFmd 388 1 rfl).trans ((hFmc 388 1 rfl).trans ((hFmb 388 1 rfl).trans (hFma 388 1 rfl))))
    have es12907 : md 390 1 = m 390 1 := ((hFmd 390 1 rfl).trans ((hFmc 390 1 rfl).trans ((hFmb 390 1 rfl).trans (hFma 390 1 rfl))))
    obtain ⟨x1, x2, x3, x4, x5, x6, x7, x8, x9⟩ := hC
    have c3 : ∀ q, mc 403 q = m 403 q := fun q => (hFmc 403 q rfl).trans ((hFmb 403 q rfl).trans (hFma 403 q rfl))
    have e1 : ∀ o j : Nat, j < 8 → j ≠ 4 → md 403 (1000 * 1 + 8 * o + j) = m 403 (1000 * 1 + 8 * o + j) := fun o j h1 h2 => (hed o j h1 h2).trans (c3 _)
    have e4 : ∀ o : Nat, m 403 (1000 * 1 + 8 * o) = 3 → md 403 (1000 * 1 + 8 * o + 4) = m 403 (1000 * 1 + 8 * o + 4) := fun o h3 => (hed4 o (by rw [c3]; omega) (by rw [c3]; omega)).trans (c3 _)
    refine y_retU c141_215 ⟨rfl, hTmd, hF12899, Or.inr ⟨by omega, ?_⟩⟩
    unfold GQ
    rw [show md 390 1 = m 390 1 from by omega, show md 386 1 = m 386 1 from by omega, show md 384 1 = m 384 1 from by omega, show md 383 1 = m 383 1 from by omega, show md 388 1 = m 388 1 from by omega, show md 387 1 = m 387 1 from by omega]
    refine ⟨x1.x4 e1 e4, x2.x4 e1, x5.x4 e1, hM0.fr (fun q => (hFmd 397 _ rfl).trans ((hFmc 397 _ rfl).trans ((hFmb 397 _ rfl).trans (hFma 397 _ rfl)))) (fun q => (hFmd 398 _ rfl).trans ((hFmc 398 _ rfl).trans ((hFmb 398 _ rfl).trans (hFma 398 _ rfl)))) (fun q => (hFmd 399 _ rfl).trans ((hFmc 399 _ rfl).trans ((hFmb 399 _ rfl).trans (hFma 399 _ rfl)))) (Int.le_refl _), x4.fr (fun q => (hFmd 392 _ rfl).trans ((hFmc 392 _ rfl).trans ((hFmb 392 _ rfl).trans (hFma 392 _ rfl)))), ?_, ?_, (CV.fr x8 (fun q => (hFmd 401 _ rfl).trans ((hFmc 401 _ rfl).trans ((hFmb 401 _ rfl).trans (hFma 401 _ rfl))))), x7, hc1, h90, fun o ho => by have z0 := e1 o 0 (by decide) (by decide); simp only [Nat.add_zero] at z0; rw [z0, e1 o 3 (by decide) (by decide)]; exact x9 o ho⟩
    · have h0 := SX.fr (m' := md) hsb (fun k hk => (hFmd 400 _ rfl).trans (hFmc 400 _ rfl)); rw [show ma 388 1 = m 388 1 from hFma 388 1 rfl, show ma 383 1 = m 383 1 from hFma 383 1 rfl] at h0; exact h0
    · rw [show mc 390 1 = m 390 1 from by omega] at hxd; exact hxd
  · exact y_retU c141_54 ⟨rfl, hTma, hF12890, Or.inl (by omega)⟩
end
section
/-! CONTRACTS: the model, read. Printed by wip/whole/gen9f.py -/
def qMd (nn : Nat) (m : yM) : xO → yM → Nat → Prop := fun o m' n' => ∃ x : Int, o = .inl (some (yI x)) ∧ n' = nn ∧ Fr wML m m' ∧ MI m'
theorem wNx_wML : ∀ a q, wNx a q = true → wML a q = true := wML_of (fun a q h => by simp [wNx] at h; omega)
theorem wNw_wML : ∀ a q, wNw a q = true → wML a q = true := wML_of (fun a q h => by simp [wNw] at h; omega)
theorem wWr_wML : ∀ a q, wWr a q = true → wML a q = true := wML_of (fun a q h => by simp [wWr] at h; omega)
theorem wAz_wML : ∀ a q, wAz a q = true → wML a q = true := wML_of (fun a q h => by simp [wAz] at h; omega)
theorem wRo_wML {R : Nat} (h : 378 ≤ R ∧ R ≤ 412) : ∀ a q, wRo R a q = true → wML a q = true := wML_of (fun a q e => by simp [wRo] at e; omega)
set_option maxRecDepth 100000 in
theorem t152s {L : Nat} {xs : Nat → Int32} {d nn : Nat} {m : yM} {Q : xO → yM → Nat → Prop} {b : Int} (hT : Ty gT m) (ho : ∀ (x2 : Option Value) (mi : yM), Ty gT mi → Fr (wRo 408) m mi → YW (gZ L xs) 152 (d + 13) 199 [some (.ref 376), some (yI b), x2, none] [] mi nn Q) : ∀ (km : Nat) (i : Int) (mi : yM), 576 - i = km → 0 ≤ i ∧ i ≤ 576 → Ty gT mi → Fr (wRo 408) m mi → YW (gZ L xs) 152 (d + 13) 179 [some (.ref 376), some (yI b), some (yI i), none] [] mi nn (Q) := by
  intro km
  induction km using Nat.strongRecOn with
  | ind km ih =>
    intro i mi hk hi hTi hFi
    refine y_iload 180 c152_179 rfl rfl ?_
    refine y_iconst 183 c152_180 rfl ?_
    refine y_icmp 199 186 c152_183 rfl rfl (yc_ge (by omega) (by omega)) (fun hb12908 => ?_) (fun hb12908 => ?_)
    · exact ho _ _ hTi hFi
    · refine y_aload 187 c152_186 rfl rfl rfl ?_
      refine y_getR 190 c152_187 rfl kf376_48 ?_
      refine y_iload 191 c152_190 rfl rfl ?_
      refine y_iconst 192 c152_191 rfl ?_
      refine y_iastore 193 c152_192 rfl ka408 (by omega) (y_nar1 (by omega)) ?_
      have hT12909 := hTi.up 408 i.toNat 0 0 1 rfl (by omega)
      have hF12910 := hFi.up 408 i.toNat 0 rfl
      refine y_iinc 196 c152_193 rfl rfl rfl ?_
      refine y_goto 179 c152_196 rfl ?_
      exact ih (576 - (i + 1) : Int).toNat (by omega) (i + 1)  _ (by omega) (by omega) hT12909 hF12910
set_option maxRecDepth 100000 in
theorem t152n {L : Nat} {xs : Nat → Int32} {d nn : Nat} {m : yM} {Q : xO → yM → Nat → Prop} {b : Int} (hT : Ty gT m) (hQ : ∀ r, -2147483648 ≤ r ∧ r < 2147483648 → Q (.inl (some (yI r))) m nn) : ∀ (km : Nat) (n : Int) (i : Int), 576 - i = km → 0 ≤ i ∧ i ≤ 576 → 0 ≤ n ∧ n ≤ i → YW (gZ L xs) 152 (d + 13) 207 [some (.ref 376), some (yI b), some (yI n), some (yI i)] [] m nn (Q) := by
  intro km
  induction km using Nat.strongRecOn with
  | ind km ih =>
    intro n i hk hi hnn
    refine y_iload 208 c152_207 rfl rfl ?_
    refine y_iconst 211 c152_208 rfl ?_
    refine y_icmp 232 214 c152_211 rfl rfl (yc_ge (by omega) (by omega)) (fun hb12911 => ?_) (fun hb12911 => ?_)
    · refine y_iload 233 c152_232 rfl rfl ?_
      exact y_ireturn c152_233 (y_fit0 _) (hQ _ (by omega))
    · refine y_aload 215 c152_214 rfl rfl rfl ?_
      refine y_getR 218 c152_215 rfl kf376_41 ?_
      refine y_iload 219 c152_218 rfl rfl ?_
      refine y_iaT 220 ((-2147483648)) 2147483647 c152_219 rfl ka404 (by omega) hT rfl (fun v12912 hv12912 gv12912 => ?_)
      refine y_if 226 223 c152_220 rfl rfl (yz_lt (by omega)) (fun hb12913 => ?_) (fun hb12913 => ?_)
      · refine y_iinc 229 c152_226 rfl rfl rfl ?_
        refine y_goto 207 c152_229 rfl ?_
        exact ih (576 - (i + 1) : Int).toNat (by omega) n (i + 1)   (by omega) (by omega) (by omega)
      · refine y_iinc 226 c152_223 rfl rfl rfl ?_
        refine y_iinc 229 c152_226 rfl rfl rfl ?_
        refine y_goto 207 c152_229 rfl ?_
        exact ih (576 - (i + 1) : Int).toNat (by omega) (n + 1) (i + 1)   (by omega) (by omega) (by omega)
end
