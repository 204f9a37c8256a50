/-! CONTRACTS: the model, facts. Printed by wip/whole/gen9c.py -/
set_option maxRecDepth 100000 in
theorem t150a_0 {L : Nat} {xs : Nat → Int32} {d nn : Nat} {m : yM} {k : Int} (hT : Ty gT m) (hr : 1 ≤ m 376 45 ∧ m 376 45 ≤ 2000) (hn : m 376 18 = 0) (hG : GQ 0 m) (hko : 0 ≤ k ∧ k < m 390 0) (hM : GM 0 m) {w v u : Int} (h3 : m 403 (1000 * 0 + 8 * k.toNat) = 3) (hv : 0 ≤ v ∧ v ≤ 47) (hu : 0 ≤ u ∧ u ≤ 47) : ∀ (km : Nat) (i : Int) (mi : yM), m 388 0 - i = km → 0 ≤ i ∧ i ≤ m 388 0 → Ty gT mi → Fr wAn m mi → AN m mi → GM 0 mi → YW (gZ L xs) 150 (d + 3) 131 [some (.ref 376), some (yI (0 + 8 * k)), some (yI w), some (yI v), some (yI u), some (yI i)] [] mi nn (qU (fun m' n' => n' = nn ∧ Ty gT m' ∧ Fr wAn m m' ∧ AN m m' ∧ GM 0 m')) := by
  intro km
  induction km using Nat.strongRecOn with
  | ind km ih =>
    intro i mi hk hi hTi hFi hAi hGi
    have tb383 := hT.atp 383 0 0 6 rfl
    have tb384 := hT.atp 384 0 0 10 rfl
    have tb388 := hT.atp 388 0 0 12 rfl
    have tb390 := hT.atp 390 0 0 125 rfl
    have hw := hG.1.1 k.toNat (by omega)
    unfold OW at hw
    have hfx := hG.2.2.2.2.2.2.1 k.toNat (by omega)
    have g88 := hG.2.2.2.2.2.2.2.2.1
    have g90 := hG.2.2.2.2.2.2.2.2.2.2
    refine y_iload 133 c150_131 rfl rfl ?_
    refine y_aload 134 c150_133 rfl rfl rfl ?_
    refine y_getR 137 c150_134 rfl kf376_25 ?_
    refine y_aload 138 c150_137 rfl rfl rfl ?_
    refine y_getX 141 (m 376 18) c150_138 rfl kf376_18 (hFi 376 18 rfl) ?_
    refine y_top 0 (by omega) ?_
    refine y_iaX 142 (m 388 0) c150_141 rfl ka388 (by decide) (hFi 388 0 rfl) ?_
    refine y_icmp 225 145 c150_142 rfl rfl (yc_ge (by omega) (by omega)) (fun hb12465 => ?_) (fun hb12465 => ?_)
    · exact y_retU c150_225 ⟨rfl, hTi, hFi, hAi, hGi⟩
    · refine y_aload 146 c150_145 rfl rfl rfl ?_
      refine y_aload 147 c150_146 rfl rfl rfl ?_
      refine y_getR 150 c150_147 rfl kf376_41 ?_
      refine y_iconst 152 c150_150 rfl ?_
      refine y_iload 154 c150_152 rfl rfl ?_
      refine y_imul 155 c150_154 rfl ?_
      refine y_iload 157 c150_155 rfl rfl ?_
      refine y_iadd 158 c150_157 rfl ?_
      refine y_iaT 159 ((-2147483648)) 2147483647 c150_158 rfl ka404 (by omega) hTi rfl (fun v12466 hv12466 gv12466 => ?_)
      refine y_callP 162 [.ref 376, yI v12466] [] c150_159 rfl rfl rfl rfl rfl (ycanO km144 ko376) (t144 hTi (by omega)) (fun r12467 hr12467 => ?_)
      refine y_if 219 165 c150_162 rfl rfl (yz_eq (by omega)) (fun hb12468 => ?_) (fun hb12468 => ?_)
      · refine y_iinc 222 c150_219 rfl rfl rfl ?_
        refine y_goto 131 c150_222 rfl ?_
        exact ih (m 388 0 - (i + 1) : Int).toNat (by omega) (i + 1)  _ (by omega) (by omega) hTi hFi hAi hGi
      · refine y_aload 166 c150_165 rfl rfl rfl ?_
        refine y_aload 167 c150_166 rfl rfl rfl ?_
        refine y_getX 170 (m 376 18) c150_167 rfl kf376_18 (hFi 376 18 rfl) ?_
        refine y_top 0 (by omega) ?_
        refine y_aload 171 c150_170 rfl rfl rfl ?_
        refine y_getR 174 c150_171 rfl kf376_37 ?_
        refine y_iconst 176 c150_174 rfl ?_
        refine y_aload 177 c150_176 rfl rfl rfl ?_
        refine y_getX 180 (m 376 18) c150_177 rfl kf376_18 (hFi 376 18 rfl) ?_
        refine y_top 0 (by omega) ?_
        refine y_imul 181 c150_180 rfl ?_
        refine y_top 0 (by decide) ?_
        refine y_iload 183 c150_181 rfl rfl ?_
        refine y_iadd 184 c150_183 rfl ?_
        refine y_iaT 185 ((-2147483648)) 2147483647 c150_184 rfl ka400 (by omega) hTi rfl (fun v12469 hv12469 gv12469 => ?_)
        have gv12469_ : -1 ≤ v12469 ∧ v12469 < m 383 0 := by have h0 := hG.2.2.2.2.2.1 i.toNat (by omega); rw [show 12 * 0 + i.toNat = (0 + i).toNat by omega, ← show _ = m 400 (0 + i).toNat from (hFi 400 _ rfl), hv12469] at h0; exact h0
        refine y_aload 186 c150_185 rfl rfl rfl ?_
        refine y_getR 189 c150_186 rfl kf376_39 ?_
        refine y_iconst 191 c150_189 rfl ?_
        refine y_aload 192 c150_191 rfl rfl rfl ?_
        refine y_getX 195 (m 376 18) c150_192 rfl kf376_18 (hFi 376 18 rfl) ?_
        refine y_top 0 (by omega) ?_
        refine y_imul 196 c150_195 rfl ?_
        refine y_top 0 (by decide) ?_
        refine y_aload 197 c150_196 rfl rfl rfl ?_
        refine y_getR 200 c150_197 rfl kf376_40 ?_
        refine y_iload 201 c150_200 rfl rfl ?_
        refine y_iconst 202 c150_201 rfl ?_
        refine y_iadd 203 c150_202 rfl ?_
        refine y_iaT 204 ((-2147483648)) 2147483647 c150_203 rfl ka403 (by omega) hTi rfl (fun v12470 hv12470 gv12470 => ?_)
        have gv12470_ : m 403 (1000 * 0 + 8 * k.toNat + 4) = v12470 := by rw [show 1000 * 0 + 8 * k.toNat + 4 = ((0 + 8 * k) + 4).toNat by omega]; exact ((hFi 403 _ rfl)).symm.trans hv12470
        refine y_iadd 205 c150_204 rfl ?_
        refine y_iaT 206 ((-2147483648)) 2147483647 c150_205 rfl ka402 (by omega) hTi rfl (fun v12471 hv12471 gv12471 => ?_)
        have es12472 : mi 383 0 = m 383 0 := (hFi 383 0 rfl)
        refine y_callP 209 [.ref 376, yI 0, yI v12469, yI v12471] [] c150_206 rfl rfl rfl rfl rfl (ycanO km149 ko376) (t149_0 hTi (by rw [show mi 383 0 = m 383 0 from (hFi 383 0 rfl)]; exact hG.2.2.2.2.1.fr (fun q => (hFi 392 q rfl))) (by omega) (by omega)) (fun r12473 hr12473 => ?_)
        refine y_if 219 212 c150_209 rfl rfl (yz_eq (by omega)) (fun hb12474 => ?_) (fun hb12474 => ?_)
        · refine y_iinc 222 c150_219 rfl rfl rfl ?_
          refine y_goto 131 c150_222 rfl ?_
          exact ih (m 388 0 - (i + 1) : Int).toNat (by omega) (i + 1)  _ (by omega) (by omega) hTi hFi hAi hGi
        · refine y_aload 213 c150_212 rfl rfl rfl ?_
          refine y_iload 214 c150_213 rfl rfl ?_
          refine y_iload 216 c150_214 rfl rfl ?_
          have es12476 : mi 376 45 = m 376 45 := (hFi 376 45 rfl)
          have es12477 : mi 376 18 = m 376 18 := (hFi 376 18 rfl)
          refine y_callUB 219 [.ref 376, yI v, yI i] [] c150_216 rfl rfl rfl rfl rfl (ycanO km145 ko376) (t145 hTi (by omega) (by omega) (by omega)) (fun mq12475 nq12475 hq12475 => ?_)
          obtain ⟨rfl, hTq12475, hFq12475, hAq12475⟩ := hq12475
          have hF12478 := hFi.tr hFq12475 wAm_wAn
          refine y_iinc 222 c150_219 rfl rfl rfl ?_
          refine y_goto 131 c150_222 rfl ?_
          exact ih (m 388 0 - (i + 1) : Int).toNat (by omega) (i + 1)  _ (by omega) (by omega) hTq12475 hF12478 (hAi.tr hAq12475) (GM.fr hGi hFq12475)
set_option maxRecDepth 100000 in
theorem t150_0 {L : Nat} {xs : Nat → Int32} {d nn : Nat} {m : yM} {k : Int} (hT : Ty gT m) (hr : 1 ≤ m 376 45 ∧ m 376 45 ≤ 2000) (hn : m 376 18 = 0) (hG : GQ 0 m) (hko : 0 ≤ k ∧ k < m 390 0) (hM : GM 0 m) : YC (gZ L xs) (d + 3) 150 [.ref 376, yI (0 + 8 * k)] m nn (qU (fun m' n' => n' = nn ∧ Ty gT m' ∧ Fr wAn m m' ∧ AN m m' ∧ GM 0 m')) := by
  have tb383 := hT.atp 383 0 0 6 rfl
  have tb384 := hT.atp 384 0 0 10 rfl
  have tb388 := hT.atp 388 0 0 12 rfl
  have tb390 := hT.atp 390 0 0 125 rfl
  have hw := hG.1.1 k.toNat (by omega)
  unfold OW at hw
  have hfx := hG.2.2.2.2.2.2.1 k.toNat (by omega)
  have g88 := hG.2.2.2.2.2.2.2.2.1
  have g90 := hG.2.2.2.2.2.2.2.2.2.2
  refine YC.mkB [some (.ref 376), some (yI (0 + 8 * k)), none, none, none, none] kn150 rfl rfl ?_
  have hF : Fr wAn m m := Fr.rf
  refine y_aload 1 c150_0 rfl rfl rfl ?_
  refine y_getR 4 c150_1 rfl kf376_40 ?_
  refine y_iload 5 c150_4 rfl rfl ?_
  refine y_iaT 6 ((-2147483648)) 2147483647 c150_5 rfl ka403 (by omega) hT rfl (fun v12479 hv12479 gv12479 => ?_)
  have gv12479_ : m 403 (1000 * 0 + 8 * k.toNat) = v12479 := by rw [show 1000 * 0 + 8 * k.toNat = (0 + 8 * k).toNat by omega]; exact (rfl).symm.trans hv12479
  refine y_istore 7 c150_6 rfl rfl ?_
  refine y_aload 8 c150_7 rfl rfl rfl ?_
  refine y_getR 11 c150_8 rfl kf376_40 ?_
  refine y_iload 12 c150_11 rfl rfl ?_
  refine y_iconst 13 c150_12 rfl ?_
  refine y_iadd 14 c150_13 rfl ?_
  refine y_iaT 15 ((-2147483648)) 2147483647 c150_14 rfl ka403 (by omega) hT rfl (fun v12480 hv12480 gv12480 => ?_)
  have gv12480_ : m 403 (1000 * 0 + 8 * k.toNat + 2) = v12480 := by rw [show 1000 * 0 + 8 * k.toNat + 2 = ((0 + 8 * k) + 2).toNat by omega]; exact (rfl).symm.trans hv12480
  refine y_istore 16 c150_15 rfl rfl ?_
  refine y_aload 17 c150_16 rfl rfl rfl ?_
  refine y_getR 20 c150_17 rfl kf376_40 ?_
  refine y_iload 21 c150_20 rfl rfl ?_
  refine y_iconst 22 c150_21 rfl ?_
  refine y_iadd 23 c150_22 rfl ?_
  refine y_iaT 24 ((-2147483648)) 2147483647 c150_23 rfl ka403 (by omega) hT rfl (fun v12481 hv12481 gv12481 => ?_)
  have gv12481_ : m 403 (1000 * 0 + 8 * k.toNat + 3) = v12481 := by rw [show 1000 * 0 + 8 * k.toNat + 3 = ((0 + 8 * k) + 3).toNat by omega]; exact (rfl).symm.trans hv12481
  refine y_istore 26 c150_24 rfl rfl ?_
  refine y_iload 27 c150_26 rfl rfl ?_
  refine y_iconst 28 c150_27 rfl ?_
  refine y_icmp 41 31 c150_28 rfl rfl (yc_ne (by omega) (by omega)) (fun hb12482 => ?_) (fun hb12482 => ?_)
  · refine y_iload 42 c150_41 rfl rfl ?_
    refine y_iconst 43 c150_42 rfl ?_
    refine y_icmp 56 46 c150_43 rfl rfl (yc_ne (by omega) (by omega)) (fun hb12483 => ?_) (fun hb12483 => ?_)
    · refine y_iload 57 c150_56 rfl rfl ?_
      refine y_iconst 59 c150_57 rfl ?_
      refine y_icmp 91 62 c150_59 rfl rfl (yc_ne (by omega) (by omega)) (fun hb12484 => ?_) (fun hb12484 => ?_)
      · refine y_iload 92 c150_91 rfl rfl ?_
        refine y_iconst 93 c150_92 rfl ?_
        refine y_icmp 101 96 c150_93 rfl rfl (yc_eq (by omega) (by omega)) (fun hb12485 => ?_) (fun hb12485 => ?_)
        · refine y_aload 102 c150_101 rfl rfl rfl ?_
          refine y_iload 103 c150_102 rfl rfl ?_
          refine y_callUB 106 [.ref 376, yI (0 + 8 * k)] [] c150_103 rfl rfl rfl rfl rfl (ycanO km147 ko376) (t147_0 hT (by omega) (by omega) hG hko (by omega)) (fun mq12486 nq12486 hq12486 => ?_)
          obtain ⟨rfl, hTq12486, hFq12486, hAq12486⟩ := hq12486
          have hF12487 := hF.tr hFq12486 wAm_wAn
          refine y_goto 225 c150_106 rfl ?_
          exact y_retU c150_225 ⟨rfl, hTq12486, hF12487, (AN.rf.tr hAq12486), (GM.fr hM hFq12486)⟩
        · refine y_iload 97 c150_96 rfl rfl ?_
          refine y_iconst 98 c150_97 rfl ?_
          refine y_icmp 109 101 c150_98 rfl rfl (yc_ne (by omega) (by omega)) (fun hb12488 => ?_) (fun hb12488 => ?_)
          · refine y_iload 110 c150_109 rfl rfl ?_
            refine y_iconst 112 c150_110 rfl ?_
            refine y_icmp 123 115 c150_112 rfl rfl (yc_ne (by omega) (by omega)) (fun hb12489 => ?_) (fun hb12489 => ?_)
            · refine y_iload 124 c150_123 rfl rfl ?_
              refine y_iconst 125 c150_124 rfl ?_
              refine y_icmp 225 128 c150_125 rfl rfl (yc_ne (by omega) (by omega)) (fun hb12490 => ?_) (fun hb12490 => ?_)
              · exact y_retU c150_225 ⟨rfl, hT, hF, AN.rf, hM⟩
              · refine y_iconst 129 c150_128 rfl ?_
                refine y_istore 131 c150_129 rfl rfl ?_
                exact t150a_0 hT hr hn hG hko hM (w := v12479) (v := v12480) (u := v12481) (by omega) (by omega) (by omega) (m 388 0 - 0).toNat 0 m (by omega) (by omega) hT Fr.rf AN.rf hM
            · refine y_aload 116 c150_115 rfl rfl rfl ?_
              refine y_iload 117 c150_116 rfl rfl ?_
              refine y_callUB 120 [.ref 376, yI (0 + 8 * k)] [] c150_117 rfl rfl rfl rfl rfl (ycanO km148 ko376) (t148_0 hT (by omega) (by omega) hG hko (by omega) hM) (fun mq12491 nq12491 hq12491 => ?_)
              obtain ⟨rfl, hTq12491, hFq12491, hAq12491, hMq12491⟩ := hq12491
              have hF12492 := hF.tr hFq12491 (fun _ _ e => e)
              refine y_goto 225 c150_120 rfl ?_
              exact y_retU c150_225 ⟨rfl, hTq12491, hF12492, (AN.rf.tr hAq12491), hMq12491⟩
          · refine y_aload 102 c150_101 rfl rfl rfl ?_
            refine y_iload 103 c150_102 rfl rfl ?_
            refine y_callUB 106 [.ref 376, yI (0 + 8 * k)] [] c150_103 rfl rfl rfl rfl rfl (ycanO km147 ko376) (t147_0 hT (by omega) (by omega) hG hko (by omega)) (fun mq12493 nq12493 hq12493 => ?_)
            obtain ⟨rfl, hTq12493, hFq12493, hAq12493⟩ := hq12493
            have hF12494 := hF.tr hFq12493 wAm_wAn
            refine y_goto 225 c150_106 rfl ?_
            exact y_retU c150_225 ⟨rfl, hTq12493, hF12494, (AN.rf.tr hAq12493), (GM.fr hM hFq12493)⟩
      · refine y_aload 63 c150_62 rfl rfl rfl ?_
        refine y_aload 64 c150_63 rfl rfl rfl ?_
        refine y_getR 67 c150_64 rfl kf376_35 ?_
        refine y_iconst 69 c150_67 rfl ?_
        refine y_aload 70 c150_69 rfl rfl rfl ?_
        refine y_getX 73 (m 376 18) c150_70 rfl kf376_18 rfl ?_
        refine y_top 0 (by omega) ?_
        refine y_imul 74 c150_73 rfl ?_
        refine y_top 0 (by decide) ?_
        refine y_aload 75 c150_74 rfl rfl rfl ?_
        refine y_getR 78 c150_75 rfl kf376_40 ?_
        refine y_iload 79 c150_78 rfl rfl ?_
        refine y_iconst 80 c150_79 rfl ?_
        refine y_iadd 81 c150_80 rfl ?_
        refine y_iaT 82 ((-2147483648)) 2147483647 c150_81 rfl ka403 (by omega) hT rfl (fun v12495 hv12495 gv12495 => ?_)
        have gv12495_ : m 403 (1000 * 0 + 8 * k.toNat + 1) = v12495 := by rw [show 1000 * 0 + 8 * k.toNat + 1 = ((0 + 8 * k) + 1).toNat by omega]; exact (rfl).symm.trans hv12495
        refine y_iadd 83 c150_82 rfl ?_
        refine y_iaT 84 0 46 c150_83 rfl ka398 (by omega) hT rfl (fun v12496 hv12496 gv12496 => ?_)
        refine y_iload 85 c150_84 rfl rfl ?_
        refine y_callUB 88 [.ref 376, yI v12496, yI v12480] [] c150_85 rfl rfl rfl rfl rfl (ycanO km146 ko376) (t146_0 hT (by omega) (by omega) (by omega) (by omega)) (fun mq12497 nq12497 hq12497 => ?_)
        obtain ⟨rfl, hTq12497, hFq12497, hAq12497⟩ := hq12497
        have hF12498 := hF.tr hFq12497 wAm_wAn
        refine y_goto 225 c150_88 rfl ?_
        exact y_retU c150_225 ⟨rfl, hTq12497, hF12498, (AN.rf.tr hAq12497), (GM.fr hM hFq12497)⟩
    · refine y_aload 47 c150_46 rfl rfl rfl ?_
      refine y_iload 48 c150_47 rfl rfl ?_
      refine y_iload 50 c150_48 rfl rfl ?_
      refine y_callUB 53 [.ref 376, yI v12480, yI v12481] [] c150_50 rfl rfl rfl rfl rfl (ycanO km146 ko376) (t146_0 hT (by omega) (by omega) (by omega) (by omega)) (fun mq12499 nq12499 hq12499 => ?_)
      obtain ⟨rfl, hTq12499, hFq12499, hAq12499⟩ := hq12499
      have hF12500 := hF.tr hFq12499 wAm_wAn
      refine y_goto 225 c150_53 rfl ?_
      exact y_retU c150_225 ⟨rfl, hTq12499, hF12500, (AN.rf.tr hAq12499), (GM.fr hM hFq12499)⟩
  · refine y_aload 32 c150_31 rfl rfl rfl ?_
    refine y_iload 33 c150_32 rfl rfl ?_
    refine y_iload 35 c150_33 rfl rfl ?_
    refine y_callUB 38 [.ref 376, yI v12480, yI v12481] [] c150_35 rfl rfl rfl rfl rfl (ycanO km145 ko376) (t145 hT (by omega) (by omega) (by omega)) (fun mq12501 nq12501 hq12501 => ?_)
    obtain ⟨rfl, hTq12501, hFq12501, hAq12501⟩ := hq12501
    have hF12502 := hF.tr hFq12501 wAm_wAn
    refine y_goto 225 c150_38 rfl ?_
    exact y_retU c150_225 ⟨rfl, hTq12501, hF12502, (AN.rf.tr hAq12501), (GM.fr hM hFq12501)⟩
set_option maxRecDepth 100000 in
theorem t150a_1 {L : Nat} {xs : Nat → Int32} {d nn : Nat} {m : yM} {k : Int} (hT : Ty gT m) (hr : 1 ≤ m 376 45 ∧ m 376 45 ≤ 2000) (hn : m 376 18 = 1) (hG : GQ 1 m) (hko : 0 ≤ k ∧ k < m 390 1) (hM : GM 1 m) {w v u : Int} (h3 : m 403 (1000 * 1 + 8 * k.toNat) = 3) (hv : 0 ≤ v ∧ v ≤ 47) (hu : 0 ≤ u ∧ u ≤ 47) : ∀ (km : Nat) (i : Int) (mi : yM), m 388 1 - i = km → 0 ≤ i ∧ i ≤ m 388 1 → Ty gT mi → Fr wAn m mi → AN m mi → GM 1 mi → YW (gZ L xs) 150 (d + 3) 131 [some (.ref 376), some (yI (1000 + 8 * k)), some (yI w), some (yI v), some (yI u), some (yI i)] [] mi nn (qU (fun m' n' => n' = nn ∧ Ty gT m' ∧ Fr wAn m m' ∧ AN m m' ∧ GM 1 m')) := by
  intro km
  induction km using Nat.strongRecOn with
  | ind km ih =>
    intro i mi hk hi hTi hFi hAi hGi
    have tb383 := hT.atp 383 1 0 6 rfl
    have tb384 := hT.atp 384 1 0 10 rfl
    have tb388 := hT.atp 388 1 0 12 rfl
    have tb390 := hT.atp 390 1 0 125 rfl
    have hw := hG.1.1 k.toNat (by omega)
    unfold OW at hw
    have hfx := hG.2.2.2.2.2.2.1 k.toNat (by omega)
    have g88 := hG.2.2.2.2.2.2.2.2.1
    have g90 := hG.2.2.2.2.2.2.2.2.2.2
    refine y_iload 133 c150_131 rfl rfl ?_
    refine y_aload 134 c150_133 rfl rfl rfl ?_
    refine y_getR 137 c150_134 rfl kf376_25 ?_
    refine y_aload 138 c150_137 rfl rfl rfl ?_
    refine y_getX 141 (m 376 18) c150_138 rfl kf376_18 (hFi 376 18 rfl) ?_
    refine y_top 1 (by omega) ?_
    refine y_iaX 142 (m 388 1) c150_141 rfl ka388 (by decide) (hFi 388 1 rfl) ?_
    refine y_icmp 225 145 c150_142 rfl rfl (yc_ge (by omega) (by omega)) (fun hb12642 => ?_) (fun hb12642 => ?_)
    · exact y_retU c150_225 ⟨rfl, hTi, hFi, hAi, hGi⟩
    · refine y_aload 146 c150_145 rfl rfl rfl ?_
      refine y_aload 147 c150_146 rfl rfl rfl ?_
      refine y_getR 150 c150_147 rfl kf376_41 ?_
      refine y_iconst 152 c150_150 rfl ?_
      refine y_iload 154 c150_152 rfl rfl ?_
      refine y_imul 155 c150_154 rfl ?_
      refine y_iload 157 c150_155 rfl rfl ?_
      refine y_iadd 158 c150_157 rfl ?_
      refine y_iaT 159 ((-2147483648)) 2147483647 c150_158 rfl ka404 (by omega) hTi rfl (fun v12643 hv12643 gv12643 => ?_)
      refine y_callP 162 [.ref 376, yI v12643] [] c150_159 rfl rfl rfl rfl rfl (ycanO km144 ko376) (t144 hTi (by omega)) (fun r12644 hr12644 => ?_)
      refine y_if 219 165 c150_162 rfl rfl (yz_eq (by omega)) (fun hb12645 => ?_) (fun hb12645 => ?_)
      · refine y_iinc 222 c150_219 rfl rfl rfl ?_
        refine y_goto 131 c150_222 rfl ?_
        exact ih (m 388 1 - (i + 1) : Int).toNat (by omega) (i + 1)  _ (by omega) (by omega) hTi hFi hAi hGi
      · refine y_aload 166 c150_165 rfl rfl rfl ?_
        refine y_aload 167 c150_166 rfl rfl rfl ?_
        refine y_getX 170 (m 376 18) c150_167 rfl kf376_18 (hFi 376 18 rfl) ?_
        refine y_top 1 (by omega) ?_
        refine y_aload 171 c150_170 rfl rfl rfl ?_
        refine y_getR 174 c150_171 rfl kf376_37 ?_
        refine y_iconst 176 c150_174 rfl ?_
        refine y_aload 177 c150_176 rfl rfl rfl ?_
        refine y_getX 180 (m 376 18) c150_177 rfl kf376_18 (hFi 376 18 rfl) ?_
        refine y_top 1 (by omega) ?_
        refine y_imul 181 c150_180 rfl ?_
        refine y_top 12 (by decide) ?_
        refine y_iload 183 c150_181 rfl rfl ?_
        refine y_iadd 184 c150_183 rfl ?_
        refine y_iaT 185 ((-2147483648)) 2147483647 c150_184 rfl ka400 (by omega) hTi rfl (fun v12646 hv12646 gv12646 => ?_)
        have gv12646_ : -1 ≤ v12646 ∧ v12646 < m 383 1 := by have h0 := hG.2.2.2.2.2.1 i.toNat (by omega); rw [show 12 * 1 + i.toNat = (12 + i).toNat by omega, ← show _ = m 400 (12 + i).toNat from (hFi 400 _ rfl), hv12646] at h0; exact h0
        refine y_aload 186 c150_185 rfl rfl rfl ?_
        refine y_getR 189 c150_186 rfl kf376_39 ?_
        refine y_iconst 191 c150_189 rfl ?_
        refine y_aload 192 c150_191 rfl rfl rfl ?_
        refine y_getX 195 (m 376 18) c150_192 rfl kf376_18 (hFi 376 18 rfl) ?_
        refine y_top 1 (by omega) ?_
        refine y_imul 196 c150_195 rfl ?_
        refine y_top 8 (by decide) ?_
        refine y_aload 197 c150_196 rfl rfl rfl ?_
        refine y_getR 200 c150_197 rfl kf376_40 ?_
        refine y_iload 201 c150_200 rfl rfl ?_
        refine y_iconst 202 c150_201 rfl ?_
        refine y_iadd 203 c150_202 rfl ?_
        refine y_iaT 204 ((-2147483648)) 2147483647 c150_203 rfl ka403 (by omega) hTi rfl (fun v12647 hv12647 gv12647 => ?_)
        have gv12647_ : m 403 (1000 * 1 + 8 * k.toNat + 4) = v12647 := by rw [show 1000 * 1 + 8 * k.toNat + 4 = ((1000 + 8 * k) + 4).toNat by omega]; exact ((hFi 403 _ rfl)).symm.trans hv12647
        refine y_iadd 205 c150_204 rfl ?_
        refine y_iaT 206 ((-2147483648)) 2147483647 c150_205 rfl ka402 (by omega) hTi rfl (fun v12648 hv12648 gv12648 => ?_)
        have es12649 : mi 383 1 = m 383 1 := (hFi 383 1 rfl)
        refine y_callP 209 [.ref 376, yI 1, yI v12646, yI v12648] [] c150_206 rfl rfl rfl rfl rfl (ycanO km149 ko376) (t149_1 hTi (by rw [show mi 383 1 = m 383 1 from (hFi 383 1 rfl)]; exact hG.2.2.2.2.1.fr (fun q => (hFi 392 q rfl))) (by omega) (by omega)) (fun r12650 hr12650 => ?_)
        refine y_if 219 212 c150_209 rfl rfl (yz_eq (by omega)) (fun hb12651 => ?_) (fun hb12651 => ?_)
        · refine y_iinc 222 c150_219 rfl rfl rfl ?_
          refine y_goto 131 c150_222 rfl ?_
          exact ih (m 388 1 - (i + 1) : Int).toNat (by omega) (i + 1)  _ (by omega) (by omega) hTi hFi hAi hGi
        · refine y_aload 213 c150_212 rfl rfl rfl ?_
          refine y_iload 214 c150_213 rfl rfl ?_
          refine y_iload 216 c150_214 rfl rfl ?_
          have es12653 : mi 376 45 = m 376 45 := (hFi 376 45 rfl)
          have es12654 : mi 376 18 = m 376 18 := (hFi 376 18 rfl)
          refine y_callUB 219 [.ref 376, yI v, yI i] [] c150_216 rfl rfl rfl rfl rfl (ycanO km145 ko376) (t145 hTi (by omega) (by omega) (by omega)) (fun mq12652 nq12652 hq12652 => ?_)
          obtain ⟨rfl, hTq12652, hFq12652, hAq12652⟩ := hq12652
          have hF12655 := hFi.tr hFq12652 wAm_wAn
          refine y_iinc 222 c150_219 rfl rfl rfl ?_
          refine y_goto 131 c150_222 rfl ?_
          exact ih (m 388 1 - (i + 1) : Int).toNat (by omega) (i + 1)  _ (by omega) (by omega) hTq12652 hF12655 (hAi.tr hAq12652) (GM.fr hGi hFq12652)
set_option maxRecDepth 100000 in
theorem t150_1 {L : Nat} {xs : Nat → Int32} {d nn : Nat} {m : yM} {k : Int} (hT : Ty gT m) (hr : 1 ≤ m 376 45 ∧ m 376 45 ≤ 2000) (hn : m 376 18 = 1) (hG : GQ 1 m) (hko : 0 ≤ k ∧ k < m 390 1) (hM : GM 1 m) : YC (gZ L xs) (d + 3) 150 [.ref 376, yI (1000 + 8 * k)] m nn (qU (fun m' n' => n' = nn ∧ Ty gT m' ∧ Fr wAn m m' ∧ AN m m' ∧ GM 1 m')) := by
  have tb383 := hT.atp 383 1 0 6 rfl
  have tb384 := hT.atp 384 1 0 10 rfl
  have tb388 := hT.atp 388 1 0 12 rfl
  have tb390 := hT.atp 390 1 0 125 rfl
  have hw := hG.1.1 k.toNat (by omega)
  unfold OW at hw
  have hfx := hG.2.2.2.2.2.2.1 k.toNat (by omega)
  have g88 := hG.2.2.2.2.2.2.2.2.1
  have g90 := hG.2.2.2.2.2.2.2.2.2.2
  refine YC.mkB [some (.ref 376), some (yI (1000 + 8 * k)), none, none, none, none] kn150 rfl rfl ?_
  have hF : Fr wAn m m := Fr.rf
  refine y_aload 1 c150_0 rfl rfl rfl ?_
  refine y_getR 4 c150_1 rfl kf376_40 ?_
  refine y_iload 5 c150_4 rfl rfl ?_
  refine y_iaT 6 ((-2147483648)) 2147483647 c150_5 rfl ka403 (by omega) hT rfl (fun v12656 hv12656 gv12656 => ?_)
  have gv12656_ : m 403 (1000 * 1 + 8 * k.toNat) = v12656 := by rw [show 1000 * 1 + 8 * k.toNat = (1000 + 8 * k).toNat by omega]; exact (rfl).symm.trans hv12656
  refine y_istore 7 c150_6 rfl rfl ?_
  refine y_aload 8 c150_7 rfl rfl rfl ?_
  refine y_getR 11 c150_8 rfl kf376_40 ?_
  refine y_iload 12 c150_11 rfl rfl ?_
  refine y_iconst 13 c150_12 rfl ?_
  refine y_iadd 14 c150_13 rfl ?_
  refine y_iaT 15 ((-2147483648)) 2147483647 c150_14 rfl ka403 (by omega) hT rfl (fun v12657 hv12657 gv12657 => ?_)
  have gv12657_ : m 403 (1000 * 1 + 8 * k.toNat + 2) = v12657 := by rw [show 1000 * 1 + 8 * k.toNat + 2 = ((1000 + 8 * k) + 2).toNat by omega]; exact (rfl).symm.trans hv12657
  refine y_istore 16 c150_15 rfl rfl ?_
  refine y_aload 17 c150_16 rfl rfl rfl ?_
  refine y_getR 20 c150_17 rfl kf376_40 ?_
  refine y_iload 21 c150_20 rfl rfl ?_
  refine y_iconst 22 c150_21 rfl ?_
  refine y_iadd 23 c150_22 rfl ?_
  refine y_iaT 24 ((-2147483648)) 2147483647 c150_23 rfl ka403 (by omega) hT rfl (fun v12658 hv12658 gv12658 => ?_)
  have gv12658_ : m 403 (1000 * 1 + 8 * k.toNat + 3) = v12658 := by rw [show 1000 * 1 + 8 * k.toNat + 3 = ((1000 + 8 * k) + 3).toNat by omega]; exact (rfl).symm.trans hv12658
  refine y_istore 26 c150_24 rfl rfl ?_
  refine y_iload 27 c150_26 rfl rfl ?_
  refine y_iconst 28 c150_27 rfl ?_
  refine y_icmp 41 31 c150_28 rfl rfl (yc_ne (by omega) (by omega)) (fun hb12659 => ?_) (fun hb12659 => ?_)
  · refine y_iload 42 c150_41 rfl rfl ?_
    refine y_iconst 43 c150_42 rfl ?_
    refine y_icmp 56 46 c150_43 rfl rfl (yc_ne (by omega) (by omega)) (fun hb12660 => ?_) (fun hb12660 => ?_)
    · refine y_iload 57 c150_56 rfl rfl ?_
      refine y_iconst 59 c150_57 rfl ?_
      refine y_icmp 91 62 c150_59 rfl rfl (yc_ne (by omega) (by omega)) (fun hb12661 => ?_) (fun hb12661 => ?_)
      · refine y_iload 92 c150_91 rfl rfl ?_
        refine y_iconst 93 c150_92 rfl ?_
        refine y_icmp 101 96 c150_93 rfl rfl (yc_eq (by omega) (by omega)) (fun hb12662 => ?_) (fun hb12662 => ?_)
        · refine y_aload 102 c150_101 rfl rfl rfl ?_
          refine y_iload 103 c150_102 rfl rfl ?_
          refine y_callUB 106 [.ref 376, yI (1000 + 8 * k)] [] c150_103 rfl rfl rfl rfl rfl (ycanO km147 ko376) (t147_1 hT (by omega) (by omega) hG hko (by omega)) (fun mq12663 nq12663 hq12663 => ?_)
          obtain ⟨rfl, hTq12663, hFq12663, hAq12663⟩ := hq12663
          have hF12664 := hF.tr hFq12663 wAm_wAn
          refine y_goto 225 c150_106 rfl ?_
          exact y_retU c150_225 ⟨rfl, hTq12663, hF12664, (AN.rf.tr hAq12663), (GM.fr hM hFq12663)⟩
        · refine y_iload 97 c150_96 rfl rfl ?_
          refine y_iconst 98 c150_97 rfl ?_
          refine y_icmp 109 101 c150_98 rfl rfl (yc_ne (by omega) (by omega)) (fun hb12665 => ?_) (fun hb12665 => ?_)
          · refine y_iload 110 c150_109 rfl rfl ?_
            refine y_iconst 112 c150_110 rfl ?_
            refine y_icmp 123 115 c150_112 rfl rfl (yc_ne (by omega) (by omega)) (fun hb12666 => ?_) (fun hb12666 => ?_)
            · refine y_iload 124 c150_123 rfl rfl ?_
              refine y_iconst 125 c150_124 rfl ?_
              refine y_icmp 225 128 c150_125 rfl rfl (yc_ne (by omega) (by omega)) (fun hb12667 => ?_) (fun hb12667 => ?_)
              · exact y_retU c150_225 ⟨rfl, hT, hF, AN.rf, hM⟩
              · refine y_iconst 129 c150_128 rfl ?_
                refine y_istore 131 c150_129 rfl rfl ?_
                exact t150a_1 hT hr hn hG hko hM (w := v12656) (v := v12657) (u := v12658) (by omega) (by omega) (by omega) (m 388 1 - 0).toNat 0 m (by omega) (by omega) hT Fr.rf AN.rf hM
            · refine y_aload 116 c150_115 rfl rfl rfl ?_
              refine y_iload 117 c150_116 rfl rfl ?_
              refine y_callUB 120 [.ref 376, yI (1000 + 8 * k)] [] c150_117 rfl rfl rfl rfl rfl (ycanO km148 ko376) (t148_1 hT (by omega) (by omega) hG hko (by omega) hM) (fun mq12668 nq12668 hq12668 => ?_)
              obtain ⟨rfl, hTq12668, hFq12668, hAq12668, hMq12668⟩ := hq12668
              have hF12669 := hF.tr hFq12668 (fun _ _ e => e)
              refine y_goto 225 c150_120 rfl ?_
              exact y_retU c150_225 ⟨rfl, hTq12668, hF12669, (AN.rf.tr hAq12668), hMq12668⟩
          · refine y_aload 102 c150_101 rfl rfl rfl ?_
            refine y_iload 103 c150_102 rfl rfl ?_
            refine y_callUB 106 [.ref 376, yI (1000 + 8 * k)] [] c150_103 rfl rfl rfl rfl rfl (ycanO km147 ko376) (t147_1 hT (by omega) (by omega) hG hko (by omega)) (fun mq12670 nq12670 hq12670 => ?_)
            obtain ⟨rfl, hTq12670, hFq12670, hAq12670⟩ := hq12670
            have hF12671 := hF.tr hFq12670 wAm_wAn
            refine y_goto 225 c150_106 rfl ?_
            exact y_retU c150_225 ⟨rfl, hTq12670, hF12671, (AN.rf.tr hAq12670), (GM.fr hM hFq12670)⟩
      · refine y_aload 63 c150_62 rfl rfl rfl ?_
        refine y_aload 64 c150_63 rfl rfl rfl ?_
        refine y_getR 67 c150_64 rfl kf376_35 ?_
        refine y_iconst 69 c150_67 rfl ?_
        refine y_aload 70 c150_69 rfl rfl rfl ?_
        refine y_getX 73 (m 376 18) c150_70 rfl kf376_18 rfl ?_
        refine y_top 1 (by omega) ?_
        refine y_imul 74 c150_73 rfl ?_
        refine y_top 10 (by decide) ?_
        refine y_aload 75 c150_74 rfl rfl rfl ?_
        refine y_getR 78 c150_75 rfl kf376_40 ?_
        refine y_iload 79 c150_78 rfl rfl ?_
        refine y_iconst 80 c150_79 rfl ?_
        refine y_iadd 81 c150_80 rfl ?_
        refine y_iaT 82 ((-2147483648)) 2147483647 c150_81 rfl ka403 (by omega) hT rfl (fun v12672 hv12672 gv12672 => ?_)
        have gv12672_ : m 403 (1000 * 1 + 8 * k.toNat + 1) = v12672 := by rw [show 1000 * 1 + 8 * k.toNat + 1 = ((1000 + 8 * k) + 1).toNat by omega]; exact (rfl).symm.trans hv12672
        refine y_iadd 83 c150_82 rfl ?_
        refine y_iaT 84 0 46 c150_83 rfl ka398 (by omega) hT rfl (fun v12673 hv12673 gv12673 => ?_)
        refine y_iload 85 c150_84 rfl rfl ?_
        refine y_callUB 88 [.ref 376, yI v12673, yI v12657] [] c150_85 rfl rfl rfl rfl rfl (ycanO km146 ko376) (t146_1 hT (by omega) (by omega) (by omega) (by omega)) (fun mq12674 nq12674 hq12674 => ?_)
        obtain ⟨rfl, hTq12674, hFq12674, hAq12674⟩ := hq12674
        have hF12675 := hF.tr hFq12674 wAm_wAn
        refine y_goto 225 c150_88 rfl ?_
        exact y_retU c150_225 ⟨rfl, hTq12674, hF12675, (AN.rf.tr hAq12674), (GM.fr hM hFq12674)⟩
    · refine y_aload 47 c150_46 rfl rfl rfl ?_
      refine y_iload 48 c150_47 rfl rfl ?_
      refine y_iload 50 c150_48 rfl rfl ?_
      refine y_callUB 53 [.ref 376, yI v12657, yI v12658] [] c150_50 rfl rfl rfl rfl rfl (ycanO km146 ko376) (t146_1 hT (by omega) (by omega) (by omega) (by omega)) (fun mq12676 nq12676 hq12676 => ?_)
      obtain ⟨rfl, hTq12676, hFq12676, hAq12676⟩ := hq12676
      have hF12677 := hF.tr hFq12676 wAm_wAn
      refine y_goto 225 c150_53 rfl ?_
      exact y_retU c150_225 ⟨rfl, hTq12676, hF12677, (AN.rf.tr hAq12676), (GM.fr hM hFq12676)⟩
  · refine y_aload 32 c150_31 rfl rfl rfl ?_
    refine y_iload 33 c150_32 rfl rfl ?_
    refine y_iload 35 c150_33 rfl rfl ?_
    refine y_callUB 38 [.ref 376, yI v12657, yI v12658] [] c150_35 rfl rfl rfl rfl rfl (ycanO km145 ko376) (t145 hT (by omega) (by omega) (by omega)) (fun mq12678 nq12678 hq12678 => ?_)
    obtain ⟨rfl, hTq12678, hFq12678, hAq12678⟩ := hq12678
    have hF12679 := hF.tr hFq12678 wAm_wAn
    refine y_goto 225 c150_38 rfl ?_
    exact y_retU c150_225 ⟨rfl, hTq12678, hF12679, (AN.rf.tr hAq12678), (GM.fr hM hFq12678)⟩
