/-! CONTRACTS: the model, rounds. Printed by wip/whole/gen9d.py -/
set_option maxRecDepth 100000 in
theorem t143_0 {L : Nat} {xs : Nat → Int32} {d nn : Nat} {m : yM} (hT : Ty gT m) (hn : m 376 18 = 0) (hG : GQ 0 m) : YC (gZ L xs) (d + 2) 143 [.ref 376] m nn (qP m nn (fun r => -1 ≤ r ∧ r < m 384 0)) := by
  have tb383 := hT.atp 383 0 0 6 rfl
  have tb384 := hT.atp 384 0 0 10 rfl
  have tb388 := hT.atp 388 0 0 12 rfl
  have tb390 := hT.atp 390 0 0 125 rfl
  have g83 := hG.2.2.2.2.2.2.2.2.2.1
  refine YC.mkB [some (.ref 376)] kn143 rfl rfl ?_
  refine y_aload 1 c143_0 rfl rfl rfl ?_
  refine y_aload 2 c143_1 rfl rfl rfl ?_
  refine y_getX 5 (m 376 18) c143_2 rfl kf376_18 rfl ?_
  have tb12692 := hT.atp 376 18 0 1 rfl
  refine y_top 0 (by omega) ?_
  refine y_iconst 6 c143_5 rfl ?_
  refine y_iconst 8 c143_6 rfl ?_
  refine y_iconst 10 c143_8 rfl ?_
  refine y_iconst 11 c143_10 rfl ?_
  refine y_iconst 12 c143_11 rfl ?_
  refine y_iconst 13 c143_12 rfl ?_
  refine y_iconst 14 c143_13 rfl ?_
  refine y_callP 17 [yI 103, yI 111, yI 0, yI 0, yI 0, yI 0] [yI 0, yI 0, .ref 376] c143_14 rfl rfl rfl rfl rfl (ycanS km101) (t101 (by omega) (by omega) (by omega) (by omega) (by omega) (by omega)) (fun r12693 hr12693 => ?_)
  refine y_iconst 18 c143_17 rfl ?_
  refine y_callP 21 [.ref 376, yI 0, yI 0, yI r12693, yI 0] [] c143_18 rfl rfl rfl rfl rfl (ycanO km142 ko376) (t142_0 hT hG.2.2.2.2.1 (by omega) (by omega) (by omega)) (fun r12694 hr12694 => ?_)
  exact y_retP c143_21 (y_fit0 _) (by omega)
set_option maxRecDepth 100000 in
theorem t151i_0 {L : Nat} {xs : Nat → Int32} {d nn : Nat} {m : yM} {Q : xO → yM → Nat → Prop} {b : Int} (hT : Ty gT m) (hr : 1 ≤ m 376 45 ∧ m 376 45 ≤ 2000) (hn : m 376 18 = 0) (hG : GQ 0 m) (ho : ∀ (x2 x3 : Option Value) (mi : yM), Ty gT mi → Fr wAn m mi → AN m mi → GM 0 mi → YW (gZ L xs) 151 (d + 5) 225 [some (.ref 376), some (yI b), x2, x3] [] mi nn Q) : ∀ (km : Nat) (i : Int) (x3 : Option Value) (mi : yM), m 390 0 - i = km → 0 ≤ i ∧ i ≤ m 390 0 → Ty gT mi → Fr wAn m mi → AN m mi → GM 0 mi → YW (gZ L xs) 151 (d + 5) 167 [some (.ref 376), some (yI b), some (yI i), x3] [] mi nn (Q) := by
  intro km
  induction km using Nat.strongRecOn with
  | ind km ih =>
    intro i x3 mi hk hi hTi hFi hAi hGi
    have tb383 := hT.atp 383 0 0 6 rfl
    have tb384 := hT.atp 384 0 0 10 rfl
    have tb388 := hT.atp 388 0 0 12 rfl
    have tb390 := hT.atp 390 0 0 125 rfl
    have g90 := hG.2.2.2.2.2.2.2.2.2.2
    refine y_iload 168 c151_167 rfl rfl ?_
    refine y_aload 169 c151_168 rfl rfl rfl ?_
    refine y_getR 172 c151_169 rfl kf376_27 ?_
    refine y_aload 173 c151_172 rfl rfl rfl ?_
    refine y_getX 176 (m 376 18) c151_173 rfl kf376_18 (hFi 376 18 rfl) ?_
    have tb12695 := hT.atp 376 18 0 1 rfl
    refine y_top 0 (by omega) ?_
    refine y_iaX 177 (m 390 0) c151_176 rfl ka390 (by decide) (hFi 390 0 rfl) ?_
    refine y_icmp 225 180 c151_177 rfl rfl (yc_ge (by omega) (by omega)) (fun hb12696 => ?_) (fun hb12696 => ?_)
    · exact ho _ _ _ hTi hFi hAi hGi
    · refine y_iconst 183 c151_180 rfl ?_
      refine y_aload 184 c151_183 rfl rfl rfl ?_
      refine y_getX 187 (m 376 18) c151_184 rfl kf376_18 (hFi 376 18 rfl) ?_
      refine y_top 0 (by omega) ?_
      refine y_imul 188 c151_187 rfl ?_
      refine y_top 0 (by decide) ?_
      refine y_iconst 190 c151_188 rfl ?_
      refine y_iload 191 c151_190 rfl rfl ?_
      refine y_imul 192 c151_191 rfl ?_
      refine y_iadd 193 c151_192 rfl ?_
      refine y_istore 194 c151_193 rfl rfl ?_
      refine y_aload 195 c151_194 rfl rfl rfl ?_
      refine y_aload 196 c151_195 rfl rfl rfl ?_
      refine y_getR 199 c151_196 rfl kf376_44 ?_
      refine y_aload 200 c151_199 rfl rfl rfl ?_
      refine y_getR 203 c151_200 rfl kf376_40 ?_
      refine y_iload 204 c151_203 rfl rfl ?_
      refine y_iconst 205 c151_204 rfl ?_
      refine y_iadd 206 c151_205 rfl ?_
      refine y_iaT 207 ((-2147483648)) 2147483647 c151_206 rfl ka403 (by omega) hTi rfl (fun v12697 hv12697 gv12697 => ?_)
      have gv12697_ : m 403 (1000 * 0 + 8 * i.toNat + 1) = v12697 := by rw [show 1000 * 0 + 8 * i.toNat + 1 = ((0 + (8 * i)) + 1).toNat by omega]; exact ((hFi 403 _ rfl)).symm.trans hv12697
      have hw := hG.1.1 i.toNat (by omega)
      unfold OW at hw
      refine y_iaT 208 ((-2147483648)) 2147483647 c151_207 rfl ka407 (by omega) hTi rfl (fun v12698 hv12698 gv12698 => ?_)
      refine y_callP 211 [.ref 376, yI v12698] [] c151_208 rfl rfl rfl rfl rfl (ycanO km144 ko376) (t144 hTi (by omega)) (fun r12699 hr12699 => ?_)
      refine y_if 219 214 c151_211 rfl rfl (yz_eq (by omega)) (fun hb12700 => ?_) (fun hb12700 => ?_)
      · refine y_iinc 222 c151_219 rfl rfl rfl ?_
        refine y_goto 167 c151_222 rfl ?_
        exact ih (m 390 0 - (i + 1) : Int).toNat (by omega) (i + 1) _  _ (by omega) (by omega) hTi hFi hAi hGi
      · refine y_aload 215 c151_214 rfl rfl rfl ?_
        refine y_iload 216 c151_215 rfl rfl ?_
        have es12702 : mi 376 45 = m 376 45 := (hFi 376 45 rfl)
        have tb12703 := hT.atp 376 45 ((-2147483648)) 2147483647 rfl
        have es12704 : mi 376 18 = m 376 18 := (hFi 376 18 rfl)
        have es12705 : mi 390 0 = m 390 0 := (hFi 390 0 rfl)
        refine y_callUB 219 [.ref 376, yI (0 + (8 * i))] [] c151_216 rfl rfl rfl rfl rfl (ycanO km150 ko376) (t150_0 (k := i) hTi (by omega) (by omega) (hG.fr hT (by decide) (fun a q ha => hFi a q (wAn_G a q ha))) (by omega) hGi) (fun mq12701 nq12701 hq12701 => ?_)
        obtain ⟨rfl, hTq12701, hFq12701, hAq12701, hMq12701⟩ := hq12701
        have hF12706 := hFi.tr hFq12701 (fun _ _ e => e)
        refine y_iinc 222 c151_219 rfl rfl rfl ?_
        refine y_goto 167 c151_222 rfl ?_
        exact ih (m 390 0 - (i + 1) : Int).toNat (by omega) (i + 1) _  _ (by omega) (by omega) hTq12701 hF12706 (hAi.tr hAq12701) hMq12701
set_option maxRecDepth 100000 in
theorem t151w_0 {L : Nat} {xs : Nat → Int32} {d nn : Nat} {m : yM} {b : Int} (hT : Ty gT m) (hn : m 376 18 = 0) (hG : GQ 0 m) : ∀ (k : Nat) (x2 x3 : Option Value) (mi : yM), 2 * (NEG mi : Int) + mi 376 46 = k → Ty gT mi → Fr wAz m mi → GM 0 mi → (0 ≤ mi 376 45 ∧ mi 376 45 ≤ 1900) → (mi 376 46 = 1 → mi 376 45 + NEG mi ≤ 1858) → YW (gZ L xs) 151 (d + 5) 143 [some (.ref 376), some (yI b), x2, x3] [] mi nn (qU (fun m' n' => n' = nn ∧ Ty gT m' ∧ Fr wAz m m')) := by
  intro k
  induction k using Nat.strongRecOn with
  | ind k ih =>
    intro x2 x3 mi hk hTi hFi hGi h45 hfr
    have tf := hTi.atp 376 46 0 1 rfl
    have en : mi 376 18 = m 376 18 := hFi 376 18 rfl
    refine y_aload 144 c151_143 rfl rfl rfl ?_
    refine y_getX 147 (mi 376 46) c151_144 rfl kf376_46 rfl ?_
    refine y_if 243 150 c151_147 rfl rfl (yz_eq (by omega)) (fun hb12707 => ?_) (fun hb12707 => ?_)
    · exact y_retU c151_243 ⟨rfl, hTi, hFi⟩
    · refine y_aload 151 c151_150 rfl rfl rfl ?_
      refine y_iconst 152 c151_151 rfl ?_
      refine y_putI 155 c151_152 rfl kf376_46 (y_fit1 (by omega)) ?_
      have hT12708 := hTi.up 376 46 0 0 1 rfl (by omega)
      have hF12709 := hFi.up 376 46 0 rfl
      refine y_aload 156 c151_155 rfl rfl rfl ?_
      refine y_dup 157 c151_156 rfl rfl ?_
      refine y_getX 160 (mi 376 45) c151_157 rfl kf376_45 rfl ?_
      refine y_iconst 161 c151_160 rfl ?_
      refine y_iadd 162 c151_161 rfl ?_
      refine y_putI 165 c151_162 rfl kf376_45 (y_fit0 _) ?_
      have hT12710 := hT12708.up 376 45 ((mi 376 45) + 1) ((-2147483648)) 2147483647 rfl (by omega)
      have hF12711 := hF12709.up 376 45 ((mi 376 45) + 1) rfl
      refine y_iconst 166 c151_165 rfl ?_
      refine y_istore 167 c151_166 rfl rfl ?_
      have es12712 : (yup (yup mi 376 46 0) 376 45 ((mi 376 45) + 1)) 376 45 = (mi 376 45) + 1 := rfl
      have es12713 : (yup (yup mi 376 46 0) 376 45 ((mi 376 45) + 1)) 376 46 = 0 := rfl
      have es12714 : (yup (yup mi 376 46 0) 376 45 ((mi 376 45) + 1)) 376 18 = m 376 18 := ((yup_nk (by decide)).trans ((yup_nk (by decide)).trans (hFi 376 18 rfl)))
      have tb12715 := hT.atp 376 18 0 1 rfl
      have hGc : GQ 0 (yup (yup mi 376 46 0) 376 45 ((mi 376 45) + 1)) := hG.fr hT (by decide) (fun a q ha => (yup_ne (by rintro ⟨rfl, rfl⟩; simp [vGq] at ha)).trans ((yup_ne (by rintro ⟨rfl, rfl⟩; simp [vGq] at ha)).trans (hFi a q (wAz_G a q ha))))
      have hNe : NEG (yup (yup mi 376 46 0) 376 45 ((mi 376 45) + 1)) = NEG mi := rfl
      have tq90 := hT12710.atp 390 0 0 125 rfl
      refine t151i_0 (m := yup (yup mi 376 46 0) 376 45 ((mi 376 45) + 1)) (b := b) hT12710 (by omega) (by omega) hGc (fun y2 y3 mj j1 j2 j3 j4 => ?_) ((yup (yup mi 376 46 0) 376 45 ((mi 376 45) + 1)) 390 0 - 0).toNat 0 _ _ (by omega) (by omega) hT12710 Fr.rf AN.rf (GM.up (GM.up hGi (by decide)) (by decide))
      have hng := j3.neg
      have tj := j1.atp 376 46 0 1 rfl
      have hF12716 := hF12711.tr j2 wAn_wAz
      refine y_aload 226 c151_225 rfl rfl rfl ?_
      refine y_getX 229 (mj 376 46) c151_226 rfl kf376_46 rfl ?_
      refine y_if 143 232 c151_229 rfl rfl (yz_eq (by omega)) (fun hb12717 => ?_) (fun hb12717 => ?_)
      · have es12718 : mj 376 45 = (mi 376 45) + 1 := ((j2 376 45 rfl).trans (yup_eq _ _ _ _))
        exact ih (2 * (NEG mj : Int) + mj 376 46).toNat (by omega) _ _ _ (by omega) j1 hF12716 j4 (by omega) (by omega)
      · refine y_aload 233 c151_232 rfl rfl rfl ?_
        refine y_aload 234 c151_233 rfl rfl rfl ?_
        refine y_getX 237 ((mi 376 45) + 1) c151_234 rfl kf376_45 ((j2 376 45 rfl).trans (yup_eq _ _ _ _)) ?_
        refine y_putI 240 c151_237 rfl kf376_47 (y_fit0 _) ?_
        have hT12719 := j1.up 376 47 ((mi 376 45) + 1) ((-2147483648)) 2147483647 rfl (by omega)
        have hF12720 := hF12716.up 376 47 ((mi 376 45) + 1) rfl
        refine y_goto 143 c151_240 rfl ?_
        have es12721 : (yup mj 376 47 ((mi 376 45) + 1)) 376 45 = (mi 376 45) + 1 := ((yup_nk (by decide)).trans ((j2 376 45 rfl).trans (yup_eq _ _ _ _)))
        have es12722 : (yup mj 376 47 ((mi 376 45) + 1)) 376 46 = mj 376 46 := rfl
        have hN2 : NEG (yup mj 376 47 ((mi 376 45) + 1)) = NEG mj := rfl
        exact ih (2 * (NEG (yup mj 376 47 ((mi 376 45) + 1)) : Int) + (yup mj 376 47 ((mi 376 45) + 1)) 376 46).toNat (by omega) _ _ _ (by omega) hT12719 hF12720 (GM.up j4 (by decide)) (by omega) (by omega)
set_option maxRecDepth 100000 in
theorem t151_0 {L : Nat} {xs : Nat → Int32} {d nn : Nat} {m : yM} (hT : Ty gT m) (hn : m 376 18 = 0) (hG : GQ 0 m) : YC (gZ L xs) (d + 5) 151 [.ref 376] m nn (qU (fun m' n' => n' = nn ∧ Ty gT m' ∧ Fr wAz m m')) := by
  have tb383 := hT.atp 383 0 0 6 rfl
  have tb384 := hT.atp 384 0 0 10 rfl
  have tb388 := hT.atp 388 0 0 12 rfl
  have tb390 := hT.atp 390 0 0 125 rfl
  refine YC.mkB [some (.ref 376), none, none, none] kn151 rfl rfl ?_
  have hF : Fr wAz m m := Fr.rf
  refine y_iconst 1 c151_0 rfl ?_
  refine y_istore 2 c151_1 rfl rfl ?_
  refine t151_404 hT (fun x1_404 me404 hTme404 hFme404 => ?_) 576 0 _ (by omega) (by omega) hT Fr.rf
  have hF12723 := hF.tr hFme404 (wRo_wAz (by decide))
  refine y_iconst 23 c151_22 rfl ?_
  refine y_istore 24 c151_23 rfl rfl ?_
  refine t151_405 hTme404 (fun x1_405 me405 hTme405 hFme405 => ?_) 1152 0 _ (by omega) (by omega) hTme404 Fr.rf
  have hF12724 := hF12723.tr hFme405 (wRo_wAz (by decide))
  refine y_iconst 45 c151_44 rfl ?_
  refine y_istore 46 c151_45 rfl rfl ?_
  refine t151_406 hTme405 (fun x1_406 me406 hTme406 hFme406 hz6 => ?_) 120 0 _ (by omega) (by omega) hTme405 Fr.rf (fun q hq => by simp at hq)
  have hF12725 := hF12724.tr hFme406 (wRo_wAz (by decide))
  refine y_iconst 66 c151_65 rfl ?_
  refine y_istore 67 c151_66 rfl rfl ?_
  refine t151_407 hTme406 (fun x1_407 me407 hTme407 hFme407 => ?_) 10 0 _ (by omega) (by omega) hTme406 Fr.rf
  have hF12726 := hF12725.tr hFme407 (wRo_wAz (by decide))
  refine y_aload 87 c151_86 rfl rfl rfl ?_
  refine y_iconst 88 c151_87 rfl ?_
  refine y_putI 91 c151_88 rfl kf376_47 (y_fit0 _) ?_
  have hT12727 := hTme407.up 376 47 0 ((-2147483648)) 2147483647 rfl (by omega)
  have hF12728 := hF12726.up 376 47 0 rfl
  refine y_aload 92 c151_91 rfl rfl rfl ?_
  refine y_iconst 93 c151_92 rfl ?_
  refine y_putI 96 c151_93 rfl kf376_45 (y_fit0 _) ?_
  have hT12729 := hT12727.up 376 45 0 ((-2147483648)) 2147483647 rfl (by omega)
  have hF12730 := hF12728.up 376 45 0 rfl
  refine y_aload 97 c151_96 rfl rfl rfl ?_
  have es12731 : (yup (yup me407 376 47 0) 376 45 0) 376 18 = m 376 18 := ((yup_nk (by decide)).trans ((yup_nk (by decide)).trans ((hFme407 376 18 rfl).trans ((hFme406 376 18 rfl).trans ((hFme405 376 18 rfl).trans (hFme404 376 18 rfl))))))
  have tb12732 := hT.atp 376 18 0 1 rfl
  have es12733 : (yup (yup me407 376 47 0) 376 45 0) 384 0 = m 384 0 := ((yup_na (by decide)).trans ((yup_na (by decide)).trans ((hFme407 384 0 rfl).trans ((hFme406 384 0 rfl).trans ((hFme405 384 0 rfl).trans (hFme404 384 0 rfl))))))
  refine y_callP 100 [.ref 376] [] c151_97 rfl rfl rfl rfl rfl (ycanO km143 ko376) (t143_0 hT12729 (by omega) (hG.fr hT (by decide) (fun a q ha => hF12730 a q (wAz_G a q ha)))) (fun r12734 hr12734 => ?_)
  refine y_istore 101 c151_100 rfl rfl ?_
  refine y_iload 102 c151_101 rfl rfl ?_
  refine y_if 106 105 c151_102 rfl rfl (yz_ge (by omega)) (fun hb12735 => ?_) (fun hb12735 => ?_)
  · refine y_aload 107 c151_106 rfl rfl rfl ?_
    refine y_getR 110 c151_107 rfl kf376_44 ?_
    refine y_iload 111 c151_110 rfl rfl ?_
    refine y_iconst 112 c151_111 rfl ?_
    refine y_iastore 113 c151_112 rfl ka407 (by omega) (y_nar0 _) ?_
    have hT12736 := hT12729.up 407 r12734.toNat 0 ((-2147483648)) 2147483647 rfl (by omega)
    have hF12737 := hF12730.up 407 r12734.toNat 0 rfl
    refine y_aload 114 c151_113 rfl rfl rfl ?_
    refine y_getR 117 c151_114 rfl kf376_41 ?_
    refine y_iconst 119 c151_117 rfl ?_
    refine y_aload 120 c151_119 rfl rfl rfl ?_
    refine y_getR 123 c151_120 rfl kf376_35 ?_
    refine y_iconst 125 c151_123 rfl ?_
    refine y_aload 126 c151_125 rfl rfl rfl ?_
    refine y_getX 129 (m 376 18) c151_126 rfl kf376_18 ((yup_na (by decide)).trans ((yup_nk (by decide)).trans ((yup_nk (by decide)).trans ((hFme407 376 18 rfl).trans ((hFme406 376 18 rfl).trans ((hFme405 376 18 rfl).trans (hFme404 376 18 rfl))))))) ?_
    refine y_top 0 (by omega) ?_
    refine y_imul 130 c151_129 rfl ?_
    refine y_top 0 (by decide) ?_
    refine y_iload 131 c151_130 rfl rfl ?_
    refine y_iadd 132 c151_131 rfl ?_
    refine y_iaT 133 0 46 c151_132 rfl ka398 (by omega) hT12736 rfl (fun v12738 hv12738 gv12738 => ?_)
    refine y_iconst 134 c151_133 rfl ?_
    refine y_iadd 135 c151_134 rfl ?_
    refine y_imul 136 c151_135 rfl ?_
    refine y_iconst 137 c151_136 rfl ?_
    refine y_iastore 138 c151_137 rfl ka404 (by omega) (y_nar0 _) ?_
    have hT12739 := hT12736.up 404 ((12 * (v12738 + 1)).toNat) 0 ((-2147483648)) 2147483647 rfl (by omega)
    have hF12740 := hF12737.up 404 ((12 * (v12738 + 1)).toNat) 0 rfl
    refine y_aload 139 c151_138 rfl rfl rfl ?_
    refine y_iconst 140 c151_139 rfl ?_
    refine y_putI 143 c151_140 rfl kf376_46 (y_fit1 (by omega)) ?_
    have hT12741 := hT12739.up 376 46 1 0 1 rfl (by omega)
    have hF12742 := hF12740.up 376 46 1 rfl
    have es12743 : (yup (yup (yup (yup (yup me407 376 47 0) 376 45 0) 407 r12734.toNat 0) 404 ((12 * (v12738 + 1)).toNat) 0) 376 46 1) 376 45 = 0 := rfl
    have es12744 : (yup (yup (yup (yup (yup me407 376 47 0) 376 45 0) 407 r12734.toNat 0) 404 ((12 * (v12738 + 1)).toNat) 0) 376 46 1) 376 46 = 1 := rfl
    have hgm : GM 0 (yup (yup (yup (yup (yup me407 376 47 0) 376 45 0) 407 r12734.toNat 0) 404 ((12 * (v12738 + 1)).toNat) 0) 376 46 1) := by
      intro o ho h7 i hi hne
      exfalso
      have hgc : GQ 0 (yup (yup (yup (yup (yup me407 376 47 0) 376 45 0) 407 r12734.toNat 0) 404 ((12 * (v12738 + 1)).toNat) 0) 376 46 1) := hG.fr hT (by decide) (fun a q ha => hF12742 a q (wAz_G a q ha))
      have w7 := (hgc.1.1 o ho).2.2.2.2.2.2.2.2 h7
      have t4 := hT12741.atp 384 0 0 10 rfl
      rw [show (yup (yup (yup (yup (yup me407 376 47 0) 376 45 0) 407 r12734.toNat 0) 404 ((12 * (v12738 + 1)).toNat) 0) 376 46 1) 406 (10 * ((yup (yup (yup (yup (yup me407 376 47 0) 376 45 0) 407 r12734.toNat 0) 404 ((12 * (v12738 + 1)).toNat) 0) 376 46 1) 403 (1000 * 0 + 8 * o + 5) / 16).toNat + i) = -1 from (((yup_na (by decide)).trans ((yup_na (by decide)).trans ((yup_na (by decide)).trans ((yup_na (by decide)).trans ((yup_na (by decide)).trans (hFme407 406 _ rfl))))))).trans (hz6 _ (by omega))] at hne
      omega
    have hnh := NEG.hi (m := yup (yup (yup (yup (yup me407 376 47 0) 376 45 0) 407 r12734.toNat 0) 404 ((12 * (v12738 + 1)).toNat) 0) 376 46 1)
    exact t151w_0 (b := r12734) hT hn hG (2 * (NEG (yup (yup (yup (yup (yup me407 376 47 0) 376 45 0) 407 r12734.toNat 0) 404 ((12 * (v12738 + 1)).toNat) 0) 376 46 1) : Int) + (yup (yup (yup (yup (yup me407 376 47 0) 376 45 0) 407 r12734.toNat 0) 404 ((12 * (v12738 + 1)).toNat) 0) 376 46 1) 376 46).toNat _ _ _ (by omega) hT12741 hF12742 hgm (by omega) (by omega)
  · exact y_retU c151_105 ⟨rfl, hT12729, hF12730⟩
set_option maxRecDepth 100000 in
theorem t143_1 {L : Nat} {xs : Nat → Int32} {d nn : Nat} {m : yM} (hT : Ty gT m) (hn : m 376 18 = 1) (hG : GQ 1 m) : YC (gZ L xs) (d + 2) 143 [.ref 376] m nn (qP m nn (fun r => -1 ≤ r ∧ r < m 384 1)) := by
  have tb383 := hT.atp 383 1 0 6 rfl
  have tb384 := hT.atp 384 1 0 10 rfl
  have tb388 := hT.atp 388 1 0 12 rfl
  have tb390 := hT.atp 390 1 0 125 rfl
  have g83 := hG.2.2.2.2.2.2.2.2.2.1
  refine YC.mkB [some (.ref 376)] kn143 rfl rfl ?_
  refine y_aload 1 c143_0 rfl rfl rfl ?_
  refine y_aload 2 c143_1 rfl rfl rfl ?_
  refine y_getX 5 (m 376 18) c143_2 rfl kf376_18 rfl ?_
  have tb12745 := hT.atp 376 18 0 1 rfl
  refine y_top 1 (by omega) ?_
  refine y_iconst 6 c143_5 rfl ?_
  refine y_iconst 8 c143_6 rfl ?_
  refine y_iconst 10 c143_8 rfl ?_
  refine y_iconst 11 c143_10 rfl ?_
  refine y_iconst 12 c143_11 rfl ?_
  refine y_iconst 13 c143_12 rfl ?_
  refine y_iconst 14 c143_13 rfl ?_
  refine y_callP 17 [yI 103, yI 111, yI 0, yI 0, yI 0, yI 0] [yI 0, yI 1, .ref 376] c143_14 rfl rfl rfl rfl rfl (ycanS km101) (t101 (by omega) (by omega) (by omega) (by omega) (by omega) (by omega)) (fun r12746 hr12746 => ?_)
  refine y_iconst 18 c143_17 rfl ?_
  refine y_callP 21 [.ref 376, yI 1, yI 0, yI r12746, yI 0] [] c143_18 rfl rfl rfl rfl rfl (ycanO km142 ko376) (t142_1 hT hG.2.2.2.2.1 (by omega) (by omega) (by omega)) (fun r12747 hr12747 => ?_)
  exact y_retP c143_21 (y_fit0 _) (by omega)
set_option maxRecDepth 100000 in
theorem t151i_1 {L : Nat} {xs : Nat → Int32} {d nn : Nat} {m : yM} {Q : xO → yM → Nat → Prop} {b : Int} (hT : Ty gT m) (hr : 1 ≤ m 376 45 ∧ m 376 45 ≤ 2000) (hn : m 376 18 = 1) (hG : GQ 1 m) (ho : ∀ (x2 x3 : Option Value) (mi : yM), Ty gT mi → Fr wAn m mi → AN m mi → GM 1 mi → YW (gZ L xs) 151 (d + 5) 225 [some (.ref 376), some (yI b), x2, x3] [] mi nn Q) : ∀ (km : Nat) (i : Int) (x3 : Option Value) (mi : yM), m 390 1 - i = km → 0 ≤ i ∧ i ≤ m 390 1 → Ty gT mi → Fr wAn m mi → AN m mi → GM 1 mi → YW (gZ L xs) 151 (d + 5) 167 [some (.ref 376), some (yI b), some (yI i), x3] [] mi nn (Q) := by
  intro km
  induction km using Nat.strongRecOn with
  | ind km ih =>
    intro i x3 mi hk hi hTi hFi hAi hGi
    have tb383 := hT.atp 383 1 0 6 rfl
    have tb384 := hT.atp 384 1 0 10 rfl
    have tb388 := hT.atp 388 1 0 12 rfl
    have tb390 := hT.atp 390 1 0 125 rfl
    have g90 := hG.2.2.2.2.2.2.2.2.2.2
    refine y_iload 168 c151_167 rfl rfl ?_
    refine y_aload 169 c151_168 rfl rfl rfl ?_
    refine y_getR 172 c151_169 rfl kf376_27 ?_
    refine y_aload 173 c151_172 rfl rfl rfl ?_
    refine y_getX 176 (m 376 18) c151_173 rfl kf376_18 (hFi 376 18 rfl) ?_
    have tb12748 := hT.atp 376 18 0 1 rfl
    refine y_top 1 (by omega) ?_
    refine y_iaX 177 (m 390 1) c151_176 rfl ka390 (by decide) (hFi 390 1 rfl) ?_
    refine y_icmp 225 180 c151_177 rfl rfl (yc_ge (by omega) (by omega)) (fun hb12749 => ?_) (fun hb12749 => ?_)
    · exact ho _ _ _ hTi hFi hAi hGi
    · refine y_iconst 183 c151_180 rfl ?_
      refine y_aload 184 c151_183 rfl rfl rfl ?_
      refine y_getX 187 (m 376 18) c151_184 rfl kf376_18 (hFi 376 18 rfl) ?_
      refine y_top 1 (by omega) ?_
      refine y_imul 188 c151_187 rfl ?_
      refine y_top 1000 (by decide) ?_
      refine y_iconst 190 c151_188 rfl ?_
      refine y_iload 191 c151_190 rfl rfl ?_
      refine y_imul 192 c151_191 rfl ?_
      refine y_iadd 193 c151_192 rfl ?_
      refine y_istore 194 c151_193 rfl rfl ?_
      refine y_aload 195 c151_194 rfl rfl rfl ?_
      refine y_aload 196 c151_195 rfl rfl rfl ?_
      refine y_getR 199 c151_196 rfl kf376_44 ?_
      refine y_aload 200 c151_199 rfl rfl rfl ?_
      refine y_getR 203 c151_200 rfl kf376_40 ?_
      refine y_iload 204 c151_203 rfl rfl ?_
      refine y_iconst 205 c151_204 rfl ?_
      refine y_iadd 206 c151_205 rfl ?_
      refine y_iaT 207 ((-2147483648)) 2147483647 c151_206 rfl ka403 (by omega) hTi rfl (fun v12750 hv12750 gv12750 => ?_)
      have gv12750_ : m 403 (1000 * 1 + 8 * i.toNat + 1) = v12750 := by rw [show 1000 * 1 + 8 * i.toNat + 1 = ((1000 + (8 * i)) + 1).toNat by omega]; exact ((hFi 403 _ rfl)).symm.trans hv12750
      have hw := hG.1.1 i.toNat (by omega)
      unfold OW at hw
      refine y_iaT 208 ((-2147483648)) 2147483647 c151_207 rfl ka407 (by omega) hTi rfl (fun v12751 hv12751 gv12751 => ?_)
      refine y_callP 211 [.ref 376, yI v12751] [] c151_208 rfl rfl rfl rfl rfl (ycanO km144 ko376) (t144 hTi (by omega)) (fun r12752 hr12752 => ?_)
      refine y_if 219 214 c151_211 rfl rfl (yz_eq (by omega)) (fun hb12753 => ?_) (fun hb12753 => ?_)
      · refine y_iinc 222 c151_219 rfl rfl rfl ?_
        refine y_goto 167 c151_222 rfl ?_
        exact ih (m 390 1 - (i + 1) : Int).toNat (by omega) (i + 1) _  _ (by omega) (by omega) hTi hFi hAi hGi
      · refine y_aload 215 c151_214 rfl rfl rfl ?_
        refine y_iload 216 c151_215 rfl rfl ?_
        have es12755 : mi 376 45 = m 376 45 := (hFi 376 45 rfl)
        have tb12756 := hT.atp 376 45 ((-2147483648)) 2147483647 rfl
        have es12757 : mi 376 18 = m 376 18 := (hFi 376 18 rfl)
        have es12758 : mi 390 1 = m 390 1 := (hFi 390 1 rfl)
        refine y_callUB 219 [.ref 376, yI (1000 + (8 * i))] [] c151_216 rfl rfl rfl rfl rfl (ycanO km150 ko376) (t150_1 (k := i) hTi (by omega) (by omega) (hG.fr hT (by decide) (fun a q ha => hFi a q (wAn_G a q ha))) (by omega) hGi) (fun mq12754 nq12754 hq12754 => ?_)
        obtain ⟨rfl, hTq12754, hFq12754, hAq12754, hMq12754⟩ := hq12754
        have hF12759 := hFi.tr hFq12754 (fun _ _ e => e)
        refine y_iinc 222 c151_219 rfl rfl rfl ?_
        refine y_goto 167 c151_222 rfl ?_
        exact ih (m 390 1 - (i + 1) : Int).toNat (by omega) (i + 1) _  _ (by omega) (by omega) hTq12754 hF12759 (hAi.tr hAq12754) hMq12754
set_option maxRecDepth 100000 in
theorem t151w_1 {L : Nat} {xs : Nat → Int32} {d nn : Nat} {m : yM} {b : Int} (hT : Ty gT m) (hn : m 376 18 = 1) (hG : GQ 1 m) : ∀ (k : Nat) (x2 x3 : Option Value) (mi : yM), 2 * (NEG mi : Int) + mi 376 46 = k → Ty gT mi → Fr wAz m mi → GM 1 mi → (0 ≤ mi 376 45 ∧ mi 376 45 ≤ 1900) → (mi 376 46 = 1 → mi 376 45 + NEG mi ≤ 1858) → YW (gZ L xs) 151 (d + 5) 143 [some (.ref 376), some (yI b), x2, x3] [] mi nn (qU (fun m' n' => n' = nn ∧ Ty gT m' ∧ Fr wAz m m')) := by
  intro k
  induction k using Nat.strongRecOn with
  | ind k ih =>
    intro x2 x3 mi hk hTi hFi hGi h45 hfr
    have tf := hTi.atp 376 46 0 1 rfl
    have en : mi 376 18 = m 376 18 := hFi 376 18 rfl
    refine y_aload 144 c151_143 rfl rfl rfl ?_
    refine y_getX 147 (mi 376 46) c151_144 rfl kf376_46 rfl ?_
    refine y_if 243 150 c151_147 rfl rfl (yz_eq (by omega)) (fun hb12760 => ?_) (fun hb12760 => ?_)
    · exact y_retU c151_243 ⟨rfl, hTi, hFi⟩
    · refine y_aload 151 c151_150 rfl rfl rfl ?_
      refine y_iconst 152 c151_151 rfl ?_
      refine y_putI 155 c151_152 rfl kf376_46 (y_fit1 (by omega)) ?_
      have hT12761 := hTi.up 376 46 0 0 1 rfl (by omega)
      have hF12762 := hFi.up 376 46 0 rfl
      refine y_aload 156 c151_155 rfl rfl rfl ?_
      refine y_dup 157 c151_156 rfl rfl ?_
      refine y_getX 160 (mi 376 45) c151_157 rfl kf376_45 rfl ?_
      refine y_iconst 161 c151_160 rfl ?_
      refine y_iadd 162 c151_161 rfl ?_
      refine y_putI 165 c151_162 rfl kf376_45 (y_fit0 _) ?_
      have hT12763 := hT12761.up 376 45 ((mi 376 45) + 1) ((-2147483648)) 2147483647 rfl (by omega)
      have hF12764 := hF12762.up 376 45 ((mi 376 45) + 1) rfl
      refine y_iconst 166 c151_165 rfl ?_
      refine y_istore 167 c151_166 rfl rfl ?_
      have es12765 : (yup (yup mi 376 46 0) 376 45 ((mi 376 45) + 1)) 376 45 = (mi 376 45) + 1 := rfl
      have es12766 : (yup (yup mi 376 46 0) 376 45 ((mi 376 45) + 1)) 376 46 = 0 := rfl
      have es12767 : (yup (yup mi 376 46 0) 376 45 ((mi 376 45) + 1)) 376 18 = m 376 18 := ((yup_nk (by decide)).trans ((yup_nk (by decide)).trans (hFi 376 18 rfl)))
      have tb12768 := hT.atp 376 18 0 1 rfl
      have hGc : GQ 1 (yup (yup mi 376 46 0) 376 45 ((mi 376 45) + 1)) := hG.fr hT (by decide) (fun a q ha => (yup_ne (by rintro ⟨rfl, rfl⟩; simp [vGq] at ha)).trans ((yup_ne (by rintro ⟨rfl, rfl⟩; simp [vGq] at ha)).trans (hFi a q (wAz_G a q ha))))
      have hNe : NEG (yup (yup mi 376 46 0) 376 45 ((mi 376 45) + 1)) = NEG mi := rfl
      have tq90 := hT12763.atp 390 1 0 125 rfl
      refine t151i_1 (m := yup (yup mi 376 46 0) 376 45 ((mi 376 45) + 1)) (b := b) hT12763 (by omega) (by omega) hGc (fun y2 y3 mj j1 j2 j3 j4 => ?_) ((yup (yup mi 376 46 0) 376 45 ((mi 376 45) + 1)) 390 1 - 0).toNat 0 _ _ (by omega) (by omega) hT12763 Fr.rf AN.rf (GM.up (GM.up hGi (by decide)) (by decide))
      have hng := j3.neg
      have tj := j1.atp 376 46 0 1 rfl
      have hF12769 := hF12764.tr j2 wAn_wAz
      refine y_aload 226 c151_225 rfl rfl rfl ?_
      refine y_getX 229 (mj 376 46) c151_226 rfl kf376_46 rfl ?_
      refine y_if 143 232 c151_229 rfl rfl (yz_eq (by omega)) (fun hb12770 => ?_) (fun hb12770 => ?_)
      · have es12771 : mj 376 45 = (mi 376 45) + 1 := ((j2 376 45 rfl).trans (yup_eq _ _ _ _))
        exact ih (2 * (NEG mj : Int) + mj 376 46).toNat (by omega) _ _ _ (by omega) j1 hF12769 j4 (by omega) (by omega)
      · refine y_aload 233 c151_232 rfl rfl rfl ?_
        refine y_aload 234 c151_233 rfl rfl rfl ?_
        refine y_getX 237 ((mi 376 45) + 1) c151_234 rfl kf376_45 ((j2 376 45 rfl).trans (yup_eq _ _ _ _)) ?_
        refine y_putI 240 c151_237 rfl kf376_47 (y_fit0 _) ?_
        have hT12772 := j1.up 376 47 ((mi 376 45) + 1) ((-2147483648)) 2147483647 rfl (by omega)
        have hF12773 := hF12769.up 376 47 ((mi 376 45) + 1) rfl
        refine y_goto 143 c151_240 rfl ?_
        have es12774 : (yup mj 376 47 ((mi 376 45) + 1)) 376 45 = (mi 376 45) + 1 := ((yup_nk (by decide)).trans ((j2 376 45 rfl).trans (yup_eq _ _ _ _)))
        have es12775 : (yup mj 376 47 ((mi 376 45) + 1)) 376 46 = mj 376 46 := rfl
        have hN2 : NEG (yup mj 376 47 ((mi 376 45) + 1)) = NEG mj := rfl
        exact ih (2 * (NEG (yup mj 376 47 ((mi 376 45) + 1)) : Int) + (yup mj 376 47 ((mi 376 45) + 1)) 376 46).toNat (by omega) _ _ _ (by omega) hT12772 hF12773 (GM.up j4 (by decide)) (by omega) (by omega)
set_option maxRecDepth 100000 in
theorem t151_1 {L : Nat} {xs : Nat → Int32} {d nn : Nat} {m : yM} (hT : Ty gT m) (hn : m 376 18 = 1) (hG : GQ 1 m) : YC (gZ L xs) (d + 5) 151 [.ref 376] m nn (qU (fun m' n' => n' = nn ∧ Ty gT m' ∧ Fr wAz m m')) := by
  have tb383 := hT.atp 383 1 0 6 rfl
  have tb384 := hT.atp 384 1 0 10 rfl
  have tb388 := hT.atp 388 1 0 12 rfl
  have tb390 := hT.atp 390 1 0 125 rfl
  refine YC.mkB [some (.ref 376), none, none, none] kn151 rfl rfl ?_
  have hF : Fr wAz m m := Fr.rf
  refine y_iconst 1 c151_0 rfl ?_
  refine y_istore 2 c151_1 rfl rfl ?_
  refine t151_404 hT (fun x1_404 me404 hTme404 hFme404 => ?_) 576 0 _ (by omega) (by omega) hT Fr.rf
  have hF12776 := hF.tr hFme404 (wRo_wAz (by decide))
  refine y_iconst 23 c151_22 rfl ?_
  refine y_istore 24 c151_23 rfl rfl ?_
  refine t151_405 hTme404 (fun x1_405 me405 hTme405 hFme405 => ?_) 1152 0 _ (by omega) (by omega) hTme404 Fr.rf
  have hF12777 := hF12776.tr hFme405 (wRo_wAz (by decide))
  refine y_iconst 45 c151_44 rfl ?_
  refine y_istore 46 c151_45 rfl rfl ?_
  refine t151_406 hTme405 (fun x1_406 me406 hTme406 hFme406 hz6 => ?_) 120 0 _ (by omega) (by omega) hTme405 Fr.rf (fun q hq => by simp at hq)
  have hF12778 := hF12777.tr hFme406 (wRo_wAz (by decide))
  refine y_iconst 66 c151_65 rfl ?_
  refine y_istore 67 c151_66 rfl rfl ?_
  refine t151_407 hTme406 (fun x1_407 me407 hTme407 hFme407 => ?_) 10 0 _ (by omega) (by omega) hTme406 Fr.rf
  have hF12779 := hF12778.tr hFme407 (wRo_wAz (by decide))
  refine y_aload 87 c151_86 rfl rfl rfl ?_
  refine y_iconst 88 c151_87 rfl ?_
  refine y_putI 91 c151_88 rfl kf376_47 (y_fit0 _) ?_
  have hT12780 := hTme407.up 376 47 0 ((-2147483648)) 2147483647 rfl (by omega)
  have hF12781 := hF12779.up 376 47 0 rfl
  refine y_aload 92 c151_91 rfl rfl rfl ?_
  refine y_iconst 93 c151_92 rfl ?_
  refine y_putI 96 c151_93 rfl kf376_45 (y_fit0 _) ?_
  have hT12782 := hT12780.up 376 45 0 ((-2147483648)) 2147483647 rfl (by omega)
  have hF12783 := hF12781.up 376 45 0 rfl
  refine y_aload 97 c151_96 rfl rfl rfl ?_
  have es12784 : (yup (yup me407 376 47 0) 376 45 0) 376 18 = m 376 18 := ((yup_nk (by decide)).trans ((yup_nk (by decide)).trans ((hFme407 376 18 rfl).trans ((hFme406 376 18 rfl).trans ((hFme405 376 18 rfl).trans (hFme404 376 18 rfl))))))
  have tb12785 := hT.atp 376 18 0 1 rfl
  have es12786 : (yup (yup me407 376 47 0) 376 45 0) 384 1 = m 384 1 := ((yup_na (by decide)).trans ((yup_na (by decide)).trans ((hFme407 384 1 rfl).trans ((hFme406 384 1 rfl).trans ((hFme405 384 1 rfl).trans (hFme404 384 1 rfl))))))
  refine y_callP 100 [.ref 376] [] c151_97 rfl rfl rfl rfl rfl (ycanO km143 ko376) (t143_1 hT12782 (by omega) (hG.fr hT (by decide) (fun a q ha => hF12783 a q (wAz_G a q ha)))) (fun r12787 hr12787 => ?_)
  refine y_istore 101 c151_100 rfl rfl ?_
  refine y_iload 102 c151_101 rfl rfl ?_
  refine y_if 106 105 c151_102 rfl rfl (yz_ge (by omega)) (fun hb12788 => ?_) (fun hb12788 => ?_)
  · refine y_aload 107 c151_106 rfl rfl rfl ?_
    refine y_getR 110 c151_107 rfl kf376_44 ?_
    refine y_iload 111 c151_110 rfl rfl ?_
    refine y_iconst 112 c151_111 rfl ?_
    refine y_iastore 113 c151_112 rfl ka407 (by omega) (y_nar0 _) ?_
    have hT12789 := hT12782.up 407 r12787.toNat 0 ((-2147483648)) 2147483647 rfl (by omega)
    have hF12790 := hF12783.up 407 r12787.toNat 0 rfl
    refine y_aload 114 c151_113 rfl rfl rfl ?_
    refine y_getR 117 c151_114 rfl kf376_41 ?_
    refine y_iconst 119 c151_117 rfl ?_
    refine y_aload 120 c151_119 rfl rfl rfl ?_
    refine y_getR 123 c151_120 rfl kf376_35 ?_
    refine y_iconst 125 c151_123 rfl ?_
    refine y_aload 126 c151_125 rfl rfl rfl ?_
    refine y_getX 129 (m 376 18) c151_126 rfl kf376_18 ((yup_na (by decide)).trans ((yup_nk (by decide)).trans ((yup_nk (by decide)).trans ((hFme407 376 18 rfl).trans ((hFme406 376 18 rfl).trans ((hFme405 376 18 rfl).trans (hFme404 376 18 rfl))))))) ?_
    refine y_top 1 (by omega) ?_
    refine y_imul 130 c151_129 rfl ?_
    refine y_top 10 (by decide) ?_
    refine y_iload 131 c151_130 rfl rfl ?_
    refine y_iadd 132 c151_131 rfl ?_
    refine y_iaT 133 0 46 c151_132 rfl ka398 (by omega) hT12789 rfl (fun v12791 hv12791 gv12791 => ?_)
    refine y_iconst 134 c151_133 rfl ?_
    refine y_iadd 135 c151_134 rfl ?_
    refine y_imul 136 c151_135 rfl ?_
    refine y_iconst 137 c151_136 rfl ?_
    refine y_iastore 138 c151_137 rfl ka404 (by omega) (y_nar0 _) ?_
    have hT12792 := hT12789.up 404 ((12 * (v12791 + 1)).toNat) 0 ((-2147483648)) 2147483647 rfl (by omega)
    have hF12793 := hF12790.up 404 ((12 * (v12791 + 1)).toNat) 0 rfl
    refine y_aload 139 c151_138 rfl rfl rfl ?_
    refine y_iconst 140 c151_139 rfl ?_
    refine y_putI 143 c151_140 rfl kf376_46 (y_fit1 (by omega)) ?_
    have hT12794 := hT12792.up 376 46 1 0 1 rfl (by omega)
    have hF12795 := hF12793.up 376 46 1 rfl
    have es12796 : (yup (yup (yup (yup (yup me407 376 47 0) 376 45 0) 407 r12787.toNat 0) 404 ((12 * (v12791 + 1)).toNat) 0) 376 46 1) 376 45 = 0 := rfl
    have es12797 : (yup (yup (yup (yup (yup me407 376 47 0) 376 45 0) 407 r12787.toNat 0) 404 ((12 * (v12791 + 1)).toNat) 0) 376 46 1) 376 46 = 1 := rfl
    have hgm : GM 1 (yup (yup (yup (yup (yup me407 376 47 0) 376 45 0) 407 r12787.toNat 0) 404 ((12 * (v12791 + 1)).toNat) 0) 376 46 1) := by
      intro o ho h7 i hi hne
      exfalso
      have hgc : GQ 1 (yup (yup (yup (yup (yup me407 376 47 0) 376 45 0) 407 r12787.toNat 0) 404 ((12 * (v12791 + 1)).toNat) 0) 376 46 1) := hG.fr hT (by decide) (fun a q ha => hF12795 a q (wAz_G a q ha))
      have w7 := (hgc.1.1 o ho).2.2.2.2.2.2.2.2 h7
      have t4 := hT12794.atp 384 1 0 10 rfl
      rw [show (yup (yup (yup (yup (yup me407 376 47 0) 376 45 0) 407 r12787.toNat 0) 404 ((12 * (v12791 + 1)).toNat) 0) 376 46 1) 406 (10 * ((yup (yup (yup (yup (yup me407 376 47 0) 376 45 0) 407 r12787.toNat 0) 404 ((12 * (v12791 + 1)).toNat) 0) 376 46 1) 403 (1000 * 1 + 8 * o + 5) / 16).toNat + i) = -1 from (((yup_na (by decide)).trans ((yup_na (by decide)).trans ((yup_na (by decide)).trans ((yup_na (by decide)).trans ((yup_na (by decide)).trans (hFme407 406 _ rfl))))))).trans (hz6 _ (by omega))] at hne
      omega
    have hnh := NEG.hi (m := yup (yup (yup (yup (yup me407 376 47 0) 376 45 0) 407 r12787.toNat 0) 404 ((12 * (v12791 + 1)).toNat) 0) 376 46 1)
    exact t151w_1 (b := r12787) hT hn hG (2 * (NEG (yup (yup (yup (yup (yup me407 376 47 0) 376 45 0) 407 r12787.toNat 0) 404 ((12 * (v12791 + 1)).toNat) 0) 376 46 1) : Int) + (yup (yup (yup (yup (yup me407 376 47 0) 376 45 0) 407 r12787.toNat 0) 404 ((12 * (v12791 + 1)).toNat) 0) 376 46 1) 376 46).toNat _ _ _ (by omega) hT12794 hF12795 hgm (by omega) (by omega)
  · exact y_retU c151_105 ⟨rfl, hT12782, hF12783⟩
