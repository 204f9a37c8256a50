/-! CONTRACTS: the model, a run. Printed by wip/whole/gen9g.py -/
set_option maxRecDepth 100000 in
theorem t202_0 {L : Nat} {xs : Nat → Int32} {d nn : Nat} {m : yM} {v u : Int} (hT : Ty gT m) (hV : VX 0 m) (hf : 1 ≤ m 376 54) (hv : 0 ≤ v ∧ v ≤ 47) (hu : 0 ≤ u ∧ u ≤ m 376 51) : YC (gZ L xs) d 202 [.ref 376, yI v, yI u] m nn (qU (fun m' n' => n' = nn ∧ Ty gT m' ∧ Fr wGv m m' ∧ VX 0 m')) := by
  have tb383 := hT.atp 383 0 0 6 rfl
  have tb384 := hT.atp 384 0 0 10 rfl
  have tb388 := hT.atp 388 0 0 12 rfl
  have tb390 := hT.atp 390 0 0 125 rfl
  have tm51 := hT.atp 376 51 0 30 rfl
  have tm54 := hT.atp 376 54 0 4 rfl
  have tm55 := hT.atp 376 55 0 124 rfl
  have tm56 := hT.atp 376 56 0 201 rfl
  have tm57 := hT.atp 376 57 0 4 rfl
  refine YC.mkB [some (.ref 376), some (yI v), some (yI u)] kn202 rfl rfl ?_
  have hF : Fr wGv m m := Fr.rf
  refine y_aload 1 c202_0 rfl rfl rfl ?_
  refine y_getR 4 c202_1 rfl kf376_52 ?_
  refine y_iconst 6 c202_4 rfl ?_
  refine y_aload 7 c202_6 rfl rfl rfl ?_
  refine y_getX 10 (m 376 54) c202_7 rfl kf376_54 rfl ?_
  refine y_iconst 11 c202_10 rfl ?_
  refine y_isub 12 c202_11 rfl ?_
  refine y_imul 13 c202_12 rfl ?_
  refine y_iload 14 c202_13 rfl rfl ?_
  refine y_iadd 15 c202_14 rfl ?_
  refine y_iload 16 c202_15 rfl rfl ?_
  refine y_iastore 17 c202_16 rfl ka411 (by omega) (y_nar0 _) ?_
  have hT13146 := hT.up 411 (((48 * ((m 376 54) - 1)) + v).toNat) u 0 30 rfl (by omega)
  have hF13147 := hF.up 411 (((48 * ((m 376 54) - 1)) + v).toNat) u rfl
  refine y_iload 18 c202_17 rfl rfl ?_
  refine y_if 40 21 c202_18 rfl rfl (yz_le (by omega)) (fun hb13148 => ?_) (fun hb13148 => ?_)
  · exact y_retU c202_40 ⟨rfl, hT13146, hF13147, (VX.up1e (w := m 376 51) hV (rfl) (by omega))⟩
  · refine y_aload 22 c202_21 rfl rfl rfl ?_
    refine y_getR 25 c202_22 rfl kf376_48 ?_
    refine y_iconst 27 c202_25 rfl ?_
    refine y_iload 28 c202_27 rfl rfl ?_
    refine y_imul 29 c202_28 rfl ?_
    refine y_aload 30 c202_29 rfl rfl rfl ?_
    refine y_getR 33 c202_30 rfl kf376_49 ?_
    refine y_iload 34 c202_33 rfl rfl ?_
    refine y_iconst 35 c202_34 rfl ?_
    refine y_isub 36 c202_35 rfl ?_
    refine y_iaT 37 0 11 c202_36 rfl ka409 (by omega) hT13146 rfl (fun v13149 hv13149 gv13149 => ?_)
    refine y_iadd 38 c202_37 rfl ?_
    refine y_iconst 39 c202_38 rfl ?_
    refine y_iastore 40 c202_39 rfl ka408 (by omega) (y_nar1 (by omega)) ?_
    have hT13150 := hT13146.up 408 (((12 * v) + v13149).toNat) 1 0 1 rfl (by omega)
    have hF13151 := hF13147.up 408 (((12 * v) + v13149).toNat) 1 rfl
    exact y_retU c202_40 ⟨rfl, hT13150, hF13151, (VX.na (VX.up1e (w := m 376 51) hV (rfl) (by omega)) (by decide))⟩
set_option maxRecDepth 100000 in
theorem t205_0 {L : Nat} {xs : Nat → Int32} {d nn : Nat} {m : yM} {v : Int} (hT : Ty gT m) (hV : VX 0 m) (hf : 1 ≤ m 376 54) (hv : 0 ≤ v ∧ v ≤ 47) : YC (gZ L xs) d 205 [.ref 376, yI v] m nn (qP m nn (fun r => 0 ≤ r ∧ r ≤ m 376 51)) := by
  have tb383 := hT.atp 383 0 0 6 rfl
  have tb384 := hT.atp 384 0 0 10 rfl
  have tb388 := hT.atp 388 0 0 12 rfl
  have tb390 := hT.atp 390 0 0 125 rfl
  have tm51 := hT.atp 376 51 0 30 rfl
  have tm54 := hT.atp 376 54 0 4 rfl
  have tm55 := hT.atp 376 55 0 124 rfl
  have tm56 := hT.atp 376 56 0 201 rfl
  have tm57 := hT.atp 376 57 0 4 rfl
  refine YC.mkB [some (.ref 376), some (yI v)] kn205 rfl rfl ?_
  refine y_aload 1 c205_0 rfl rfl rfl ?_
  refine y_getR 4 c205_1 rfl kf376_52 ?_
  refine y_iconst 6 c205_4 rfl ?_
  refine y_aload 7 c205_6 rfl rfl rfl ?_
  refine y_getX 10 (m 376 54) c205_7 rfl kf376_54 rfl ?_
  refine y_iconst 11 c205_10 rfl ?_
  refine y_isub 12 c205_11 rfl ?_
  refine y_imul 13 c205_12 rfl ?_
  refine y_iload 14 c205_13 rfl rfl ?_
  refine y_iadd 15 c205_14 rfl ?_
  refine y_iaT 16 0 30 c205_15 rfl ka411 (by omega) hT rfl (fun v13152 hv13152 gv13152 => ?_)
  exact y_retP c205_16 (y_fit0 _) ⟨by omega, by rw [← hv13152]; exact hV.1 _ (by omega)⟩
set_option maxRecDepth 100000 in
theorem t206_0 {L : Nat} {xs : Nat → Int32} {d nn : Nat} {m : yM} {v : Int} (hT : Ty gT m) (hn : m 376 18 = 0) (hG : GQ 0 m) (hV : VX 0 m) (hv : 1 ≤ v ∧ v ≤ m 376 51) : YC (gZ L xs) d 206 [.ref 376, yI v] m nn (qP m nn (fun r => -1 ≤ r ∧ r < m 383 0)) := by
  have tb383 := hT.atp 383 0 0 6 rfl
  have tb384 := hT.atp 384 0 0 10 rfl
  have tb388 := hT.atp 388 0 0 12 rfl
  have tb390 := hT.atp 390 0 0 125 rfl
  have tm51 := hT.atp 376 51 0 30 rfl
  have tm54 := hT.atp 376 54 0 4 rfl
  have tm55 := hT.atp 376 55 0 124 rfl
  have tm56 := hT.atp 376 56 0 201 rfl
  have tm57 := hT.atp 376 57 0 4 rfl
  refine YC.mkB [some (.ref 376), some (yI v)] kn206 rfl rfl ?_
  refine y_aload 1 c206_0 rfl rfl rfl ?_
  refine y_getR 4 c206_1 rfl kf376_37 ?_
  refine y_iconst 6 c206_4 rfl ?_
  refine y_aload 7 c206_6 rfl rfl rfl ?_
  refine y_getX 10 (m 376 18) c206_7 rfl kf376_18 rfl ?_
  have tb13153 := hT.atp 376 18 0 1 rfl
  refine y_top 0 (by omega) ?_
  refine y_imul 11 c206_10 rfl ?_
  refine y_top 0 (by decide) ?_
  refine y_aload 12 c206_11 rfl rfl rfl ?_
  refine y_getR 15 c206_12 rfl kf376_49 ?_
  refine y_iload 16 c206_15 rfl rfl ?_
  refine y_iconst 17 c206_16 rfl ?_
  refine y_isub 18 c206_17 rfl ?_
  refine y_iaT 19 0 11 c206_18 rfl ka409 (by omega) hT rfl (fun v13154 hv13154 gv13154 => ?_)
  have gv13154_ : v13154 < m 388 0 := by rw [← hv13154]; exact hV.2.2 _ (by omega)
  refine y_iadd 20 c206_19 rfl ?_
  refine y_iaT 21 ((-2147483648)) 2147483647 c206_20 rfl ka400 (by omega) hT rfl (fun v13155 hv13155 gv13155 => ?_)
  have gv13155_ : -1 ≤ v13155 ∧ v13155 < m 383 0 := by have h0 := hG.2.2.2.2.2.1 v13154.toNat (by omega); rw [show 12 * 0 + v13154.toNat = (0 + v13154).toNat by omega, hv13155] at h0; exact h0
  exact y_retP c206_21 (y_fit0 _) (by omega)
set_option maxRecDepth 100000 in
theorem t201_0 {L : Nat} {xs : Nat → Int32} {d nn : Nat} {m : yM} {s : Int} (hT : Ty gT m) (hV : VX 0 m) (hs : 0 ≤ s ∧ s < m 388 0) : YC (gZ L xs) d 201 [.ref 376, yI s] m nn (qI (fun r m' n' => n' = nn ∧ Ty gT m' ∧ Fr wMk m m' ∧ (0 ≤ r ∧ r ≤ m' 376 51) ∧ (m' 376 57 = m 376 57 ∨ m' 376 57 = 4) ∧ VX 0 m')) := by
  have tb383 := hT.atp 383 0 0 6 rfl
  have tb384 := hT.atp 384 0 0 10 rfl
  have tb388 := hT.atp 388 0 0 12 rfl
  have tb390 := hT.atp 390 0 0 125 rfl
  have tm51 := hT.atp 376 51 0 30 rfl
  have tm54 := hT.atp 376 54 0 4 rfl
  have tm55 := hT.atp 376 55 0 124 rfl
  have tm56 := hT.atp 376 56 0 201 rfl
  have tm57 := hT.atp 376 57 0 4 rfl
  refine YC.mkB [some (.ref 376), some (yI s), none] kn201 rfl rfl ?_
  have hF : Fr wMk m m := Fr.rf
  refine y_aload 1 c201_0 rfl rfl rfl ?_
  refine y_getX 4 (m 376 51) c201_1 rfl kf376_51 rfl ?_
  refine y_iconst 6 c201_4 rfl ?_
  refine y_icmp 16 9 c201_6 rfl rfl (yc_ne (by omega) (by omega)) (fun hb13156 => ?_) (fun hb13156 => ?_)
  · refine y_aload 17 c201_16 rfl rfl rfl ?_
    refine y_getR 20 c201_17 rfl kf376_49 ?_
    refine y_aload 21 c201_20 rfl rfl rfl ?_
    refine y_getX 24 (m 376 51) c201_21 rfl kf376_51 rfl ?_
    refine y_iload 25 c201_24 rfl rfl ?_
    refine y_iastore 26 c201_25 rfl ka409 (by omega) (y_nar0 _) ?_
    have hT13157 := hT.up 409 ((m 376 51).toNat) s 0 11 rfl (by omega)
    have hF13158 := hF.up 409 ((m 376 51).toNat) s rfl
    refine y_iconst 27 c201_26 rfl ?_
    refine y_istore 28 c201_27 rfl rfl ?_
    have es13159 : (yup m 409 ((m 376 51).toNat) s) 376 51 = m 376 51 := rfl
    refine t201a hT13157 (by omega) (fun z2 mz hTmz hFmz z1 z0 => ?_) 8 0 _ (by omega) (by omega) hT13157 Fr.rf (fun q hq => rfl) (fun q h1 h2 => by omega)
    have hF13160 := hF13158.tr hFmz (wRo_wMk rfl)
    refine y_aload 56 c201_55 rfl rfl rfl ?_
    refine y_dup 57 c201_56 rfl rfl ?_
    refine y_getX 60 (m 376 51) c201_57 rfl kf376_51 ((hFmz 376 51 rfl).trans (yup_na (by decide))) ?_
    refine y_iconst 61 c201_60 rfl ?_
    refine y_iadd 62 c201_61 rfl ?_
    refine y_putI 65 c201_62 rfl kf376_51 (y_fit0 _) ?_
    have hT13161 := hTmz.up 376 51 ((m 376 51) + 1) 0 30 rfl (by omega)
    have hF13162 := hF13160.up 376 51 ((m 376 51) + 1) rfl
    refine y_aload 66 c201_65 rfl rfl rfl ?_
    refine y_getX 69 ((m 376 51) + 1) c201_66 rfl kf376_51 rfl ?_
    have es13163 : (yup mz 376 51 ((m 376 51) + 1)) 376 51 = (m 376 51) + 1 := rfl
    have es13164 : (yup mz 376 51 ((m 376 51) + 1)) 376 54 = m 376 54 := ((yup_nk (by decide)).trans ((hFmz 376 54 rfl).trans (yup_na (by decide))))
    have es13165 : (yup mz 376 51 ((m 376 51) + 1)) 376 57 = m 376 57 := ((yup_nk (by decide)).trans ((hFmz 376 57 rfl).trans (yup_na (by decide))))
    have es13166 : (yup mz 376 51 ((m 376 51) + 1)) 388 0 = m 388 0 := ((yup_na (by decide)).trans ((hFmz 388 0 rfl).trans (yup_na (by decide))))
    have eo : (yup m 409 ((m 376 51).toNat) s) 376 51 = m 376 51 := yup_na (by decide)
    rw [eo] at z1 z0
    exact y_retI c201_69 (y_fit0 _) ⟨rfl, hT13161, hF13162, by omega, by omega, VX.mk (m' := yup mz 376 51 ((m 376 51) + 1)) hV (by omega) (by omega) (by omega) (by omega) (fun q => ((yup_na (by decide)).trans ((hFmz 411 q rfl).trans (yup_na (by decide))))) (fun q hq => (yup_na (by decide)).trans ((z1 q hq).trans (yup_na (by decide)))) (fun q h1 h2 => (yup_na (by decide)).trans (z0 q h1 h2)) (fun q hq => (yup_na (by decide)).trans ((hFmz 409 q rfl).trans (yup_nk hq))) (by rw [show (yup mz 376 51 ((m 376 51) + 1)) 409 (m 376 51).toNat = s from (yup_na (by decide)).trans ((hFmz 409 _ rfl).trans (yup_eq _ _ _ _))]; omega)⟩
  · refine y_aload 10 c201_9 rfl rfl rfl ?_
    refine y_iconst 11 c201_10 rfl ?_
    refine y_putI 14 c201_11 rfl kf376_57 (y_fit0 _) ?_
    have hT13167 := hT.up 376 57 4 0 4 rfl (by omega)
    have hF13168 := hF.up 376 57 4 rfl
    refine y_iconst 15 c201_14 rfl ?_
    have es13169 : (yup m 376 57 4) 376 51 = m 376 51 := rfl
    have es13170 : (yup m 376 57 4) 376 54 = m 376 54 := rfl
    have es13171 : (yup m 376 57 4) 376 57 = 4 := rfl
    have es13172 : (yup m 376 57 4) 388 0 = m 388 0 := rfl
    exact y_retI c201_15 (y_fit0 _) ⟨rfl, hT13167, hF13168, by omega, by omega, (VX.sc hV (by decide))⟩
set_option maxRecDepth 100000 in
theorem t202_1 {L : Nat} {xs : Nat → Int32} {d nn : Nat} {m : yM} {v u : Int} (hT : Ty gT m) (hV : VX 1 m) (hf : 1 ≤ m 376 54) (hv : 0 ≤ v ∧ v ≤ 47) (hu : 0 ≤ u ∧ u ≤ m 376 51) : YC (gZ L xs) d 202 [.ref 376, yI v, yI u] m nn (qU (fun m' n' => n' = nn ∧ Ty gT m' ∧ Fr wGv m m' ∧ VX 1 m')) := by
  have tb383 := hT.atp 383 1 0 6 rfl
  have tb384 := hT.atp 384 1 0 10 rfl
  have tb388 := hT.atp 388 1 0 12 rfl
  have tb390 := hT.atp 390 1 0 125 rfl
  have tm51 := hT.atp 376 51 0 30 rfl
  have tm54 := hT.atp 376 54 0 4 rfl
  have tm55 := hT.atp 376 55 0 124 rfl
  have tm56 := hT.atp 376 56 0 201 rfl
  have tm57 := hT.atp 376 57 0 4 rfl
  refine YC.mkB [some (.ref 376), some (yI v), some (yI u)] kn202 rfl rfl ?_
  have hF : Fr wGv m m := Fr.rf
  refine y_aload 1 c202_0 rfl rfl rfl ?_
  refine y_getR 4 c202_1 rfl kf376_52 ?_
  refine y_iconst 6 c202_4 rfl ?_
  refine y_aload 7 c202_6 rfl rfl rfl ?_
  refine y_getX 10 (m 376 54) c202_7 rfl kf376_54 rfl ?_
  refine y_iconst 11 c202_10 rfl ?_
  refine y_isub 12 c202_11 rfl ?_
  refine y_imul 13 c202_12 rfl ?_
  refine y_iload 14 c202_13 rfl rfl ?_
  refine y_iadd 15 c202_14 rfl ?_
  refine y_iload 16 c202_15 rfl rfl ?_
  refine y_iastore 17 c202_16 rfl ka411 (by omega) (y_nar0 _) ?_
  have hT13243 := hT.up 411 (((48 * ((m 376 54) - 1)) + v).toNat) u 0 30 rfl (by omega)
  have hF13244 := hF.up 411 (((48 * ((m 376 54) - 1)) + v).toNat) u rfl
  refine y_iload 18 c202_17 rfl rfl ?_
  refine y_if 40 21 c202_18 rfl rfl (yz_le (by omega)) (fun hb13245 => ?_) (fun hb13245 => ?_)
  · exact y_retU c202_40 ⟨rfl, hT13243, hF13244, (VX.up1e (w := m 376 51) hV (rfl) (by omega))⟩
  · refine y_aload 22 c202_21 rfl rfl rfl ?_
    refine y_getR 25 c202_22 rfl kf376_48 ?_
    refine y_iconst 27 c202_25 rfl ?_
    refine y_iload 28 c202_27 rfl rfl ?_
    refine y_imul 29 c202_28 rfl ?_
    refine y_aload 30 c202_29 rfl rfl rfl ?_
    refine y_getR 33 c202_30 rfl kf376_49 ?_
    refine y_iload 34 c202_33 rfl rfl ?_
    refine y_iconst 35 c202_34 rfl ?_
    refine y_isub 36 c202_35 rfl ?_
    refine y_iaT 37 0 11 c202_36 rfl ka409 (by omega) hT13243 rfl (fun v13246 hv13246 gv13246 => ?_)
    refine y_iadd 38 c202_37 rfl ?_
    refine y_iconst 39 c202_38 rfl ?_
    refine y_iastore 40 c202_39 rfl ka408 (by omega) (y_nar1 (by omega)) ?_
    have hT13247 := hT13243.up 408 (((12 * v) + v13246).toNat) 1 0 1 rfl (by omega)
    have hF13248 := hF13244.up 408 (((12 * v) + v13246).toNat) 1 rfl
    exact y_retU c202_40 ⟨rfl, hT13247, hF13248, (VX.na (VX.up1e (w := m 376 51) hV (rfl) (by omega)) (by decide))⟩
set_option maxRecDepth 100000 in
theorem t205_1 {L : Nat} {xs : Nat → Int32} {d nn : Nat} {m : yM} {v : Int} (hT : Ty gT m) (hV : VX 1 m) (hf : 1 ≤ m 376 54) (hv : 0 ≤ v ∧ v ≤ 47) : YC (gZ L xs) d 205 [.ref 376, yI v] m nn (qP m nn (fun r => 0 ≤ r ∧ r ≤ m 376 51)) := by
  have tb383 := hT.atp 383 1 0 6 rfl
  have tb384 := hT.atp 384 1 0 10 rfl
  have tb388 := hT.atp 388 1 0 12 rfl
  have tb390 := hT.atp 390 1 0 125 rfl
  have tm51 := hT.atp 376 51 0 30 rfl
  have tm54 := hT.atp 376 54 0 4 rfl
  have tm55 := hT.atp 376 55 0 124 rfl
  have tm56 := hT.atp 376 56 0 201 rfl
  have tm57 := hT.atp 376 57 0 4 rfl
  refine YC.mkB [some (.ref 376), some (yI v)] kn205 rfl rfl ?_
  refine y_aload 1 c205_0 rfl rfl rfl ?_
  refine y_getR 4 c205_1 rfl kf376_52 ?_
  refine y_iconst 6 c205_4 rfl ?_
  refine y_aload 7 c205_6 rfl rfl rfl ?_
  refine y_getX 10 (m 376 54) c205_7 rfl kf376_54 rfl ?_
  refine y_iconst 11 c205_10 rfl ?_
  refine y_isub 12 c205_11 rfl ?_
  refine y_imul 13 c205_12 rfl ?_
  refine y_iload 14 c205_13 rfl rfl ?_
  refine y_iadd 15 c205_14 rfl ?_
  refine y_iaT 16 0 30 c205_15 rfl ka411 (by omega) hT rfl (fun v13249 hv13249 gv13249 => ?_)
  exact y_retP c205_16 (y_fit0 _) ⟨by omega, by rw [← hv13249]; exact hV.1 _ (by omega)⟩
set_option maxRecDepth 100000 in
theorem t206_1 {L : Nat} {xs : Nat → Int32} {d nn : Nat} {m : yM} {v : Int} (hT : Ty gT m) (hn : m 376 18 = 1) (hG : GQ 1 m) (hV : VX 1 m) (hv : 1 ≤ v ∧ v ≤ m 376 51) : YC (gZ L xs) d 206 [.ref 376, yI v] m nn (qP m nn (fun r => -1 ≤ r ∧ r < m 383 1)) := by
  have tb383 := hT.atp 383 1 0 6 rfl
  have tb384 := hT.atp 384 1 0 10 rfl
  have tb388 := hT.atp 388 1 0 12 rfl
  have tb390 := hT.atp 390 1 0 125 rfl
  have tm51 := hT.atp 376 51 0 30 rfl
  have tm54 := hT.atp 376 54 0 4 rfl
  have tm55 := hT.atp 376 55 0 124 rfl
  have tm56 := hT.atp 376 56 0 201 rfl
  have tm57 := hT.atp 376 57 0 4 rfl
  refine YC.mkB [some (.ref 376), some (yI v)] kn206 rfl rfl ?_
  refine y_aload 1 c206_0 rfl rfl rfl ?_
  refine y_getR 4 c206_1 rfl kf376_37 ?_
  refine y_iconst 6 c206_4 rfl ?_
  refine y_aload 7 c206_6 rfl rfl rfl ?_
  refine y_getX 10 (m 376 18) c206_7 rfl kf376_18 rfl ?_
  have tb13250 := hT.atp 376 18 0 1 rfl
  refine y_top 1 (by omega) ?_
  refine y_imul 11 c206_10 rfl ?_
  refine y_top 12 (by decide) ?_
  refine y_aload 12 c206_11 rfl rfl rfl ?_
  refine y_getR 15 c206_12 rfl kf376_49 ?_
  refine y_iload 16 c206_15 rfl rfl ?_
  refine y_iconst 17 c206_16 rfl ?_
  refine y_isub 18 c206_17 rfl ?_
  refine y_iaT 19 0 11 c206_18 rfl ka409 (by omega) hT rfl (fun v13251 hv13251 gv13251 => ?_)
  have gv13251_ : v13251 < m 388 1 := by rw [← hv13251]; exact hV.2.2 _ (by omega)
  refine y_iadd 20 c206_19 rfl ?_
  refine y_iaT 21 ((-2147483648)) 2147483647 c206_20 rfl ka400 (by omega) hT rfl (fun v13252 hv13252 gv13252 => ?_)
  have gv13252_ : -1 ≤ v13252 ∧ v13252 < m 383 1 := by have h0 := hG.2.2.2.2.2.1 v13251.toNat (by omega); rw [show 12 * 1 + v13251.toNat = (12 + v13251).toNat by omega, hv13252] at h0; exact h0
  exact y_retP c206_21 (y_fit0 _) (by omega)
set_option maxRecDepth 100000 in
theorem t201_1 {L : Nat} {xs : Nat → Int32} {d nn : Nat} {m : yM} {s : Int} (hT : Ty gT m) (hV : VX 1 m) (hs : 0 ≤ s ∧ s < m 388 1) : YC (gZ L xs) d 201 [.ref 376, yI s] m nn (qI (fun r m' n' => n' = nn ∧ Ty gT m' ∧ Fr wMk m m' ∧ (0 ≤ r ∧ r ≤ m' 376 51) ∧ (m' 376 57 = m 376 57 ∨ m' 376 57 = 4) ∧ VX 1 m')) := by
  have tb383 := hT.atp 383 1 0 6 rfl
  have tb384 := hT.atp 384 1 0 10 rfl
  have tb388 := hT.atp 388 1 0 12 rfl
  have tb390 := hT.atp 390 1 0 125 rfl
  have tm51 := hT.atp 376 51 0 30 rfl
  have tm54 := hT.atp 376 54 0 4 rfl
  have tm55 := hT.atp 376 55 0 124 rfl
  have tm56 := hT.atp 376 56 0 201 rfl
  have tm57 := hT.atp 376 57 0 4 rfl
  refine YC.mkB [some (.ref 376), some (yI s), none] kn201 rfl rfl ?_
  have hF : Fr wMk m m := Fr.rf
  refine y_aload 1 c201_0 rfl rfl rfl ?_
  refine y_getX 4 (m 376 51) c201_1 rfl kf376_51 rfl ?_
  refine y_iconst 6 c201_4 rfl ?_
  refine y_icmp 16 9 c201_6 rfl rfl (yc_ne (by omega) (by omega)) (fun hb13253 => ?_) (fun hb13253 => ?_)
  · refine y_aload 17 c201_16 rfl rfl rfl ?_
    refine y_getR 20 c201_17 rfl kf376_49 ?_
    refine y_aload 21 c201_20 rfl rfl rfl ?_
    refine y_getX 24 (m 376 51) c201_21 rfl kf376_51 rfl ?_
    refine y_iload 25 c201_24 rfl rfl ?_
    refine y_iastore 26 c201_25 rfl ka409 (by omega) (y_nar0 _) ?_
    have hT13254 := hT.up 409 ((m 376 51).toNat) s 0 11 rfl (by omega)
    have hF13255 := hF.up 409 ((m 376 51).toNat) s rfl
    refine y_iconst 27 c201_26 rfl ?_
    refine y_istore 28 c201_27 rfl rfl ?_
    have es13256 : (yup m 409 ((m 376 51).toNat) s) 376 51 = m 376 51 := rfl
    refine t201a hT13254 (by omega) (fun z2 mz hTmz hFmz z1 z0 => ?_) 8 0 _ (by omega) (by omega) hT13254 Fr.rf (fun q hq => rfl) (fun q h1 h2 => by omega)
    have hF13257 := hF13255.tr hFmz (wRo_wMk rfl)
    refine y_aload 56 c201_55 rfl rfl rfl ?_
    refine y_dup 57 c201_56 rfl rfl ?_
    refine y_getX 60 (m 376 51) c201_57 rfl kf376_51 ((hFmz 376 51 rfl).trans (yup_na (by decide))) ?_
    refine y_iconst 61 c201_60 rfl ?_
    refine y_iadd 62 c201_61 rfl ?_
    refine y_putI 65 c201_62 rfl kf376_51 (y_fit0 _) ?_
    have hT13258 := hTmz.up 376 51 ((m 376 51) + 1) 0 30 rfl (by omega)
    have hF13259 := hF13257.up 376 51 ((m 376 51) + 1) rfl
    refine y_aload 66 c201_65 rfl rfl rfl ?_
    refine y_getX 69 ((m 376 51) + 1) c201_66 rfl kf376_51 rfl ?_
    have es13260 : (yup mz 376 51 ((m 376 51) + 1)) 376 51 = (m 376 51) + 1 := rfl
    have es13261 : (yup mz 376 51 ((m 376 51) + 1)) 376 54 = m 376 54 := ((yup_nk (by decide)).trans ((hFmz 376 54 rfl).trans (yup_na (by decide))))
    have es13262 : (yup mz 376 51 ((m 376 51) + 1)) 376 57 = m 376 57 := ((yup_nk (by decide)).trans ((hFmz 376 57 rfl).trans (yup_na (by decide))))
    have es13263 : (yup mz 376 51 ((m 376 51) + 1)) 388 1 = m 388 1 := ((yup_na (by decide)).trans ((hFmz 388 1 rfl).trans (yup_na (by decide))))
    have eo : (yup m 409 ((m 376 51).toNat) s) 376 51 = m 376 51 := yup_na (by decide)
    rw [eo] at z1 z0
    exact y_retI c201_69 (y_fit0 _) ⟨rfl, hT13258, hF13259, by omega, by omega, VX.mk (m' := yup mz 376 51 ((m 376 51) + 1)) hV (by omega) (by omega) (by omega) (by omega) (fun q => ((yup_na (by decide)).trans ((hFmz 411 q rfl).trans (yup_na (by decide))))) (fun q hq => (yup_na (by decide)).trans ((z1 q hq).trans (yup_na (by decide)))) (fun q h1 h2 => (yup_na (by decide)).trans (z0 q h1 h2)) (fun q hq => (yup_na (by decide)).trans ((hFmz 409 q rfl).trans (yup_nk hq))) (by rw [show (yup mz 376 51 ((m 376 51) + 1)) 409 (m 376 51).toNat = s from (yup_na (by decide)).trans ((hFmz 409 _ rfl).trans (yup_eq _ _ _ _))]; omega)⟩
  · refine y_aload 10 c201_9 rfl rfl rfl ?_
    refine y_iconst 11 c201_10 rfl ?_
    refine y_putI 14 c201_11 rfl kf376_57 (y_fit0 _) ?_
    have hT13264 := hT.up 376 57 4 0 4 rfl (by omega)
    have hF13265 := hF.up 376 57 4 rfl
    refine y_iconst 15 c201_14 rfl ?_
    have es13266 : (yup m 376 57 4) 376 51 = m 376 51 := rfl
    have es13267 : (yup m 376 57 4) 376 54 = m 376 54 := rfl
    have es13268 : (yup m 376 57 4) 376 57 = 4 := rfl
    have es13269 : (yup m 376 57 4) 388 1 = m 388 1 := rfl
    exact y_retI c201_15 (y_fit0 _) ⟨rfl, hT13264, hF13265, by omega, by omega, (VX.sc hV (by decide))⟩
