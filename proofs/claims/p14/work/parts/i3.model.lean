/-! CONTRACTS: the model, bodies. Printed by wip/whole/gen98.py -/
set_option maxRecDepth 100000 in
theorem t129_0 {L : Nat} {xs : Nat → Int32} {d nn : Nat} {m : yM} (hT : Ty gT m) (hl : m 376 6 ≤ m 376 1) (hn : m 376 18 = 1) (h8 : m 376 8 < 0) (hX : XS 0 m) (h84 : 1 ≤ m 384 0) (h90 : m 390 0 ≤ 100) (h3 : m 376 3 ≠ 0) (hd1 : 1 ≤ m 376 10) : YC (gZ L xs) (d + 5) 129 [.ref 376] m nn (qU (fun m' n' => n' = nn ∧ Ty gT m' ∧ Fr wBd0 m m' ∧ m' 376 6 ≤ m' 376 1 ∧ (m' 376 9 = m 376 9 ∧ (0 ≤ m' 376 8 ∨ (m' 376 8 < 0 ∧ mu m' < mu m ∧ (m' 390 0 + PD m' ≤ m 390 0 + PD m ∧ m 390 0 ≤ m' 390 0) ∧ XS 0 m'))))) := by
  have tb8 := hT.atp 376 8 (-1) 320 rfl
  have tb10 := hT.atp 376 10 0 3 rfl
  have tc384 := hT.atp 384 0 0 10 rfl
  have tc386 := hT.atp 386 0 0 12 rfl
  have tc387 := hT.atp 387 0 0 8 rfl
  have tc388 := hT.atp 388 0 0 12 rfl
  have tc389 := hT.atp 389 0 0 48 rfl
  have tc390 := hT.atp 390 0 0 125 rfl
  refine YC.mkB [some (.ref 376), none, none] kn129 rfl rfl ?_
  have hF : Fr wBd0 m m := Fr.rf
  refine y_aload 1 c129_0 rfl rfl rfl ?_
  have tb9125 := hT.atp 376 1 0 320 rfl
  have tb9126 := hT.atp 376 3 0 3 rfl
  have tb9127 := hT.atp 376 6 0 320 rfl
  have tb9128 := hT.atp 376 8 ((-1)) 320 rfl
  refine y_callUB 4 [.ref 376] [] c129_1 rfl rfl rfl rfl rfl (ycanO km99 ko376) (t99u hT (by omega)) (fun mq9124 nq9124 hq9124 => ?_)
  obtain ⟨rfl, hTq9124, hFq9124, hq9124⟩ := hq9124
  have x1q9124 : mq9124 376 1 = m 376 1 := (hFq9124 376 1 rfl)
  have hF9129 := hF.tr hFq9124 wNx_wBd0
  refine y_aload 5 c129_4 rfl rfl rfl ?_
  refine y_getR 8 c129_5 rfl kf376_12 ?_
  refine y_aload 9 c129_8 rfl rfl rfl ?_
  refine y_getX 12 (m 376 10) c129_9 rfl kf376_10 (hFq9124 376 10 rfl) ?_
  refine y_iconst 13 c129_12 rfl ?_
  refine y_isub 14 c129_13 rfl ?_
  refine y_iaT 15 0 124 c129_14 rfl ka379 (by omega) hTq9124 rfl (fun v9130 hv9130 gv9130 => ?_)
  have gv9130_ : m 379 ((m 376 10) - 1).toNat = v9130 := ((hFq9124 379 _ rfl)).symm.trans hv9130
  refine y_istore 16 c129_15 rfl rfl ?_
  obtain ⟨b1, b2, b3, b4, b5, b6⟩ := hX.2.2.1 (m 376 10 - 1).toNat (by omega) (by omega)
  rw [gv9130_] at b1 b2 b4 b5 b6
  refine y_aload 17 c129_16 rfl rfl rfl ?_
  refine y_getR 20 c129_17 rfl kf376_11 ?_
  refine y_aload 21 c129_20 rfl rfl rfl ?_
  refine y_getX 24 (m 376 10) c129_21 rfl kf376_10 (hFq9124 376 10 rfl) ?_
  refine y_iconst 25 c129_24 rfl ?_
  refine y_isub 26 c129_25 rfl ?_
  refine y_iaT 27 0 3 c129_26 rfl ka378 (by omega) hTq9124 rfl (fun v9131 hv9131 gv9131 => ?_)
  have gv9131_ : m 378 ((m 376 10) - 1).toNat = v9131 := ((hFq9124 378 _ rfl)).symm.trans hv9131
  refine y_iconst 28 c129_27 rfl ?_
  refine y_icmp 41 31 c129_28 rfl rfl (yc_ne (by omega) (by omega)) (fun hb9132 => ?_) (fun hb9132 => ?_)
  · refine y_aload 42 c129_41 rfl rfl rfl ?_
    refine y_getR 45 c129_42 rfl kf376_11 ?_
    refine y_aload 46 c129_45 rfl rfl rfl ?_
    refine y_getX 49 (m 376 10) c129_46 rfl kf376_10 (hFq9124 376 10 rfl) ?_
    refine y_iconst 50 c129_49 rfl ?_
    refine y_isub 51 c129_50 rfl ?_
    refine y_iaT 52 0 3 c129_51 rfl ka378 (by omega) hTq9124 rfl (fun v9133 hv9133 gv9133 => ?_)
    have gv9133_ : m 378 ((m 376 10) - 1).toNat = v9133 := ((hFq9124 378 _ rfl)).symm.trans hv9133
    refine y_iconst 53 c129_52 rfl ?_
    refine y_icmp 119 56 c129_53 rfl rfl (yc_ne (by omega) (by omega)) (fun hb9134 => ?_) (fun hb9134 => ?_)
    · refine y_aload 120 c129_119 rfl rfl rfl ?_
      refine y_iload 121 c129_120 rfl rfl ?_
      have es9136 : mq9124 376 1 = m 376 1 := (hFq9124 376 1 rfl)
      have tb9137 := hTq9124.atp 376 3 0 3 rfl
      have tb9138 := hTq9124.atp 376 6 0 320 rfl
      have es9139 : mq9124 376 8 = m 376 8 := (hFq9124 376 8 rfl)
      have es9140 : mq9124 376 18 = m 376 18 := (hFq9124 376 18 rfl)
      have tb9141 := hT.atp 376 18 0 1 rfl
      have es9142 : mq9124 390 0 = m 390 0 := (hFq9124 390 0 rfl)
      have es9143 : mq9124 386 0 = m 386 0 := (hFq9124 386 0 rfl)
      have es9144 : mq9124 387 0 = m 387 0 := (hFq9124 387 0 rfl)
      have es9145 : mq9124 388 0 = m 388 0 := (hFq9124 388 0 rfl)
      have es9146 : mq9124 376 17 = m 376 17 := (hFq9124 376 17 rfl)
      have tb9147 := hT.atp 376 17 0 20 rfl
      have es9148 : mq9124 384 0 = m 384 0 := (hFq9124 384 0 rfl)
      have es9149 : mq9124 376 10 = m 376 10 := (hFq9124 376 10 rfl)
      have es9150 : mq9124 376 9 = m 376 9 := (hFq9124 376 9 rfl)
      have tb9151 := hT.atp 376 9 0 40 rfl
      refine y_callUB 124 [.ref 376, yI v9130] [] c129_121 rfl rfl rfl rfl rfl (ycanO km128 ko376) (t128_0 hTq9124 (by omega) (by omega) (by omega)) (fun mq9135 nq9135 hq9135 => ?_)
      obtain ⟨rfl, hTq9135, hFq9135, hA1, hA2⟩ := hq9135
      have x1q9135 : mq9135 376 1 = m 376 1 := ((hFq9135 376 1 rfl).trans (hFq9124 376 1 rfl))
      have hF9152 := hF9129.tr hFq9135 wAi0_wBd0
      refine y_aload 125 c129_124 rfl rfl rfl ?_
      refine y_dup 126 c129_125 rfl rfl ?_
      refine y_getX 129 (m 376 10) c129_126 rfl kf376_10 ((hFq9135 376 10 rfl).trans (hFq9124 376 10 rfl)) ?_
      refine y_iconst 130 c129_129 rfl ?_
      refine y_isub 131 c129_130 rfl ?_
      refine y_putI 134 c129_131 rfl kf376_10 (y_fit0 _) ?_
      have hT9153 := hTq9135.up 376 10 ((m 376 10) - 1) 0 3 rfl (by omega)
      have hF9154 := hF9152.up 376 10 ((m 376 10) - 1) rfl
      have es9155 : (yup mq9135 376 10 ((m 376 10) - 1)) 376 1 = m 376 1 := ((yup_nk (by decide)).trans ((hFq9135 376 1 rfl).trans (hFq9124 376 1 rfl)))
      have es9156 : (yup mq9135 376 10 ((m 376 10) - 1)) 376 3 = mq9124 376 3 := ((yup_nk (by decide)).trans (hFq9135 376 3 rfl))
      have es9157 : (yup mq9135 376 10 ((m 376 10) - 1)) 376 6 = mq9124 376 6 := ((yup_nk (by decide)).trans (hFq9135 376 6 rfl))
      have es9158 : (yup mq9135 376 10 ((m 376 10) - 1)) 376 8 = m 376 8 := ((yup_nk (by decide)).trans ((hFq9135 376 8 rfl).trans (hFq9124 376 8 rfl)))
      have es9159 : (yup mq9135 376 10 ((m 376 10) - 1)) 390 0 = m 390 0 := ((yup_na (by decide)).trans ((hFq9135 390 0 rfl).trans (hFq9124 390 0 rfl)))
      have es9160 : (yup mq9135 376 10 ((m 376 10) - 1)) 386 0 = m 386 0 := ((yup_na (by decide)).trans ((hFq9135 386 0 rfl).trans (hFq9124 386 0 rfl)))
      have es9161 : (yup mq9135 376 10 ((m 376 10) - 1)) 387 0 = m 387 0 := ((yup_na (by decide)).trans ((hFq9135 387 0 rfl).trans (hFq9124 387 0 rfl)))
      have es9162 : (yup mq9135 376 10 ((m 376 10) - 1)) 388 0 = m 388 0 := ((yup_na (by decide)).trans ((hFq9135 388 0 rfl).trans (hFq9124 388 0 rfl)))
      have es9163 : (yup mq9135 376 10 ((m 376 10) - 1)) 376 17 = m 376 17 := ((yup_nk (by decide)).trans ((hFq9135 376 17 rfl).trans (hFq9124 376 17 rfl)))
      have es9164 : (yup mq9135 376 10 ((m 376 10) - 1)) 384 0 = m 384 0 := ((yup_na (by decide)).trans ((hFq9135 384 0 rfl).trans (hFq9124 384 0 rfl)))
      have es9165 : (yup mq9135 376 10 ((m 376 10) - 1)) 376 10 = (m 376 10) - 1 := rfl
      have es9166 : (yup mq9135 376 10 ((m 376 10) - 1)) 376 9 = m 376 9 := ((yup_nk (by decide)).trans ((hFq9135 376 9 rfl).trans (hFq9124 376 9 rfl)))
      have em9167 : mu (yup mq9135 376 10 ((m 376 10) - 1)) = mu mq9124 := mu_fr ((yup_nk (by decide)).trans (hFq9135 376 1 rfl)) ((yup_nk (by decide)).trans (hFq9135 376 3 rfl)) ((yup_nk (by decide)).trans (hFq9135 376 6 rfl))
      have hon : ((v9130.toNat : Nat) : Int) = v9130 := by omega
      have hx1 : XS 0 mq9124 := hX.fw hFq9124 wNx_X
      have hwo : 9 ≤ mq9124 403 (1000 * 0 + 8 * v9130.toNat) ∧ mq9124 403 (1000 * 0 + 8 * v9130.toNat) ≤ 11 := by rw [hFq9124 403 _ rfl]; omega
      have q90 : mq9124 390 0 = _ := (hFq9124 390 0 rfl)
      have q10 : mq9124 376 10 = m 376 10 := (hFq9124 376 10 rfl)
      have q79 : mq9124 379 (mq9124 376 10 - 1).toNat = ((v9130.toNat : Nat) : Int) := by rw [q10, hon, ← gv9130_]; exact (hFq9124 379 _ rfl)
      have hx : XS 0 (yup mq9135 376 10 ((m 376 10) - 1)) := XS.cls hx1 (o := v9130.toNat) (by omega) hwo (by omega) (by omega) q79 ((yup_na (by decide)).trans hA1) (fun q hq => (yup_na (by decide)).trans (hA2 q hq)) (by omega) (fun a q ha h1 h2 => (yup_ne h2).trans (hFq9135 a q (wAi0_Z a q h1)))
      have hpd := PD.close (m := m) (m' := yup mq9135 376 10 ((m 376 10) - 1)) (by omega) (fun q hq => ((yup_na (by decide)).trans ((hFq9135 378 q rfl).trans (hFq9124 378 q rfl)))) (Or.inl (by omega))
      exact y_retU c129_134 ⟨rfl, hT9153, hF9154, by omega, by omega, Or.inr ⟨by omega, by omega, by omega, hx⟩⟩
    · refine y_aload 57 c129_56 rfl rfl rfl ?_
      have tb9168 := hTq9124.atp 376 3 0 3 rfl
      refine y_callP 60 [.ref 376] [] c129_57 rfl rfl rfl rfl rfl (ycanO km111 ko376) (t111 hTq9124) (fun r9169 hr9169 => ?_)
      refine y_if 119 63 c129_60 rfl rfl (yz_eq (by omega)) (fun hb9170 => ?_) (fun hb9170 => ?_)
      · refine y_aload 120 c129_119 rfl rfl rfl ?_
        refine y_iload 121 c129_120 rfl rfl ?_
        have es9172 : mq9124 376 1 = m 376 1 := (hFq9124 376 1 rfl)
        have tb9173 := hTq9124.atp 376 6 0 320 rfl
        have es9174 : mq9124 376 8 = m 376 8 := (hFq9124 376 8 rfl)
        have es9175 : mq9124 376 18 = m 376 18 := (hFq9124 376 18 rfl)
        have tb9176 := hT.atp 376 18 0 1 rfl
        have es9177 : mq9124 390 0 = m 390 0 := (hFq9124 390 0 rfl)
        have es9178 : mq9124 386 0 = m 386 0 := (hFq9124 386 0 rfl)
        have es9179 : mq9124 387 0 = m 387 0 := (hFq9124 387 0 rfl)
        have es9180 : mq9124 388 0 = m 388 0 := (hFq9124 388 0 rfl)
        have es9181 : mq9124 376 17 = m 376 17 := (hFq9124 376 17 rfl)
        have tb9182 := hT.atp 376 17 0 20 rfl
        have es9183 : mq9124 384 0 = m 384 0 := (hFq9124 384 0 rfl)
        have es9184 : mq9124 376 10 = m 376 10 := (hFq9124 376 10 rfl)
        have es9185 : mq9124 376 9 = m 376 9 := (hFq9124 376 9 rfl)
        have tb9186 := hT.atp 376 9 0 40 rfl
        refine y_callUB 124 [.ref 376, yI v9130] [] c129_121 rfl rfl rfl rfl rfl (ycanO km128 ko376) (t128_0 hTq9124 (by omega) (by omega) (by omega)) (fun mq9171 nq9171 hq9171 => ?_)
        obtain ⟨rfl, hTq9171, hFq9171, hA1, hA2⟩ := hq9171
        have x1q9171 : mq9171 376 1 = m 376 1 := ((hFq9171 376 1 rfl).trans (hFq9124 376 1 rfl))
        have hF9187 := hF9129.tr hFq9171 wAi0_wBd0
        refine y_aload 125 c129_124 rfl rfl rfl ?_
        refine y_dup 126 c129_125 rfl rfl ?_
        refine y_getX 129 (m 376 10) c129_126 rfl kf376_10 ((hFq9171 376 10 rfl).trans (hFq9124 376 10 rfl)) ?_
        refine y_iconst 130 c129_129 rfl ?_
        refine y_isub 131 c129_130 rfl ?_
        refine y_putI 134 c129_131 rfl kf376_10 (y_fit0 _) ?_
        have hT9188 := hTq9171.up 376 10 ((m 376 10) - 1) 0 3 rfl (by omega)
        have hF9189 := hF9187.up 376 10 ((m 376 10) - 1) rfl
        have es9190 : (yup mq9171 376 10 ((m 376 10) - 1)) 376 1 = m 376 1 := ((yup_nk (by decide)).trans ((hFq9171 376 1 rfl).trans (hFq9124 376 1 rfl)))
        have es9191 : (yup mq9171 376 10 ((m 376 10) - 1)) 376 3 = mq9124 376 3 := ((yup_nk (by decide)).trans (hFq9171 376 3 rfl))
        have es9192 : (yup mq9171 376 10 ((m 376 10) - 1)) 376 6 = mq9124 376 6 := ((yup_nk (by decide)).trans (hFq9171 376 6 rfl))
        have es9193 : (yup mq9171 376 10 ((m 376 10) - 1)) 376 8 = m 376 8 := ((yup_nk (by decide)).trans ((hFq9171 376 8 rfl).trans (hFq9124 376 8 rfl)))
        have es9194 : (yup mq9171 376 10 ((m 376 10) - 1)) 390 0 = m 390 0 := ((yup_na (by decide)).trans ((hFq9171 390 0 rfl).trans (hFq9124 390 0 rfl)))
        have es9195 : (yup mq9171 376 10 ((m 376 10) - 1)) 386 0 = m 386 0 := ((yup_na (by decide)).trans ((hFq9171 386 0 rfl).trans (hFq9124 386 0 rfl)))
        have es9196 : (yup mq9171 376 10 ((m 376 10) - 1)) 387 0 = m 387 0 := ((yup_na (by decide)).trans ((hFq9171 387 0 rfl).trans (hFq9124 387 0 rfl)))
        have es9197 : (yup mq9171 376 10 ((m 376 10) - 1)) 388 0 = m 388 0 := ((yup_na (by decide)).trans ((hFq9171 388 0 rfl).trans (hFq9124 388 0 rfl)))
        have es9198 : (yup mq9171 376 10 ((m 376 10) - 1)) 376 17 = m 376 17 := ((yup_nk (by decide)).trans ((hFq9171 376 17 rfl).trans (hFq9124 376 17 rfl)))
        have es9199 : (yup mq9171 376 10 ((m 376 10) - 1)) 384 0 = m 384 0 := ((yup_na (by decide)).trans ((hFq9171 384 0 rfl).trans (hFq9124 384 0 rfl)))
        have es9200 : (yup mq9171 376 10 ((m 376 10) - 1)) 376 10 = (m 376 10) - 1 := rfl
        have es9201 : (yup mq9171 376 10 ((m 376 10) - 1)) 376 9 = m 376 9 := ((yup_nk (by decide)).trans ((hFq9171 376 9 rfl).trans (hFq9124 376 9 rfl)))
        have em9202 : mu (yup mq9171 376 10 ((m 376 10) - 1)) = mu mq9124 := mu_fr ((yup_nk (by decide)).trans (hFq9171 376 1 rfl)) ((yup_nk (by decide)).trans (hFq9171 376 3 rfl)) ((yup_nk (by decide)).trans (hFq9171 376 6 rfl))
        have hon : ((v9130.toNat : Nat) : Int) = v9130 := by omega
        have hx1 : XS 0 mq9124 := hX.fw hFq9124 wNx_X
        have hwo : 9 ≤ mq9124 403 (1000 * 0 + 8 * v9130.toNat) ∧ mq9124 403 (1000 * 0 + 8 * v9130.toNat) ≤ 11 := by rw [hFq9124 403 _ rfl]; omega
        have q90 : mq9124 390 0 = _ := (hFq9124 390 0 rfl)
        have q10 : mq9124 376 10 = m 376 10 := (hFq9124 376 10 rfl)
        have q79 : mq9124 379 (mq9124 376 10 - 1).toNat = ((v9130.toNat : Nat) : Int) := by rw [q10, hon, ← gv9130_]; exact (hFq9124 379 _ rfl)
        have hx : XS 0 (yup mq9171 376 10 ((m 376 10) - 1)) := XS.cls hx1 (o := v9130.toNat) (by omega) hwo (by omega) (by omega) q79 ((yup_na (by decide)).trans hA1) (fun q hq => (yup_na (by decide)).trans (hA2 q hq)) (by omega) (fun a q ha h1 h2 => (yup_ne h2).trans (hFq9171 a q (wAi0_Z a q h1)))
        have hpd := PD.close (m := m) (m' := yup mq9171 376 10 ((m 376 10) - 1)) (by omega) (fun q hq => ((yup_na (by decide)).trans ((hFq9171 378 q rfl).trans (hFq9124 378 q rfl)))) (Or.inl (by omega))
        exact y_retU c129_134 ⟨rfl, hT9188, hF9189, by omega, by omega, Or.inr ⟨by omega, by omega, by omega, hx⟩⟩
      · refine y_aload 64 c129_63 rfl rfl rfl ?_
        have es9204 : mq9124 376 1 = m 376 1 := (hFq9124 376 1 rfl)
        have tb9205 := hTq9124.atp 376 6 0 320 rfl
        have es9206 : mq9124 376 8 = m 376 8 := (hFq9124 376 8 rfl)
        refine y_callUB 67 [.ref 376] [] c129_64 rfl rfl rfl rfl rfl (ycanO km99 ko376) (t99u hTq9124 (by omega)) (fun mq9203 nq9203 hq9203 => ?_)
        obtain ⟨rfl, hTq9203, hFq9203, hq9203⟩ := hq9203
        have x1q9203 : mq9203 376 1 = m 376 1 := ((hFq9203 376 1 rfl).trans (hFq9124 376 1 rfl))
        have hF9207 := hF9129.tr hFq9203 wNx_wBd0
        refine y_aload 68 c129_67 rfl rfl rfl ?_
        refine y_iconst 70 c129_68 rfl ?_
        refine y_iconst 71 c129_70 rfl ?_
        refine y_iconst 72 c129_71 rfl ?_
        refine y_iconst 73 c129_72 rfl ?_
        have es9209 : mq9203 376 1 = m 376 1 := ((hFq9203 376 1 rfl).trans (hFq9124 376 1 rfl))
        have tb9210 := hTq9203.atp 376 3 0 3 rfl
        have tb9211 := hTq9203.atp 376 6 0 320 rfl
        have es9212 : mq9203 376 8 = m 376 8 := ((hFq9203 376 8 rfl).trans (hFq9124 376 8 rfl))
        have es9213 : mq9203 376 18 = m 376 18 := ((hFq9203 376 18 rfl).trans (hFq9124 376 18 rfl))
        have tb9214 := hT.atp 376 18 0 1 rfl
        have es9215 : mq9203 390 0 = m 390 0 := ((hFq9203 390 0 rfl).trans (hFq9124 390 0 rfl))
        have es9216 : mq9203 386 0 = m 386 0 := ((hFq9203 386 0 rfl).trans (hFq9124 386 0 rfl))
        have es9217 : mq9203 387 0 = m 387 0 := ((hFq9203 387 0 rfl).trans (hFq9124 387 0 rfl))
        have es9218 : mq9203 388 0 = m 388 0 := ((hFq9203 388 0 rfl).trans (hFq9124 388 0 rfl))
        have es9219 : mq9203 376 17 = m 376 17 := ((hFq9203 376 17 rfl).trans (hFq9124 376 17 rfl))
        have tb9220 := hT.atp 376 17 0 20 rfl
        have es9221 : mq9203 384 0 = m 384 0 := ((hFq9203 384 0 rfl).trans (hFq9124 384 0 rfl))
        have es9222 : mq9203 376 10 = m 376 10 := ((hFq9203 376 10 rfl).trans (hFq9124 376 10 rfl))
        have es9223 : mq9203 376 9 = m 376 9 := ((hFq9203 376 9 rfl).trans (hFq9124 376 9 rfl))
        have tb9224 := hT.atp 376 9 0 40 rfl
        refine y_callIB 76 [.ref 376, yI 11, yI 0, yI 0, yI 0] [] c129_73 rfl rfl rfl rfl rfl (ycanO km127 ko376) (t127_0 hTq9203 (by omega) (by omega) (by omega) (by omega) (by omega) (by omega)) (fun rq9208 mq9208 nq9208 hq9208 => ?_)
        obtain ⟨rfl, hTq9208, hFq9208, hq9208, hE⟩ := hq9208
        unfold EM at hE
        rw [show mq9203 390 0 = m 390 0 from ((hFq9203 390 0 rfl).trans (hFq9124 390 0 rfl))] at hE
        obtain ⟨k1, k2, k3, k4, k5, k6, k7⟩ := hE
        have k8 : ∀ q, q < 1000 * 0 + 8 * (m 390 0).toNat ∨ 1000 * 0 + 8 * (m 390 0).toNat + 8 ≤ q → mq9208 403 q = m 403 q := fun q hq => (k7 q hq).trans (((hFq9203 403 q rfl).trans (hFq9124 403 q rfl)))
        have x1q9208 : mq9208 376 1 = m 376 1 := ((hFq9208 376 1 rfl).trans ((hFq9203 376 1 rfl).trans (hFq9124 376 1 rfl)))
        have hF9225 := hF9207.tr hFq9208 wEm0_wBd0
        refine y_istore 77 c129_76 rfl rfl ?_
        refine y_aload 78 c129_77 rfl rfl rfl ?_
        refine y_iload 79 c129_78 rfl rfl ?_
        have es9227 : mq9208 376 1 = m 376 1 := ((hFq9208 376 1 rfl).trans ((hFq9203 376 1 rfl).trans (hFq9124 376 1 rfl)))
        have es9228 : mq9208 376 3 = mq9203 376 3 := (hFq9208 376 3 rfl)
        have es9229 : mq9208 376 6 = mq9203 376 6 := (hFq9208 376 6 rfl)
        have es9230 : mq9208 376 8 = m 376 8 := ((hFq9208 376 8 rfl).trans ((hFq9203 376 8 rfl).trans (hFq9124 376 8 rfl)))
        have es9231 : mq9208 376 18 = m 376 18 := ((hFq9208 376 18 rfl).trans ((hFq9203 376 18 rfl).trans (hFq9124 376 18 rfl)))
        have tb9232 := hTq9208.atp 390 0 0 125 rfl
        have es9233 : mq9208 386 0 = m 386 0 := ((hFq9208 386 0 rfl).trans ((hFq9203 386 0 rfl).trans (hFq9124 386 0 rfl)))
        have es9234 : mq9208 387 0 = m 387 0 := ((hFq9208 387 0 rfl).trans ((hFq9203 387 0 rfl).trans (hFq9124 387 0 rfl)))
        have es9235 : mq9208 388 0 = m 388 0 := ((hFq9208 388 0 rfl).trans ((hFq9203 388 0 rfl).trans (hFq9124 388 0 rfl)))
        have es9236 : mq9208 376 17 = m 376 17 := ((hFq9208 376 17 rfl).trans ((hFq9203 376 17 rfl).trans (hFq9124 376 17 rfl)))
        have es9237 : mq9208 384 0 = m 384 0 := ((hFq9208 384 0 rfl).trans ((hFq9203 384 0 rfl).trans (hFq9124 384 0 rfl)))
        have es9238 : mq9208 376 10 = m 376 10 := ((hFq9208 376 10 rfl).trans ((hFq9203 376 10 rfl).trans (hFq9124 376 10 rfl)))
        have es9239 : mq9208 376 9 = m 376 9 := ((hFq9208 376 9 rfl).trans ((hFq9203 376 9 rfl).trans (hFq9124 376 9 rfl)))
        have em9240 : mu mq9208 = mu mq9203 := mu_fr (hFq9208 376 1 rfl) (hFq9208 376 3 rfl) (hFq9208 376 6 rfl)
        refine y_callUB 82 [.ref 376, yI v9130] [] c129_79 rfl rfl rfl rfl rfl (ycanO km128 ko376) (t128_0 hTq9208 (by omega) (by omega) (by omega)) (fun mq9226 nq9226 hq9226 => ?_)
        obtain ⟨rfl, hTq9226, hFq9226, hA1, hA2⟩ := hq9226
        have x1q9226 : mq9226 376 1 = m 376 1 := ((hFq9226 376 1 rfl).trans ((hFq9208 376 1 rfl).trans ((hFq9203 376 1 rfl).trans (hFq9124 376 1 rfl))))
        have hF9241 := hF9225.tr hFq9226 wAi0_wBd0
        refine y_aload 83 c129_82 rfl rfl rfl ?_
        refine y_getR 86 c129_83 rfl kf376_11 ?_
        refine y_aload 87 c129_86 rfl rfl rfl ?_
        refine y_getX 90 (m 376 10) c129_87 rfl kf376_10 ((hFq9226 376 10 rfl).trans ((hFq9208 376 10 rfl).trans ((hFq9203 376 10 rfl).trans (hFq9124 376 10 rfl)))) ?_
        refine y_iconst 91 c129_90 rfl ?_
        refine y_isub 92 c129_91 rfl ?_
        refine y_iconst 93 c129_92 rfl ?_
        refine y_iastore 94 c129_93 rfl ka378 (by omega) (y_nar0 _) ?_
        have hT9242 := hTq9226.up 378 (((m 376 10) - 1).toNat) 2 0 3 rfl (by omega)
        have hF9243 := hF9241.up 378 (((m 376 10) - 1).toNat) 2 rfl
        refine y_aload 95 c129_94 rfl rfl rfl ?_
        refine y_getR 98 c129_95 rfl kf376_12 ?_
        refine y_aload 99 c129_98 rfl rfl rfl ?_
        refine y_getX 102 (m 376 10) c129_99 rfl kf376_10 ((yup_na (by decide)).trans ((hFq9226 376 10 rfl).trans ((hFq9208 376 10 rfl).trans ((hFq9203 376 10 rfl).trans (hFq9124 376 10 rfl))))) ?_
        refine y_iconst 103 c129_102 rfl ?_
        refine y_isub 104 c129_103 rfl ?_
        refine y_iload 105 c129_104 rfl rfl ?_
        refine y_iastore 106 c129_105 rfl ka379 (by omega) (y_nar0 _) ?_
        have hT9244 := hT9242.up 379 (((m 376 10) - 1).toNat) rq9208 0 124 rfl (by omega)
        have hF9245 := hF9243.up 379 (((m 376 10) - 1).toNat) rq9208 rfl
        refine y_aload 107 c129_106 rfl rfl rfl ?_
        refine y_iconst 109 c129_107 rfl ?_
        have es9247 : (yup (yup mq9226 378 (((m 376 10) - 1).toNat) 2) 379 (((m 376 10) - 1).toNat) rq9208) 376 1 = m 376 1 := ((yup_na (by decide)).trans ((yup_na (by decide)).trans ((hFq9226 376 1 rfl).trans ((hFq9208 376 1 rfl).trans ((hFq9203 376 1 rfl).trans (hFq9124 376 1 rfl))))))
        have es9248 : (yup (yup mq9226 378 (((m 376 10) - 1).toNat) 2) 379 (((m 376 10) - 1).toNat) rq9208) 376 3 = mq9203 376 3 := ((yup_na (by decide)).trans ((yup_na (by decide)).trans ((hFq9226 376 3 rfl).trans (hFq9208 376 3 rfl))))
        have es9249 : (yup (yup mq9226 378 (((m 376 10) - 1).toNat) 2) 379 (((m 376 10) - 1).toNat) rq9208) 376 6 = mq9203 376 6 := ((yup_na (by decide)).trans ((yup_na (by decide)).trans ((hFq9226 376 6 rfl).trans (hFq9208 376 6 rfl))))
        have es9250 : (yup (yup mq9226 378 (((m 376 10) - 1).toNat) 2) 379 (((m 376 10) - 1).toNat) rq9208) 376 8 = m 376 8 := ((yup_na (by decide)).trans ((yup_na (by decide)).trans ((hFq9226 376 8 rfl).trans ((hFq9208 376 8 rfl).trans ((hFq9203 376 8 rfl).trans (hFq9124 376 8 rfl))))))
        have em9251 : mu (yup (yup mq9226 378 (((m 376 10) - 1).toNat) 2) 379 (((m 376 10) - 1).toNat) rq9208) = mu mq9203 := mu_fr ((yup_na (by decide)).trans ((yup_na (by decide)).trans ((hFq9226 376 1 rfl).trans (hFq9208 376 1 rfl)))) ((yup_na (by decide)).trans ((yup_na (by decide)).trans ((hFq9226 376 3 rfl).trans (hFq9208 376 3 rfl)))) ((yup_na (by decide)).trans ((yup_na (by decide)).trans ((hFq9226 376 6 rfl).trans (hFq9208 376 6 rfl))))
        refine y_callIB 112 [.ref 376, yI 123] [] c129_109 rfl rfl rfl rfl rfl (ycanO km118 ko376) (t118 hT9244 (by omega) (by omega)) (fun rq9246 mq9246 nq9246 hq9246 => ?_)
        obtain ⟨rfl, hTq9246, hFq9246, hq9246⟩ := hq9246
        have x1q9246 : mq9246 376 1 = m 376 1 := ((hFq9246 376 1 rfl).trans ((yup_na (by decide)).trans ((yup_na (by decide)).trans ((hFq9226 376 1 rfl).trans ((hFq9208 376 1 rfl).trans ((hFq9203 376 1 rfl).trans (hFq9124 376 1 rfl)))))))
        have hF9252 := hF9245.tr hFq9246 wNw_wBd0
        refine y_if 116 115 c129_112 rfl rfl (yz_ne (by omega)) (fun hb9253 => ?_) (fun hb9253 => ?_)
        · refine y_goto 134 c129_116 rfl ?_
          have es9254 : mq9246 376 1 = m 376 1 := ((hFq9246 376 1 rfl).trans ((yup_na (by decide)).trans ((yup_na (by decide)).trans ((hFq9226 376 1 rfl).trans ((hFq9208 376 1 rfl).trans ((hFq9203 376 1 rfl).trans (hFq9124 376 1 rfl)))))))
          have tb9255 := hTq9246.atp 376 3 0 3 rfl
          have tb9256 := hTq9246.atp 376 6 0 320 rfl
          have tb9257 := hTq9246.atp 376 8 ((-1)) 320 rfl
          have es9258 : mq9246 390 0 = mq9208 390 0 := ((hFq9246 390 0 rfl).trans ((yup_na (by decide)).trans ((yup_na (by decide)).trans (hFq9226 390 0 rfl))))
          have es9259 : mq9246 386 0 = m 386 0 := ((hFq9246 386 0 rfl).trans ((yup_na (by decide)).trans ((yup_na (by decide)).trans ((hFq9226 386 0 rfl).trans ((hFq9208 386 0 rfl).trans ((hFq9203 386 0 rfl).trans (hFq9124 386 0 rfl)))))))
          have es9260 : mq9246 387 0 = m 387 0 := ((hFq9246 387 0 rfl).trans ((yup_na (by decide)).trans ((yup_na (by decide)).trans ((hFq9226 387 0 rfl).trans ((hFq9208 387 0 rfl).trans ((hFq9203 387 0 rfl).trans (hFq9124 387 0 rfl)))))))
          have es9261 : mq9246 388 0 = m 388 0 := ((hFq9246 388 0 rfl).trans ((yup_na (by decide)).trans ((yup_na (by decide)).trans ((hFq9226 388 0 rfl).trans ((hFq9208 388 0 rfl).trans ((hFq9203 388 0 rfl).trans (hFq9124 388 0 rfl)))))))
          have es9262 : mq9246 376 17 = m 376 17 := ((hFq9246 376 17 rfl).trans ((yup_na (by decide)).trans ((yup_na (by decide)).trans ((hFq9226 376 17 rfl).trans ((hFq9208 376 17 rfl).trans ((hFq9203 376 17 rfl).trans (hFq9124 376 17 rfl)))))))
          have es9263 : mq9246 384 0 = m 384 0 := ((hFq9246 384 0 rfl).trans ((yup_na (by decide)).trans ((yup_na (by decide)).trans ((hFq9226 384 0 rfl).trans ((hFq9208 384 0 rfl).trans ((hFq9203 384 0 rfl).trans (hFq9124 384 0 rfl)))))))
          have es9264 : mq9246 376 10 = m 376 10 := ((hFq9246 376 10 rfl).trans ((yup_na (by decide)).trans ((yup_na (by decide)).trans ((hFq9226 376 10 rfl).trans ((hFq9208 376 10 rfl).trans ((hFq9203 376 10 rfl).trans (hFq9124 376 10 rfl)))))))
          have es9265 : mq9246 376 9 = m 376 9 := ((hFq9246 376 9 rfl).trans ((yup_na (by decide)).trans ((yup_na (by decide)).trans ((hFq9226 376 9 rfl).trans ((hFq9208 376 9 rfl).trans ((hFq9203 376 9 rfl).trans (hFq9124 376 9 rfl)))))))
          have hon : ((v9130.toNat : Nat) : Int) = v9130 := by omega
          have hw : OW mq9208 (1000 * 0 + 8 * (m 390 0).toNat) := by unfold OW; omega
          have hx0 : XS 0 mq9203 := ((hX.fw hFq9124 wNx_X).fw hFq9203 wNx_X)
          have q90 : mq9203 390 0 = m 390 0 := ((hFq9203 390 0 rfl).trans (hFq9124 390 0 rfl))
          have q10 : mq9203 376 10 = m 376 10 := ((hFq9203 376 10 rfl).trans (hFq9124 376 10 rfl))
          have qo : mq9203 403 (1000 * 0 + 8 * v9130.toNat) = 9 := (((hFq9203 403 _ rfl).trans (hFq9124 403 _ rfl))).trans (by omega)
          have q78 : mq9203 378 (m 376 10 - 1).toNat = 1 := (((hFq9203 378 _ rfl).trans (hFq9124 378 _ rfl))).trans (by omega)
          have c90 : mq9208 390 0 = m 390 0 + 1 := by omega
          have hx2 : XS 0 (yup (yup mq9226 378 (((m 376 10) - 1).toNat) 2) 379 (((m 376 10) - 1).toNat) rq9208) := by
            refine XS.els (o := v9130.toNat) (m1 := mq9208) (m2 := mq9226) hx0 (by omega) (by omega) qo (by omega) (by rw [q10]; exact q78) ?_ (by rw [q90]; exact hw) (by rw [q90]; exact k2) (by rw [q90]; exact k5) (by rw [q90, hA1]; exact c90) hA2 (fun q => (yup_na (by decide)).trans (yup_na (by decide))) ?_ ?_ ?_ ?_ ?_ ?_ ?_ ?_
            · rw [q90]; exact k7
            · rw [q90, show (yup (yup mq9226 378 (((m 376 10) - 1).toNat) 2) 379 (((m 376 10) - 1).toNat) rq9208) 390 0 = mq9208 390 0 from ((yup_na (by decide)).trans ((yup_na (by decide)).trans (hFq9226 390 0 rfl)))]; exact c90
            · rw [q10]; exact ((yup_na (by decide)).trans ((yup_na (by decide)).trans ((hFq9226 376 10 rfl).trans ((hFq9208 376 10 rfl).trans ((hFq9203 376 10 rfl).trans (hFq9124 376 10 rfl))))))
            · rw [q10]; exact ((yup_na (by decide)).trans (yup_eq _ _ _ _))
            · rw [q10, q90, show (yup (yup mq9226 378 (((m 376 10) - 1).toNat) 2) 379 (((m 376 10) - 1).toNat) rq9208) 379 (m 376 10 - 1).toNat = rq9208 from (yup_eq _ _ _ _)]; omega
            · rw [q10]; intro q hq; exact (((yup_na (by decide)).trans ((yup_nk (by omega)).trans ((hFq9226 378 q rfl).trans ((hFq9208 378 q rfl).trans ((hFq9203 378 q rfl).trans (hFq9124 378 q rfl))))))).trans (((hFq9203 378 q rfl).trans (hFq9124 378 q rfl))).symm
            · rw [q10]; intro q hq; exact (((yup_nk (by omega)).trans ((yup_na (by decide)).trans ((hFq9226 379 q rfl).trans ((hFq9208 379 q rfl).trans ((hFq9203 379 q rfl).trans (hFq9124 379 q rfl))))))).trans (((hFq9203 379 q rfl).trans (hFq9124 379 q rfl))).symm
            · intro a q ha h1 h2 h3 h4 h5; exact (yup_na h4).trans ((yup_na h3).trans ((hFq9226 a q (wAi0_Z a q h1)).trans (hFq9208 a q (wEm0_Z a q h1 h5))))
            · exact ((yup_na (by decide)).trans ((yup_na (by decide)).trans ((hFq9226 376 17 rfl).trans (hFq9208 376 17 rfl))))
          have hx : XS 0 mq9246 := hx2.fw hFq9246 wNw_X
          have hpd := PD.close (m := m) (m' := mq9246) (by omega) (fun q hq => ((hFq9246 378 q rfl).trans ((yup_na (by decide)).trans ((yup_nk (by omega)).trans ((hFq9226 378 q rfl).trans ((hFq9208 378 q rfl).trans ((hFq9203 378 q rfl).trans (hFq9124 378 q rfl)))))))) (Or.inr ⟨by omega, ((hFq9246 378 _ rfl).trans ((yup_na (by decide)).trans (yup_eq _ _ _ _)))⟩)
          exact y_retU c129_134 ⟨rfl, hTq9246, hF9252, by omega, by omega, by first | exact Or.inl (by omega) | exact Or.inr ⟨by omega, by omega, by omega, hx⟩⟩
        · have es9266 : mq9246 376 1 = m 376 1 := ((hFq9246 376 1 rfl).trans ((yup_na (by decide)).trans ((yup_na (by decide)).trans ((hFq9226 376 1 rfl).trans ((hFq9208 376 1 rfl).trans ((hFq9203 376 1 rfl).trans (hFq9124 376 1 rfl)))))))
          have tb9267 := hTq9246.atp 376 3 0 3 rfl
          have tb9268 := hTq9246.atp 376 6 0 320 rfl
          have tb9269 := hTq9246.atp 376 8 ((-1)) 320 rfl
          have es9270 : mq9246 390 0 = mq9208 390 0 := ((hFq9246 390 0 rfl).trans ((yup_na (by decide)).trans ((yup_na (by decide)).trans (hFq9226 390 0 rfl))))
          have es9271 : mq9246 386 0 = m 386 0 := ((hFq9246 386 0 rfl).trans ((yup_na (by decide)).trans ((yup_na (by decide)).trans ((hFq9226 386 0 rfl).trans ((hFq9208 386 0 rfl).trans ((hFq9203 386 0 rfl).trans (hFq9124 386 0 rfl)))))))
          have es9272 : mq9246 387 0 = m 387 0 := ((hFq9246 387 0 rfl).trans ((yup_na (by decide)).trans ((yup_na (by decide)).trans ((hFq9226 387 0 rfl).trans ((hFq9208 387 0 rfl).trans ((hFq9203 387 0 rfl).trans (hFq9124 387 0 rfl)))))))
          have es9273 : mq9246 388 0 = m 388 0 := ((hFq9246 388 0 rfl).trans ((yup_na (by decide)).trans ((yup_na (by decide)).trans ((hFq9226 388 0 rfl).trans ((hFq9208 388 0 rfl).trans ((hFq9203 388 0 rfl).trans (hFq9124 388 0 rfl)))))))
          have es9274 : mq9246 376 17 = m 376 17 := ((hFq9246 376 17 rfl).trans ((yup_na (by decide)).trans ((yup_na (by decide)).trans ((hFq9226 376 17 rfl).trans ((hFq9208 376 17 rfl).trans ((hFq9203 376 17 rfl).trans (hFq9124 376 17 rfl)))))))
          have es9275 : mq9246 384 0 = m 384 0 := ((hFq9246 384 0 rfl).trans ((yup_na (by decide)).trans ((yup_na (by decide)).trans ((hFq9226 384 0 rfl).trans ((hFq9208 384 0 rfl).trans ((hFq9203 384 0 rfl).trans (hFq9124 384 0 rfl)))))))
          have es9276 : mq9246 376 10 = m 376 10 := ((hFq9246 376 10 rfl).trans ((yup_na (by decide)).trans ((yup_na (by decide)).trans ((hFq9226 376 10 rfl).trans ((hFq9208 376 10 rfl).trans ((hFq9203 376 10 rfl).trans (hFq9124 376 10 rfl)))))))
          have es9277 : mq9246 376 9 = m 376 9 := ((hFq9246 376 9 rfl).trans ((yup_na (by decide)).trans ((yup_na (by decide)).trans ((hFq9226 376 9 rfl).trans ((hFq9208 376 9 rfl).trans ((hFq9203 376 9 rfl).trans (hFq9124 376 9 rfl)))))))
          have hon : ((v9130.toNat : Nat) : Int) = v9130 := by omega
          exact y_retU c129_115 ⟨rfl, hTq9246, hF9252, by omega, by omega, Or.inl (by omega)⟩
  · refine y_aload 32 c129_31 rfl rfl rfl ?_
    refine y_iconst 34 c129_32 rfl ?_
    refine y_iconst 35 c129_34 rfl ?_
    refine y_iload 36 c129_35 rfl rfl ?_
    refine y_iconst 37 c129_36 rfl ?_
    have es9279 : mq9124 376 1 = m 376 1 := (hFq9124 376 1 rfl)
    have tb9280 := hTq9124.atp 376 3 0 3 rfl
    have tb9281 := hTq9124.atp 376 6 0 320 rfl
    have es9282 : mq9124 376 8 = m 376 8 := (hFq9124 376 8 rfl)
    have es9283 : mq9124 376 18 = m 376 18 := (hFq9124 376 18 rfl)
    have tb9284 := hT.atp 376 18 0 1 rfl
    have es9285 : mq9124 390 0 = m 390 0 := (hFq9124 390 0 rfl)
    have es9286 : mq9124 386 0 = m 386 0 := (hFq9124 386 0 rfl)
    have es9287 : mq9124 387 0 = m 387 0 := (hFq9124 387 0 rfl)
    have es9288 : mq9124 388 0 = m 388 0 := (hFq9124 388 0 rfl)
    have es9289 : mq9124 376 17 = m 376 17 := (hFq9124 376 17 rfl)
    have tb9290 := hT.atp 376 17 0 20 rfl
    have es9291 : mq9124 384 0 = m 384 0 := (hFq9124 384 0 rfl)
    have es9292 : mq9124 376 10 = m 376 10 := (hFq9124 376 10 rfl)
    have es9293 : mq9124 376 9 = m 376 9 := (hFq9124 376 9 rfl)
    have tb9294 := hT.atp 376 9 0 40 rfl
    refine y_callIB 40 [.ref 376, yI 11, yI 0, yI v9130, yI 0] [] c129_37 rfl rfl rfl rfl rfl (ycanO km127 ko376) (t127_0 hTq9124 (by omega) (by omega) (by omega) (by omega) (by omega) (by omega)) (fun rq9278 mq9278 nq9278 hq9278 => ?_)
    obtain ⟨rfl, hTq9278, hFq9278, hq9278, hE⟩ := hq9278
    unfold EM at hE
    rw [show mq9124 390 0 = m 390 0 from (hFq9124 390 0 rfl)] at hE
    obtain ⟨k1, k2, k3, k4, k5, k6, k7⟩ := hE
    have k8 : ∀ q, q < 1000 * 0 + 8 * (m 390 0).toNat ∨ 1000 * 0 + 8 * (m 390 0).toNat + 8 ≤ q → mq9278 403 q = m 403 q := fun q hq => (k7 q hq).trans ((hFq9124 403 q rfl))
    have x1q9278 : mq9278 376 1 = m 376 1 := ((hFq9278 376 1 rfl).trans (hFq9124 376 1 rfl))
    have hF9295 := hF9129.tr hFq9278 wEm0_wBd0
    refine y_istore 41 c129_40 rfl rfl ?_
    refine y_aload 42 c129_41 rfl rfl rfl ?_
    refine y_getR 45 c129_42 rfl kf376_11 ?_
    refine y_aload 46 c129_45 rfl rfl rfl ?_
    refine y_getX 49 (m 376 10) c129_46 rfl kf376_10 ((hFq9278 376 10 rfl).trans (hFq9124 376 10 rfl)) ?_
    refine y_iconst 50 c129_49 rfl ?_
    refine y_isub 51 c129_50 rfl ?_
    refine y_iaT 52 0 3 c129_51 rfl ka378 (by omega) hTq9278 rfl (fun v9296 hv9296 gv9296 => ?_)
    have gv9296_ : m 378 ((m 376 10) - 1).toNat = v9296 := (((hFq9278 378 _ rfl).trans (hFq9124 378 _ rfl))).symm.trans hv9296
    refine y_iconst 53 c129_52 rfl ?_
    refine y_icmp 119 56 c129_53 rfl rfl (yc_ne (by omega) (by omega)) (fun hb9297 => ?_) (fun hb9297 => ?_)
    · refine y_aload 120 c129_119 rfl rfl rfl ?_
      refine y_iload 121 c129_120 rfl rfl ?_
      have es9299 : mq9278 376 1 = m 376 1 := ((hFq9278 376 1 rfl).trans (hFq9124 376 1 rfl))
      have es9300 : mq9278 376 3 = mq9124 376 3 := (hFq9278 376 3 rfl)
      have es9301 : mq9278 376 6 = mq9124 376 6 := (hFq9278 376 6 rfl)
      have es9302 : mq9278 376 8 = m 376 8 := ((hFq9278 376 8 rfl).trans (hFq9124 376 8 rfl))
      have es9303 : mq9278 376 18 = m 376 18 := ((hFq9278 376 18 rfl).trans (hFq9124 376 18 rfl))
      have tb9304 := hTq9278.atp 390 0 0 125 rfl
      have es9305 : mq9278 386 0 = m 386 0 := ((hFq9278 386 0 rfl).trans (hFq9124 386 0 rfl))
      have es9306 : mq9278 387 0 = m 387 0 := ((hFq9278 387 0 rfl).trans (hFq9124 387 0 rfl))
      have es9307 : mq9278 388 0 = m 388 0 := ((hFq9278 388 0 rfl).trans (hFq9124 388 0 rfl))
      have es9308 : mq9278 376 17 = m 376 17 := ((hFq9278 376 17 rfl).trans (hFq9124 376 17 rfl))
      have es9309 : mq9278 384 0 = m 384 0 := ((hFq9278 384 0 rfl).trans (hFq9124 384 0 rfl))
      have es9310 : mq9278 376 10 = m 376 10 := ((hFq9278 376 10 rfl).trans (hFq9124 376 10 rfl))
      have es9311 : mq9278 376 9 = m 376 9 := ((hFq9278 376 9 rfl).trans (hFq9124 376 9 rfl))
      have em9312 : mu mq9278 = mu mq9124 := mu_fr (hFq9278 376 1 rfl) (hFq9278 376 3 rfl) (hFq9278 376 6 rfl)
      refine y_callUB 124 [.ref 376, yI v9130] [] c129_121 rfl rfl rfl rfl rfl (ycanO km128 ko376) (t128_0 hTq9278 (by omega) (by omega) (by omega)) (fun mq9298 nq9298 hq9298 => ?_)
      obtain ⟨rfl, hTq9298, hFq9298, hA1, hA2⟩ := hq9298
      have x1q9298 : mq9298 376 1 = m 376 1 := ((hFq9298 376 1 rfl).trans ((hFq9278 376 1 rfl).trans (hFq9124 376 1 rfl)))
      have hF9313 := hF9295.tr hFq9298 wAi0_wBd0
      refine y_aload 125 c129_124 rfl rfl rfl ?_
      refine y_dup 126 c129_125 rfl rfl ?_
      refine y_getX 129 (m 376 10) c129_126 rfl kf376_10 ((hFq9298 376 10 rfl).trans ((hFq9278 376 10 rfl).trans (hFq9124 376 10 rfl))) ?_
      refine y_iconst 130 c129_129 rfl ?_
      refine y_isub 131 c129_130 rfl ?_
      refine y_putI 134 c129_131 rfl kf376_10 (y_fit0 _) ?_
      have hT9314 := hTq9298.up 376 10 ((m 376 10) - 1) 0 3 rfl (by omega)
      have hF9315 := hF9313.up 376 10 ((m 376 10) - 1) rfl
      have es9316 : (yup mq9298 376 10 ((m 376 10) - 1)) 376 1 = m 376 1 := ((yup_nk (by decide)).trans ((hFq9298 376 1 rfl).trans ((hFq9278 376 1 rfl).trans (hFq9124 376 1 rfl))))
      have es9317 : (yup mq9298 376 10 ((m 376 10) - 1)) 376 3 = mq9124 376 3 := ((yup_nk (by decide)).trans ((hFq9298 376 3 rfl).trans (hFq9278 376 3 rfl)))
      have es9318 : (yup mq9298 376 10 ((m 376 10) - 1)) 376 6 = mq9124 376 6 := ((yup_nk (by decide)).trans ((hFq9298 376 6 rfl).trans (hFq9278 376 6 rfl)))
      have es9319 : (yup mq9298 376 10 ((m 376 10) - 1)) 376 8 = m 376 8 := ((yup_nk (by decide)).trans ((hFq9298 376 8 rfl).trans ((hFq9278 376 8 rfl).trans (hFq9124 376 8 rfl))))
      have es9320 : (yup mq9298 376 10 ((m 376 10) - 1)) 390 0 = mq9278 390 0 := ((yup_na (by decide)).trans (hFq9298 390 0 rfl))
      have es9321 : (yup mq9298 376 10 ((m 376 10) - 1)) 386 0 = m 386 0 := ((yup_na (by decide)).trans ((hFq9298 386 0 rfl).trans ((hFq9278 386 0 rfl).trans (hFq9124 386 0 rfl))))
      have es9322 : (yup mq9298 376 10 ((m 376 10) - 1)) 387 0 = m 387 0 := ((yup_na (by decide)).trans ((hFq9298 387 0 rfl).trans ((hFq9278 387 0 rfl).trans (hFq9124 387 0 rfl))))
      have es9323 : (yup mq9298 376 10 ((m 376 10) - 1)) 388 0 = m 388 0 := ((yup_na (by decide)).trans ((hFq9298 388 0 rfl).trans ((hFq9278 388 0 rfl).trans (hFq9124 388 0 rfl))))
      have es9324 : (yup mq9298 376 10 ((m 376 10) - 1)) 376 17 = m 376 17 := ((yup_nk (by decide)).trans ((hFq9298 376 17 rfl).trans ((hFq9278 376 17 rfl).trans (hFq9124 376 17 rfl))))
      have es9325 : (yup mq9298 376 10 ((m 376 10) - 1)) 384 0 = m 384 0 := ((yup_na (by decide)).trans ((hFq9298 384 0 rfl).trans ((hFq9278 384 0 rfl).trans (hFq9124 384 0 rfl))))
      have es9326 : (yup mq9298 376 10 ((m 376 10) - 1)) 376 10 = (m 376 10) - 1 := rfl
      have es9327 : (yup mq9298 376 10 ((m 376 10) - 1)) 376 9 = m 376 9 := ((yup_nk (by decide)).trans ((hFq9298 376 9 rfl).trans ((hFq9278 376 9 rfl).trans (hFq9124 376 9 rfl))))
      have em9328 : mu (yup mq9298 376 10 ((m 376 10) - 1)) = mu mq9124 := mu_fr ((yup_nk (by decide)).trans ((hFq9298 376 1 rfl).trans (hFq9278 376 1 rfl))) ((yup_nk (by decide)).trans ((hFq9298 376 3 rfl).trans (hFq9278 376 3 rfl))) ((yup_nk (by decide)).trans ((hFq9298 376 6 rfl).trans (hFq9278 376 6 rfl)))
      have hon : ((v9130.toNat : Nat) : Int) = v9130 := by omega
      have hw : OW mq9278 (1000 * 0 + 8 * (m 390 0).toNat) := by unfold OW; omega
      have hjk : JK 0 mq9278 (m 390 0).toNat := by right; rw [k5, k8 _ (by omega)]; omega
      have hsc := hX.2.2.2.2.2
      have hCV := hX.2.2.2.2.2.2.2.1
      have s386 : mq9278 386 0 = m 386 0 := (hFq9278 386 0 rfl).trans ((hFq9124 386 0 rfl))
      have s387 : mq9278 387 0 = m 387 0 := (hFq9278 387 0 rfl).trans ((hFq9124 387 0 rfl))
      have s388 : mq9278 388 0 = m 388 0 := (hFq9278 388 0 rfl).trans ((hFq9124 388 0 rfl))
      have s17 : mq9278 376 17 = m 376 17 := (hFq9278 376 17 rfl).trans ((hFq9124 376 17 rfl))
      have hx1 : XS 0 mq9278 := XS.add hX (by omega) (fun a q ha => (hFq9278 a q (wEm0_Y0 a q ha)).trans (hFq9124 a q (wNx_Y0 a q ha))) k8 hw (by omega) (fun _ => hjk) (by omega) (by omega) (by omega) (by omega) (by omega) (fun c hc => by rw [show mq9278 401 (8 * 0 + c) = m 401 (8 * 0 + c) from (hFq9278 401 _ rfl).trans (hFq9124 401 _ rfl)]; exact hCV c (by omega)) (by omega) (by omega)
      have hwo : 9 ≤ mq9278 403 (1000 * 0 + 8 * v9130.toNat) ∧ mq9278 403 (1000 * 0 + 8 * v9130.toNat) ≤ 11 := by rw [k8 _ (by omega)]; omega
      have q90 : mq9278 390 0 = _ := rfl
      have q10 : mq9278 376 10 = m 376 10 := ((hFq9278 376 10 rfl).trans (hFq9124 376 10 rfl))
      have q79 : mq9278 379 (mq9278 376 10 - 1).toNat = ((v9130.toNat : Nat) : Int) := by rw [q10, hon, ← gv9130_]; exact ((hFq9278 379 _ rfl).trans (hFq9124 379 _ rfl))
      have hx : XS 0 (yup mq9298 376 10 ((m 376 10) - 1)) := XS.cls hx1 (o := v9130.toNat) (by omega) hwo (by omega) (by omega) q79 ((yup_na (by decide)).trans hA1) (fun q hq => (yup_na (by decide)).trans (hA2 q hq)) (by omega) (fun a q ha h1 h2 => (yup_ne h2).trans (hFq9298 a q (wAi0_Z a q h1)))
      have hpd := PD.close (m := m) (m' := yup mq9298 376 10 ((m 376 10) - 1)) (by omega) (fun q hq => ((yup_na (by decide)).trans ((hFq9298 378 q rfl).trans ((hFq9278 378 q rfl).trans (hFq9124 378 q rfl))))) (Or.inl (by omega))
      exact y_retU c129_134 ⟨rfl, hT9314, hF9315, by omega, by omega, Or.inr ⟨by omega, by omega, by omega, hx⟩⟩
    · exfalso; omega
set_option maxRecDepth 100000 in
theorem t129_1 {L : Nat} {xs : Nat → Int32} {d nn : Nat} {m : yM} (hT : Ty gT m) (hl : m 376 6 ≤ m 376 1) (hn : m 376 18 = 0) (h8 : m 376 8 < 0) (hX : XS 1 m) (h84 : 1 ≤ m 384 1) (h90 : m 390 1 ≤ 100) (h3 : m 376 3 ≠ 0) (hd1 : 1 ≤ m 376 10) : YC (gZ L xs) (d + 5) 129 [.ref 376] m nn (qU (fun m' n' => n' = nn ∧ Ty gT m' ∧ Fr wBd1 m m' ∧ m' 376 6 ≤ m' 376 1 ∧ (m' 376 9 = m 376 9 ∧ (0 ≤ m' 376 8 ∨ (m' 376 8 < 0 ∧ mu m' < mu m ∧ (m' 390 1 + PD m' ≤ m 390 1 + PD m ∧ m 390 1 ≤ m' 390 1) ∧ XS 1 m'))))) := by
  have tb8 := hT.atp 376 8 (-1) 320 rfl
  have tb10 := hT.atp 376 10 0 3 rfl
  have tc384 := hT.atp 384 1 0 10 rfl
  have tc386 := hT.atp 386 1 0 12 rfl
  have tc387 := hT.atp 387 1 0 8 rfl
  have tc388 := hT.atp 388 1 0 12 rfl
  have tc389 := hT.atp 389 1 0 48 rfl
  have tc390 := hT.atp 390 1 0 125 rfl
  refine YC.mkB [some (.ref 376), none, none] kn129 rfl rfl ?_
  have hF : Fr wBd1 m m := Fr.rf
  refine y_aload 1 c129_0 rfl rfl rfl ?_
  have tb9506 := hT.atp 376 1 0 320 rfl
  have tb9507 := hT.atp 376 3 0 3 rfl
  have tb9508 := hT.atp 376 6 0 320 rfl
  have tb9509 := hT.atp 376 8 ((-1)) 320 rfl
  refine y_callUB 4 [.ref 376] [] c129_1 rfl rfl rfl rfl rfl (ycanO km99 ko376) (t99u hT (by omega)) (fun mq9505 nq9505 hq9505 => ?_)
  obtain ⟨rfl, hTq9505, hFq9505, hq9505⟩ := hq9505
  have x1q9505 : mq9505 376 1 = m 376 1 := (hFq9505 376 1 rfl)
  have hF9510 := hF.tr hFq9505 wNx_wBd1
  refine y_aload 5 c129_4 rfl rfl rfl ?_
  refine y_getR 8 c129_5 rfl kf376_12 ?_
  refine y_aload 9 c129_8 rfl rfl rfl ?_
  refine y_getX 12 (m 376 10) c129_9 rfl kf376_10 (hFq9505 376 10 rfl) ?_
  refine y_iconst 13 c129_12 rfl ?_
  refine y_isub 14 c129_13 rfl ?_
  refine y_iaT 15 0 124 c129_14 rfl ka379 (by omega) hTq9505 rfl (fun v9511 hv9511 gv9511 => ?_)
  have gv9511_ : m 379 ((m 376 10) - 1).toNat = v9511 := ((hFq9505 379 _ rfl)).symm.trans hv9511
  refine y_istore 16 c129_15 rfl rfl ?_
  obtain ⟨b1, b2, b3, b4, b5, b6⟩ := hX.2.2.1 (m 376 10 - 1).toNat (by omega) (by omega)
  rw [gv9511_] at b1 b2 b4 b5 b6
  refine y_aload 17 c129_16 rfl rfl rfl ?_
  refine y_getR 20 c129_17 rfl kf376_11 ?_
  refine y_aload 21 c129_20 rfl rfl rfl ?_
  refine y_getX 24 (m 376 10) c129_21 rfl kf376_10 (hFq9505 376 10 rfl) ?_
  refine y_iconst 25 c129_24 rfl ?_
  refine y_isub 26 c129_25 rfl ?_
  refine y_iaT 27 0 3 c129_26 rfl ka378 (by omega) hTq9505 rfl (fun v9512 hv9512 gv9512 => ?_)
  have gv9512_ : m 378 ((m 376 10) - 1).toNat = v9512 := ((hFq9505 378 _ rfl)).symm.trans hv9512
  refine y_iconst 28 c129_27 rfl ?_
  refine y_icmp 41 31 c129_28 rfl rfl (yc_ne (by omega) (by omega)) (fun hb9513 => ?_) (fun hb9513 => ?_)
  · refine y_aload 42 c129_41 rfl rfl rfl ?_
    refine y_getR 45 c129_42 rfl kf376_11 ?_
    refine y_aload 46 c129_45 rfl rfl rfl ?_
    refine y_getX 49 (m 376 10) c129_46 rfl kf376_10 (hFq9505 376 10 rfl) ?_
    refine y_iconst 50 c129_49 rfl ?_
    refine y_isub 51 c129_50 rfl ?_
    refine y_iaT 52 0 3 c129_51 rfl ka378 (by omega) hTq9505 rfl (fun v9514 hv9514 gv9514 => ?_)
    have gv9514_ : m 378 ((m 376 10) - 1).toNat = v9514 := ((hFq9505 378 _ rfl)).symm.trans hv9514
    refine y_iconst 53 c129_52 rfl ?_
    refine y_icmp 119 56 c129_53 rfl rfl (yc_ne (by omega) (by omega)) (fun hb9515 => ?_) (fun hb9515 => ?_)
    · refine y_aload 120 c129_119 rfl rfl rfl ?_
      refine y_iload 121 c129_120 rfl rfl ?_
      have es9517 : mq9505 376 1 = m 376 1 := (hFq9505 376 1 rfl)
      have tb9518 := hTq9505.atp 376 3 0 3 rfl
      have tb9519 := hTq9505.atp 376 6 0 320 rfl
      have es9520 : mq9505 376 8 = m 376 8 := (hFq9505 376 8 rfl)
      have es9521 : mq9505 376 18 = m 376 18 := (hFq9505 376 18 rfl)
      have tb9522 := hT.atp 376 18 0 1 rfl
      have es9523 : mq9505 390 1 = m 390 1 := (hFq9505 390 1 rfl)
      have es9524 : mq9505 386 1 = m 386 1 := (hFq9505 386 1 rfl)
      have es9525 : mq9505 387 1 = m 387 1 := (hFq9505 387 1 rfl)
      have es9526 : mq9505 388 1 = m 388 1 := (hFq9505 388 1 rfl)
      have es9527 : mq9505 376 17 = m 376 17 := (hFq9505 376 17 rfl)
      have tb9528 := hT.atp 376 17 0 20 rfl
      have es9529 : mq9505 384 1 = m 384 1 := (hFq9505 384 1 rfl)
      have es9530 : mq9505 376 10 = m 376 10 := (hFq9505 376 10 rfl)
      have es9531 : mq9505 376 9 = m 376 9 := (hFq9505 376 9 rfl)
      have tb9532 := hT.atp 376 9 0 40 rfl
      refine y_callUB 124 [.ref 376, yI v9511] [] c129_121 rfl rfl rfl rfl rfl (ycanO km128 ko376) (t128_1 hTq9505 (by omega) (by omega) (by omega)) (fun mq9516 nq9516 hq9516 => ?_)
      obtain ⟨rfl, hTq9516, hFq9516, hA1, hA2⟩ := hq9516
      have x1q9516 : mq9516 376 1 = m 376 1 := ((hFq9516 376 1 rfl).trans (hFq9505 376 1 rfl))
      have hF9533 := hF9510.tr hFq9516 wAi1_wBd1
      refine y_aload 125 c129_124 rfl rfl rfl ?_
      refine y_dup 126 c129_125 rfl rfl ?_
      refine y_getX 129 (m 376 10) c129_126 rfl kf376_10 ((hFq9516 376 10 rfl).trans (hFq9505 376 10 rfl)) ?_
      refine y_iconst 130 c129_129 rfl ?_
      refine y_isub 131 c129_130 rfl ?_
      refine y_putI 134 c129_131 rfl kf376_10 (y_fit0 _) ?_
      have hT9534 := hTq9516.up 376 10 ((m 376 10) - 1) 0 3 rfl (by omega)
      have hF9535 := hF9533.up 376 10 ((m 376 10) - 1) rfl
      have es9536 : (yup mq9516 376 10 ((m 376 10) - 1)) 376 1 = m 376 1 := ((yup_nk (by decide)).trans ((hFq9516 376 1 rfl).trans (hFq9505 376 1 rfl)))
      have es9537 : (yup mq9516 376 10 ((m 376 10) - 1)) 376 3 = mq9505 376 3 := ((yup_nk (by decide)).trans (hFq9516 376 3 rfl))
      have es9538 : (yup mq9516 376 10 ((m 376 10) - 1)) 376 6 = mq9505 376 6 := ((yup_nk (by decide)).trans (hFq9516 376 6 rfl))
      have es9539 : (yup mq9516 376 10 ((m 376 10) - 1)) 376 8 = m 376 8 := ((yup_nk (by decide)).trans ((hFq9516 376 8 rfl).trans (hFq9505 376 8 rfl)))
      have es9540 : (yup mq9516 376 10 ((m 376 10) - 1)) 390 1 = m 390 1 := ((yup_na (by decide)).trans ((hFq9516 390 1 rfl).trans (hFq9505 390 1 rfl)))
      have es9541 : (yup mq9516 376 10 ((m 376 10) - 1)) 386 1 = m 386 1 := ((yup_na (by decide)).trans ((hFq9516 386 1 rfl).trans (hFq9505 386 1 rfl)))
      have es9542 : (yup mq9516 376 10 ((m 376 10) - 1)) 387 1 = m 387 1 := ((yup_na (by decide)).trans ((hFq9516 387 1 rfl).trans (hFq9505 387 1 rfl)))
      have es9543 : (yup mq9516 376 10 ((m 376 10) - 1)) 388 1 = m 388 1 := ((yup_na (by decide)).trans ((hFq9516 388 1 rfl).trans (hFq9505 388 1 rfl)))
      have es9544 : (yup mq9516 376 10 ((m 376 10) - 1)) 376 17 = m 376 17 := ((yup_nk (by decide)).trans ((hFq9516 376 17 rfl).trans (hFq9505 376 17 rfl)))
      have es9545 : (yup mq9516 376 10 ((m 376 10) - 1)) 384 1 = m 384 1 := ((yup_na (by decide)).trans ((hFq9516 384 1 rfl).trans (hFq9505 384 1 rfl)))
      have es9546 : (yup mq9516 376 10 ((m 376 10) - 1)) 376 10 = (m 376 10) - 1 := rfl
      have es9547 : (yup mq9516 376 10 ((m 376 10) - 1)) 376 9 = m 376 9 := ((yup_nk (by decide)).trans ((hFq9516 376 9 rfl).trans (hFq9505 376 9 rfl)))
      have em9548 : mu (yup mq9516 376 10 ((m 376 10) - 1)) = mu mq9505 := mu_fr ((yup_nk (by decide)).trans (hFq9516 376 1 rfl)) ((yup_nk (by decide)).trans (hFq9516 376 3 rfl)) ((yup_nk (by decide)).trans (hFq9516 376 6 rfl))
      have hon : ((v9511.toNat : Nat) : Int) = v9511 := by omega
      have hx1 : XS 1 mq9505 := hX.fw hFq9505 wNx_X
      have hwo : 9 ≤ mq9505 403 (1000 * 1 + 8 * v9511.toNat) ∧ mq9505 403 (1000 * 1 + 8 * v9511.toNat) ≤ 11 := by rw [hFq9505 403 _ rfl]; omega
      have q90 : mq9505 390 1 = _ := (hFq9505 390 1 rfl)
      have q10 : mq9505 376 10 = m 376 10 := (hFq9505 376 10 rfl)
      have q79 : mq9505 379 (mq9505 376 10 - 1).toNat = ((v9511.toNat : Nat) : Int) := by rw [q10, hon, ← gv9511_]; exact (hFq9505 379 _ rfl)
      have hx : XS 1 (yup mq9516 376 10 ((m 376 10) - 1)) := XS.cls hx1 (o := v9511.toNat) (by omega) hwo (by omega) (by omega) q79 ((yup_na (by decide)).trans hA1) (fun q hq => (yup_na (by decide)).trans (hA2 q hq)) (by omega) (fun a q ha h1 h2 => (yup_ne h2).trans (hFq9516 a q (wAi1_Z a q h1)))
      have hpd := PD.close (m := m) (m' := yup mq9516 376 10 ((m 376 10) - 1)) (by omega) (fun q hq => ((yup_na (by decide)).trans ((hFq9516 378 q rfl).trans (hFq9505 378 q rfl)))) (Or.inl (by omega))
      exact y_retU c129_134 ⟨rfl, hT9534, hF9535, by omega, by omega, Or.inr ⟨by omega, by omega, by omega, hx⟩⟩
    · refine y_aload 57 c129_56 rfl rfl rfl ?_
      have tb9549 := hTq9505.atp 376 3 0 3 rfl
      refine y_callP 60 [.ref 376] [] c129_57 rfl rfl rfl rfl rfl (ycanO km111 ko376) (t111 hTq9505) (fun r9550 hr9550 => ?_)
      refine y_if 119 63 c129_60 rfl rfl (yz_eq (by omega)) (fun hb9551 => ?_) (fun hb9551 => ?_)
      · refine y_aload 120 c129_119 rfl rfl rfl ?_
        refine y_iload 121 c129_120 rfl rfl ?_
        have es9553 : mq9505 376 1 = m 376 1 := (hFq9505 376 1 rfl)
        have tb9554 := hTq9505.atp 376 6 0 320 rfl
        have es9555 : mq9505 376 8 = m 376 8 := (hFq9505 376 8 rfl)
        have es9556 : mq9505 376 18 = m 376 18 := (hFq9505 376 18 rfl)
        have tb9557 := hT.atp 376 18 0 1 rfl
        have es9558 : mq9505 390 1 = m 390 1 := (hFq9505 390 1 rfl)
        have es9559 : mq9505 386 1 = m 386 1 := (hFq9505 386 1 rfl)
        have es9560 : mq9505 387 1 = m 387 1 := (hFq9505 387 1 rfl)
        have es9561 : mq9505 388 1 = m 388 1 := (hFq9505 388 1 rfl)
        have es9562 : mq9505 376 17 = m 376 17 := (hFq9505 376 17 rfl)
        have tb9563 := hT.atp 376 17 0 20 rfl
        have es9564 : mq9505 384 1 = m 384 1 := (hFq9505 384 1 rfl)
        have es9565 : mq9505 376 10 = m 376 10 := (hFq9505 376 10 rfl)
        have es9566 : mq9505 376 9 = m 376 9 := (hFq9505 376 9 rfl)
        have tb9567 := hT.atp 376 9 0 40 rfl
        refine y_callUB 124 [.ref 376, yI v9511] [] c129_121 rfl rfl rfl rfl rfl (ycanO km128 ko376) (t128_1 hTq9505 (by omega) (by omega) (by omega)) (fun mq9552 nq9552 hq9552 => ?_)
        obtain ⟨rfl, hTq9552, hFq9552, hA1, hA2⟩ := hq9552
        have x1q9552 : mq9552 376 1 = m 376 1 := ((hFq9552 376 1 rfl).trans (hFq9505 376 1 rfl))
        have hF9568 := hF9510.tr hFq9552 wAi1_wBd1
        refine y_aload 125 c129_124 rfl rfl rfl ?_
        refine y_dup 126 c129_125 rfl rfl ?_
        refine y_getX 129 (m 376 10) c129_126 rfl kf376_10 ((hFq9552 376 10 rfl).trans (hFq9505 376 10 rfl)) ?_
        refine y_iconst 130 c129_129 rfl ?_
        refine y_isub 131 c129_130 rfl ?_
        refine y_putI 134 c129_131 rfl kf376_10 (y_fit0 _) ?_
        have hT9569 := hTq9552.up 376 10 ((m 376 10) - 1) 0 3 rfl (by omega)
        have hF9570 := hF9568.up 376 10 ((m 376 10) - 1) rfl
        have es9571 : (yup mq9552 376 10 ((m 376 10) - 1)) 376 1 = m 376 1 := ((yup_nk (by decide)).trans ((hFq9552 376 1 rfl).trans (hFq9505 376 1 rfl)))
        have es9572 : (yup mq9552 376 10 ((m 376 10) - 1)) 376 3 = mq9505 376 3 := ((yup_nk (by decide)).trans (hFq9552 376 3 rfl))
        have es9573 : (yup mq9552 376 10 ((m 376 10) - 1)) 376 6 = mq9505 376 6 := ((yup_nk (by decide)).trans (hFq9552 376 6 rfl))
        have es9574 : (yup mq9552 376 10 ((m 376 10) - 1)) 376 8 = m 376 8 := ((yup_nk (by decide)).trans ((hFq9552 376 8 rfl).trans (hFq9505 376 8 rfl)))
        have es9575 : (yup mq9552 376 10 ((m 376 10) - 1)) 390 1 = m 390 1 := ((yup_na (by decide)).trans ((hFq9552 390 1 rfl).trans (hFq9505 390 1 rfl)))
        have es9576 : (yup mq9552 376 10 ((m 376 10) - 1)) 386 1 = m 386 1 := ((yup_na (by decide)).trans ((hFq9552 386 1 rfl).trans (hFq9505 386 1 rfl)))
        have es9577 : (yup mq9552 376 10 ((m 376 10) - 1)) 387 1 = m 387 1 := ((yup_na (by decide)).trans ((hFq9552 387 1 rfl).trans (hFq9505 387 1 rfl)))
        have es9578 : (yup mq9552 376 10 ((m 376 10) - 1)) 388 1 = m 388 1 := ((yup_na (by decide)).trans ((hFq9552 388 1 rfl).trans (hFq9505 388 1 rfl)))
        have es9579 : (yup mq9552 376 10 ((m 376 10) - 1)) 376 17 = m 376 17 := ((yup_nk (by decide)).trans ((hFq9552 376 17 rfl).trans (hFq9505 376 17 rfl)))
        have es9580 : (yup mq9552 376 10 ((m 376 10) - 1)) 384 1 = m 384 1 := ((yup_na (by decide)).trans ((hFq9552 384 1 rfl).trans (hFq9505 384 1 rfl)))
        have es9581 : (yup mq9552 376 10 ((m 376 10) - 1)) 376 10 = (m 376 10) - 1 := rfl
        have es9582 : (yup mq9552 376 10 ((m 376 10) - 1)) 376 9 = m 376 9 := ((yup_nk (by decide)).trans ((hFq9552 376 9 rfl).trans (hFq9505 376 9 rfl)))
        have em9583 : mu (yup mq9552 376 10 ((m 376 10) - 1)) = mu mq9505 := mu_fr ((yup_nk (by decide)).trans (hFq9552 376 1 rfl)) ((yup_nk (by decide)).trans (hFq9552 376 3 rfl)) ((yup_nk (by decide)).trans (hFq9552 376 6 rfl))
        have hon : ((v9511.toNat : Nat) : Int) = v9511 := by omega
        have hx1 : XS 1 mq9505 := hX.fw hFq9505 wNx_X
        have hwo : 9 ≤ mq9505 403 (1000 * 1 + 8 * v9511.toNat) ∧ mq9505 403 (1000 * 1 + 8 * v9511.toNat) ≤ 11 := by rw [hFq9505 403 _ rfl]; omega
        have q90 : mq9505 390 1 = _ := (hFq9505 390 1 rfl)
        have q10 : mq9505 376 10 = m 376 10 := (hFq9505 376 10 rfl)
        have q79 : mq9505 379 (mq9505 376 10 - 1).toNat = ((v9511.toNat : Nat) : Int) := by rw [q10, hon, ← gv9511_]; exact (hFq9505 379 _ rfl)
        have hx : XS 1 (yup mq9552 376 10 ((m 376 10) - 1)) := XS.cls hx1 (o := v9511.toNat) (by omega) hwo (by omega) (by omega) q79 ((yup_na (by decide)).trans hA1) (fun q hq => (yup_na (by decide)).trans (hA2 q hq)) (by omega) (fun a q ha h1 h2 => (yup_ne h2).trans (hFq9552 a q (wAi1_Z a q h1)))
        have hpd := PD.close (m := m) (m' := yup mq9552 376 10 ((m 376 10) - 1)) (by omega) (fun q hq => ((yup_na (by decide)).trans ((hFq9552 378 q rfl).trans (hFq9505 378 q rfl)))) (Or.inl (by omega))
        exact y_retU c129_134 ⟨rfl, hT9569, hF9570, by omega, by omega, Or.inr ⟨by omega, by omega, by omega, hx⟩⟩
      · refine y_aload 64 c129_63 rfl rfl rfl ?_
        have es9585 : mq9505 376 1 = m 376 1 := (hFq9505 376 1 rfl)
        have tb9586 := hTq9505.atp 376 6 0 320 rfl
        have es9587 : mq9505 376 8 = m 376 8 := (hFq9505 376 8 rfl)
        refine y_callUB 67 [.ref 376] [] c129_64 rfl rfl rfl rfl rfl (ycanO km99 ko376) (t99u hTq9505 (by omega)) (fun mq9584 nq9584 hq9584 => ?_)
        obtain ⟨rfl, hTq9584, hFq9584, hq9584⟩ := hq9584
        have x1q9584 : mq9584 376 1 = m 376 1 := ((hFq9584 376 1 rfl).trans (hFq9505 376 1 rfl))
        have hF9588 := hF9510.tr hFq9584 wNx_wBd1
        refine y_aload 68 c129_67 rfl rfl rfl ?_
        refine y_iconst 70 c129_68 rfl ?_
        refine y_iconst 71 c129_70 rfl ?_
        refine y_iconst 72 c129_71 rfl ?_
        refine y_iconst 73 c129_72 rfl ?_
        have es9590 : mq9584 376 1 = m 376 1 := ((hFq9584 376 1 rfl).trans (hFq9505 376 1 rfl))
        have tb9591 := hTq9584.atp 376 3 0 3 rfl
        have tb9592 := hTq9584.atp 376 6 0 320 rfl
        have es9593 : mq9584 376 8 = m 376 8 := ((hFq9584 376 8 rfl).trans (hFq9505 376 8 rfl))
        have es9594 : mq9584 376 18 = m 376 18 := ((hFq9584 376 18 rfl).trans (hFq9505 376 18 rfl))
        have tb9595 := hT.atp 376 18 0 1 rfl
        have es9596 : mq9584 390 1 = m 390 1 := ((hFq9584 390 1 rfl).trans (hFq9505 390 1 rfl))
        have es9597 : mq9584 386 1 = m 386 1 := ((hFq9584 386 1 rfl).trans (hFq9505 386 1 rfl))
        have es9598 : mq9584 387 1 = m 387 1 := ((hFq9584 387 1 rfl).trans (hFq9505 387 1 rfl))
        have es9599 : mq9584 388 1 = m 388 1 := ((hFq9584 388 1 rfl).trans (hFq9505 388 1 rfl))
        have es9600 : mq9584 376 17 = m 376 17 := ((hFq9584 376 17 rfl).trans (hFq9505 376 17 rfl))
        have tb9601 := hT.atp 376 17 0 20 rfl
        have es9602 : mq9584 384 1 = m 384 1 := ((hFq9584 384 1 rfl).trans (hFq9505 384 1 rfl))
        have es9603 : mq9584 376 10 = m 376 10 := ((hFq9584 376 10 rfl).trans (hFq9505 376 10 rfl))
        have es9604 : mq9584 376 9 = m 376 9 := ((hFq9584 376 9 rfl).trans (hFq9505 376 9 rfl))
        have tb9605 := hT.atp 376 9 0 40 rfl
        refine y_callIB 76 [.ref 376, yI 11, yI 0, yI 0, yI 0] [] c129_73 rfl rfl rfl rfl rfl (ycanO km127 ko376) (t127_1 hTq9584 (by omega) (by omega) (by omega) (by omega) (by omega) (by omega)) (fun rq9589 mq9589 nq9589 hq9589 => ?_)
        obtain ⟨rfl, hTq9589, hFq9589, hq9589, hE⟩ := hq9589
        unfold EM at hE
        rw [show mq9584 390 1 = m 390 1 from ((hFq9584 390 1 rfl).trans (hFq9505 390 1 rfl))] at hE
        obtain ⟨k1, k2, k3, k4, k5, k6, k7⟩ := hE
        have k8 : ∀ q, q < 1000 * 1 + 8 * (m 390 1).toNat ∨ 1000 * 1 + 8 * (m 390 1).toNat + 8 ≤ q → mq9589 403 q = m 403 q := fun q hq => (k7 q hq).trans (((hFq9584 403 q rfl).trans (hFq9505 403 q rfl)))
        have x1q9589 : mq9589 376 1 = m 376 1 := ((hFq9589 376 1 rfl).trans ((hFq9584 376 1 rfl).trans (hFq9505 376 1 rfl)))
        have hF9606 := hF9588.tr hFq9589 wEm1_wBd1
        refine y_istore 77 c129_76 rfl rfl ?_
        refine y_aload 78 c129_77 rfl rfl rfl ?_
        refine y_iload 79 c129_78 rfl rfl ?_
        have es9608 : mq9589 376 1 = m 376 1 := ((hFq9589 376 1 rfl).trans ((hFq9584 376 1 rfl).trans (hFq9505 376 1 rfl)))
        have es9609 : mq9589 376 3 = mq9584 376 3 := (hFq9589 376 3 rfl)
        have es9610 : mq9589 376 6 = mq9584 376 6 := (hFq9589 376 6 rfl)
        have es9611 : mq9589 376 8 = m 376 8 := ((hFq9589 376 8 rfl).trans ((hFq9584 376 8 rfl).trans (hFq9505 376 8 rfl)))
        have es9612 : mq9589 376 18 = m 376 18 := ((hFq9589 376 18 rfl).trans ((hFq9584 376 18 rfl).trans (hFq9505 376 18 rfl)))
        have tb9613 := hTq9589.atp 390 1 0 125 rfl
        have es9614 : mq9589 386 1 = m 386 1 := ((hFq9589 386 1 rfl).trans ((hFq9584 386 1 rfl).trans (hFq9505 386 1 rfl)))
        have es9615 : mq9589 387 1 = m 387 1 := ((hFq9589 387 1 rfl).trans ((hFq9584 387 1 rfl).trans (hFq9505 387 1 rfl)))
        have es9616 : mq9589 388 1 = m 388 1 := ((hFq9589 388 1 rfl).trans ((hFq9584 388 1 rfl).trans (hFq9505 388 1 rfl)))
        have es9617 : mq9589 376 17 = m 376 17 := ((hFq9589 376 17 rfl).trans ((hFq9584 376 17 rfl).trans (hFq9505 376 17 rfl)))
        have es9618 : mq9589 384 1 = m 384 1 := ((hFq9589 384 1 rfl).trans ((hFq9584 384 1 rfl).trans (hFq9505 384 1 rfl)))
        have es9619 : mq9589 376 10 = m 376 10 := ((hFq9589 376 10 rfl).trans ((hFq9584 376 10 rfl).trans (hFq9505 376 10 rfl)))
        have es9620 : mq9589 376 9 = m 376 9 := ((hFq9589 376 9 rfl).trans ((hFq9584 376 9 rfl).trans (hFq9505 376 9 rfl)))
        have em9621 : mu mq9589 = mu mq9584 := mu_fr (hFq9589 376 1 rfl) (hFq9589 376 3 rfl) (hFq9589 376 6 rfl)
        refine y_callUB 82 [.ref 376, yI v9511] [] c129_79 rfl rfl rfl rfl rfl (ycanO km128 ko376) (t128_1 hTq9589 (by omega) (by omega) (by omega)) (fun mq9607 nq9607 hq9607 => ?_)
        obtain ⟨rfl, hTq9607, hFq9607, hA1, hA2⟩ := hq9607
        have x1q9607 : mq9607 376 1 = m 376 1 := ((hFq9607 376 1 rfl).trans ((hFq9589 376 1 rfl).trans ((hFq9584 376 1 rfl).trans (hFq9505 376 1 rfl))))
        have hF9622 := hF9606.tr hFq9607 wAi1_wBd1
        refine y_aload 83 c129_82 rfl rfl rfl ?_
        refine y_getR 86 c129_83 rfl kf376_11 ?_
        refine y_aload 87 c129_86 rfl rfl rfl ?_
        refine y_getX 90 (m 376 10) c129_87 rfl kf376_10 ((hFq9607 376 10 rfl).trans ((hFq9589 376 10 rfl).trans ((hFq9584 376 10 rfl).trans (hFq9505 376 10 rfl)))) ?_
        refine y_iconst 91 c129_90 rfl ?_
        refine y_isub 92 c129_91 rfl ?_
        refine y_iconst 93 c129_92 rfl ?_
        refine y_iastore 94 c129_93 rfl ka378 (by omega) (y_nar0 _) ?_
        have hT9623 := hTq9607.up 378 (((m 376 10) - 1).toNat) 2 0 3 rfl (by omega)
        have hF9624 := hF9622.up 378 (((m 376 10) - 1).toNat) 2 rfl
        refine y_aload 95 c129_94 rfl rfl rfl ?_
        refine y_getR 98 c129_95 rfl kf376_12 ?_
        refine y_aload 99 c129_98 rfl rfl rfl ?_
        refine y_getX 102 (m 376 10) c129_99 rfl kf376_10 ((yup_na (by decide)).trans ((hFq9607 376 10 rfl).trans ((hFq9589 376 10 rfl).trans ((hFq9584 376 10 rfl).trans (hFq9505 376 10 rfl))))) ?_
        refine y_iconst 103 c129_102 rfl ?_
        refine y_isub 104 c129_103 rfl ?_
        refine y_iload 105 c129_104 rfl rfl ?_
        refine y_iastore 106 c129_105 rfl ka379 (by omega) (y_nar0 _) ?_
        have hT9625 := hT9623.up 379 (((m 376 10) - 1).toNat) rq9589 0 124 rfl (by omega)
        have hF9626 := hF9624.up 379 (((m 376 10) - 1).toNat) rq9589 rfl
        refine y_aload 107 c129_106 rfl rfl rfl ?_
        refine y_iconst 109 c129_107 rfl ?_
        have es9628 : (yup (yup mq9607 378 (((m 376 10) - 1).toNat) 2) 379 (((m 376 10) - 1).toNat) rq9589) 376 1 = m 376 1 := ((yup_na (by decide)).trans ((yup_na (by decide)).trans ((hFq9607 376 1 rfl).trans ((hFq9589 376 1 rfl).trans ((hFq9584 376 1 rfl).trans (hFq9505 376 1 rfl))))))
        have es9629 : (yup (yup mq9607 378 (((m 376 10) - 1).toNat) 2) 379 (((m 376 10) - 1).toNat) rq9589) 376 3 = mq9584 376 3 := ((yup_na (by decide)).trans ((yup_na (by decide)).trans ((hFq9607 376 3 rfl).trans (hFq9589 376 3 rfl))))
        have es9630 : (yup (yup mq9607 378 (((m 376 10) - 1).toNat) 2) 379 (((m 376 10) - 1).toNat) rq9589) 376 6 = mq9584 376 6 := ((yup_na (by decide)).trans ((yup_na (by decide)).trans ((hFq9607 376 6 rfl).trans (hFq9589 376 6 rfl))))
        have es9631 : (yup (yup mq9607 378 (((m 376 10) - 1).toNat) 2) 379 (((m 376 10) - 1).toNat) rq9589) 376 8 = m 376 8 := ((yup_na (by decide)).trans ((yup_na (by decide)).trans ((hFq9607 376 8 rfl).trans ((hFq9589 376 8 rfl).trans ((hFq9584 376 8 rfl).trans (hFq9505 376 8 rfl))))))
        have em9632 : mu (yup (yup mq9607 378 (((m 376 10) - 1).toNat) 2) 379 (((m 376 10) - 1).toNat) rq9589) = mu mq9584 := mu_fr ((yup_na (by decide)).trans ((yup_na (by decide)).trans ((hFq9607 376 1 rfl).trans (hFq9589 376 1 rfl)))) ((yup_na (by decide)).trans ((yup_na (by decide)).trans ((hFq9607 376 3 rfl).trans (hFq9589 376 3 rfl)))) ((yup_na (by decide)).trans ((yup_na (by decide)).trans ((hFq9607 376 6 rfl).trans (hFq9589 376 6 rfl))))
        refine y_callIB 112 [.ref 376, yI 123] [] c129_109 rfl rfl rfl rfl rfl (ycanO km118 ko376) (t118 hT9625 (by omega) (by omega)) (fun rq9627 mq9627 nq9627 hq9627 => ?_)
        obtain ⟨rfl, hTq9627, hFq9627, hq9627⟩ := hq9627
        have x1q9627 : mq9627 376 1 = m 376 1 := ((hFq9627 376 1 rfl).trans ((yup_na (by decide)).trans ((yup_na (by decide)).trans ((hFq9607 376 1 rfl).trans ((hFq9589 376 1 rfl).trans ((hFq9584 376 1 rfl).trans (hFq9505 376 1 rfl)))))))
        have hF9633 := hF9626.tr hFq9627 wNw_wBd1
        refine y_if 116 115 c129_112 rfl rfl (yz_ne (by omega)) (fun hb9634 => ?_) (fun hb9634 => ?_)
        · refine y_goto 134 c129_116 rfl ?_
          have es9635 : mq9627 376 1 = m 376 1 := ((hFq9627 376 1 rfl).trans ((yup_na (by decide)).trans ((yup_na (by decide)).trans ((hFq9607 376 1 rfl).trans ((hFq9589 376 1 rfl).trans ((hFq9584 376 1 rfl).trans (hFq9505 376 1 rfl)))))))
          have tb9636 := hTq9627.atp 376 3 0 3 rfl
          have tb9637 := hTq9627.atp 376 6 0 320 rfl
          have tb9638 := hTq9627.atp 376 8 ((-1)) 320 rfl
          have es9639 : mq9627 390 1 = mq9589 390 1 := ((hFq9627 390 1 rfl).trans ((yup_na (by decide)).trans ((yup_na (by decide)).trans (hFq9607 390 1 rfl))))
          have es9640 : mq9627 386 1 = m 386 1 := ((hFq9627 386 1 rfl).trans ((yup_na (by decide)).trans ((yup_na (by decide)).trans ((hFq9607 386 1 rfl).trans ((hFq9589 386 1 rfl).trans ((hFq9584 386 1 rfl).trans (hFq9505 386 1 rfl)))))))
          have es9641 : mq9627 387 1 = m 387 1 := ((hFq9627 387 1 rfl).trans ((yup_na (by decide)).trans ((yup_na (by decide)).trans ((hFq9607 387 1 rfl).trans ((hFq9589 387 1 rfl).trans ((hFq9584 387 1 rfl).trans (hFq9505 387 1 rfl)))))))
          have es9642 : mq9627 388 1 = m 388 1 := ((hFq9627 388 1 rfl).trans ((yup_na (by decide)).trans ((yup_na (by decide)).trans ((hFq9607 388 1 rfl).trans ((hFq9589 388 1 rfl).trans ((hFq9584 388 1 rfl).trans (hFq9505 388 1 rfl)))))))
          have es9643 : mq9627 376 17 = m 376 17 := ((hFq9627 376 17 rfl).trans ((yup_na (by decide)).trans ((yup_na (by decide)).trans ((hFq9607 376 17 rfl).trans ((hFq9589 376 17 rfl).trans ((hFq9584 376 17 rfl).trans (hFq9505 376 17 rfl)))))))
          have es9644 : mq9627 384 1 = m 384 1 := ((hFq9627 384 1 rfl).trans ((yup_na (by decide)).trans ((yup_na (by decide)).trans ((hFq9607 384 1 rfl).trans ((hFq9589 384 1 rfl).trans ((hFq9584 384 1 rfl).trans (hFq9505 384 1 rfl)))))))
          have es9645 : mq9627 376 10 = m 376 10 := ((hFq9627 376 10 rfl).trans ((yup_na (by decide)).trans ((yup_na (by decide)).trans ((hFq9607 376 10 rfl).trans ((hFq9589 376 10 rfl).trans ((hFq9584 376 10 rfl).trans (hFq9505 376 10 rfl)))))))
          have es9646 : mq9627 376 9 = m 376 9 := ((hFq9627 376 9 rfl).trans ((yup_na (by decide)).trans ((yup_na (by decide)).trans ((hFq9607 376 9 rfl).trans ((hFq9589 376 9 rfl).trans ((hFq9584 376 9 rfl).trans (hFq9505 376 9 rfl)))))))
          have hon : ((v9511.toNat : Nat) : Int) = v9511 := by omega
          have hw : OW mq9589 (1000 * 1 + 8 * (m 390 1).toNat) := by unfold OW; omega
          have hx0 : XS 1 mq9584 := ((hX.fw hFq9505 wNx_X).fw hFq9584 wNx_X)
          have q90 : mq9584 390 1 = m 390 1 := ((hFq9584 390 1 rfl).trans (hFq9505 390 1 rfl))
          have q10 : mq9584 376 10 = m 376 10 := ((hFq9584 376 10 rfl).trans (hFq9505 376 10 rfl))
          have qo : mq9584 403 (1000 * 1 + 8 * v9511.toNat) = 9 := (((hFq9584 403 _ rfl).trans (hFq9505 403 _ rfl))).trans (by omega)
          have q78 : mq9584 378 (m 376 10 - 1).toNat = 1 := (((hFq9584 378 _ rfl).trans (hFq9505 378 _ rfl))).trans (by omega)
          have c90 : mq9589 390 1 = m 390 1 + 1 := by omega
          have hx2 : XS 1 (yup (yup mq9607 378 (((m 376 10) - 1).toNat) 2) 379 (((m 376 10) - 1).toNat) rq9589) := by
            refine XS.els (o := v9511.toNat) (m1 := mq9589) (m2 := mq9607) hx0 (by omega) (by omega) qo (by omega) (by rw [q10]; exact q78) ?_ (by rw [q90]; exact hw) (by rw [q90]; exact k2) (by rw [q90]; exact k5) (by rw [q90, hA1]; exact c90) hA2 (fun q => (yup_na (by decide)).trans (yup_na (by decide))) ?_ ?_ ?_ ?_ ?_ ?_ ?_ ?_
            · rw [q90]; exact k7
            · rw [q90, show (yup (yup mq9607 378 (((m 376 10) - 1).toNat) 2) 379 (((m 376 10) - 1).toNat) rq9589) 390 1 = mq9589 390 1 from ((yup_na (by decide)).trans ((yup_na (by decide)).trans (hFq9607 390 1 rfl)))]; exact c90
            · rw [q10]; exact ((yup_na (by decide)).trans ((yup_na (by decide)).trans ((hFq9607 376 10 rfl).trans ((hFq9589 376 10 rfl).trans ((hFq9584 376 10 rfl).trans (hFq9505 376 10 rfl))))))
            · rw [q10]; exact ((yup_na (by decide)).trans (yup_eq _ _ _ _))
            · rw [q10, q90, show (yup (yup mq9607 378 (((m 376 10) - 1).toNat) 2) 379 (((m 376 10) - 1).toNat) rq9589) 379 (m 376 10 - 1).toNat = rq9589 from (yup_eq _ _ _ _)]; omega
            · rw [q10]; intro q hq; exact (((yup_na (by decide)).trans ((yup_nk (by omega)).trans ((hFq9607 378 q rfl).trans ((hFq9589 378 q rfl).trans ((hFq9584 378 q rfl).trans (hFq9505 378 q rfl))))))).trans (((hFq9584 378 q rfl).trans (hFq9505 378 q rfl))).symm
            · rw [q10]; intro q hq; exact (((yup_nk (by omega)).trans ((yup_na (by decide)).trans ((hFq9607 379 q rfl).trans ((hFq9589 379 q rfl).trans ((hFq9584 379 q rfl).trans (hFq9505 379 q rfl))))))).trans (((hFq9584 379 q rfl).trans (hFq9505 379 q rfl))).symm
            · intro a q ha h1 h2 h3 h4 h5; exact (yup_na h4).trans ((yup_na h3).trans ((hFq9607 a q (wAi1_Z a q h1)).trans (hFq9589 a q (wEm1_Z a q h1 h5))))
            · exact ((yup_na (by decide)).trans ((yup_na (by decide)).trans ((hFq9607 376 17 rfl).trans (hFq9589 376 17 rfl))))
          have hx : XS 1 mq9627 := hx2.fw hFq9627 wNw_X
          have hpd := PD.close (m := m) (m' := mq9627) (by omega) (fun q hq => ((hFq9627 378 q rfl).trans ((yup_na (by decide)).trans ((yup_nk (by omega)).trans ((hFq9607 378 q rfl).trans ((hFq9589 378 q rfl).trans ((hFq9584 378 q rfl).trans (hFq9505 378 q rfl)))))))) (Or.inr ⟨by omega, ((hFq9627 378 _ rfl).trans ((yup_na (by decide)).trans (yup_eq _ _ _ _)))⟩)
          exact y_retU c129_134 ⟨rfl, hTq9627, hF9633, by omega, by omega, by first | exact Or.inl (by omega) | exact Or.inr ⟨by omega, by omega, by omega, hx⟩⟩
        · have es9647 : mq9627 376 1 = m 376 1 := ((hFq9627 376 1 rfl).trans ((yup_na (by decide)).trans ((yup_na (by decide)).trans ((hFq9607 376 1 rfl).trans ((hFq9589 376 1 rfl).trans ((hFq9584 376 1 rfl).trans (hFq9505 376 1 rfl)))))))
          have tb9648 := hTq9627.atp 376 3 0 3 rfl
          have tb9649 := hTq9627.atp 376 6 0 320 rfl
          have tb9650 := hTq9627.atp 376 8 ((-1)) 320 rfl
          have es9651 : mq9627 390 1 = mq9589 390 1 := ((hFq9627 390 1 rfl).trans ((yup_na (by decide)).trans ((yup_na (by decide)).trans (hFq9607 390 1 rfl))))
          have es9652 : mq9627 386 1 = m 386 1 := ((hFq9627 386 1 rfl).trans ((yup_na (by decide)).trans ((yup_na (by decide)).trans ((hFq9607 386 1 rfl).trans ((hFq9589 386 1 rfl).trans ((hFq9584 386 1 rfl).trans (hFq9505 386 1 rfl)))))))
          have es9653 : mq9627 387 1 = m 387 1 := ((hFq9627 387 1 rfl).trans ((yup_na (by decide)).trans ((yup_na (by decide)).trans ((hFq9607 387 1 rfl).trans ((hFq9589 387 1 rfl).trans ((hFq9584 387 1 rfl).trans (hFq9505 387 1 rfl)))))))
          have es9654 : mq9627 388 1 = m 388 1 := ((hFq9627 388 1 rfl).trans ((yup_na (by decide)).trans ((yup_na (by decide)).trans ((hFq9607 388 1 rfl).trans ((hFq9589 388 1 rfl).trans ((hFq9584 388 1 rfl).trans (hFq9505 388 1 rfl)))))))
          have es9655 : mq9627 376 17 = m 376 17 := ((hFq9627 376 17 rfl).trans ((yup_na (by decide)).trans ((yup_na (by decide)).trans ((hFq9607 376 17 rfl).trans ((hFq9589 376 17 rfl).trans ((hFq9584 376 17 rfl).trans (hFq9505 376 17 rfl)))))))
          have es9656 : mq9627 384 1 = m 384 1 := ((hFq9627 384 1 rfl).trans ((yup_na (by decide)).trans ((yup_na (by decide)).trans ((hFq9607 384 1 rfl).trans ((hFq9589 384 1 rfl).trans ((hFq9584 384 1 rfl).trans (hFq9505 384 1 rfl)))))))
          have es9657 : mq9627 376 10 = m 376 10 := ((hFq9627 376 10 rfl).trans ((yup_na (by decide)).trans ((yup_na (by decide)).trans ((hFq9607 376 10 rfl).trans ((hFq9589 376 10 rfl).trans ((hFq9584 376 10 rfl).trans (hFq9505 376 10 rfl)))))))
          have es9658 : mq9627 376 9 = m 376 9 := ((hFq9627 376 9 rfl).trans ((yup_na (by decide)).trans ((yup_na (by decide)).trans ((hFq9607 376 9 rfl).trans ((hFq9589 376 9 rfl).trans ((hFq9584 376 9 rfl).trans (hFq9505 376 9 rfl)))))))
          have hon : ((v9511.toNat : Nat) : Int) = v9511 := by omega
          exact y_retU c129_115 ⟨rfl, hTq9627, hF9633, by omega, by omega, Or.inl (by omega)⟩
  · refine y_aload 32 c129_31 rfl rfl rfl ?_
    refine y_iconst 34 c129_32 rfl ?_
    refine y_iconst 35 c129_34 rfl ?_
    refine y_iload 36 c129_35 rfl rfl ?_
    refine y_iconst 37 c129_36 rfl ?_
    have es9660 : mq9505 376 1 = m 376 1 := (hFq9505 376 1 rfl)
    have tb9661 := hTq9505.atp 376 3 0 3 rfl
    have tb9662 := hTq9505.atp 376 6 0 320 rfl
    have es9663 : mq9505 376 8 = m 376 8 := (hFq9505 376 8 rfl)
    have es9664 : mq9505 376 18 = m 376 18 := (hFq9505 376 18 rfl)
    have tb9665 := hT.atp 376 18 0 1 rfl
    have es9666 : mq9505 390 1 = m 390 1 := (hFq9505 390 1 rfl)
    have es9667 : mq9505 386 1 = m 386 1 := (hFq9505 386 1 rfl)
    have es9668 : mq9505 387 1 = m 387 1 := (hFq9505 387 1 rfl)
    have es9669 : mq9505 388 1 = m 388 1 := (hFq9505 388 1 rfl)
    have es9670 : mq9505 376 17 = m 376 17 := (hFq9505 376 17 rfl)
    have tb9671 := hT.atp 376 17 0 20 rfl
    have es9672 : mq9505 384 1 = m 384 1 := (hFq9505 384 1 rfl)
    have es9673 : mq9505 376 10 = m 376 10 := (hFq9505 376 10 rfl)
    have es9674 : mq9505 376 9 = m 376 9 := (hFq9505 376 9 rfl)
    have tb9675 := hT.atp 376 9 0 40 rfl
    refine y_callIB 40 [.ref 376, yI 11, yI 0, yI v9511, yI 0] [] c129_37 rfl rfl rfl rfl rfl (ycanO km127 ko376) (t127_1 hTq9505 (by omega) (by omega) (by omega) (by omega) (by omega) (by omega)) (fun rq9659 mq9659 nq9659 hq9659 => ?_)
    obtain ⟨rfl, hTq9659, hFq9659, hq9659, hE⟩ := hq9659
    unfold EM at hE
    rw [show mq9505 390 1 = m 390 1 from (hFq9505 390 1 rfl)] at hE
    obtain ⟨k1, k2, k3, k4, k5, k6, k7⟩ := hE
    have k8 : ∀ q, q < 1000 * 1 + 8 * (m 390 1).toNat ∨ 1000 * 1 + 8 * (m 390 1).toNat + 8 ≤ q → mq9659 403 q = m 403 q := fun q hq => (k7 q hq).trans ((hFq9505 403 q rfl))
    have x1q9659 : mq9659 376 1 = m 376 1 := ((hFq9659 376 1 rfl).trans (hFq9505 376 1 rfl))
    have hF9676 := hF9510.tr hFq9659 wEm1_wBd1
    refine y_istore 41 c129_40 rfl rfl ?_
    refine y_aload 42 c129_41 rfl rfl rfl ?_
    refine y_getR 45 c129_42 rfl kf376_11 ?_
    refine y_aload 46 c129_45 rfl rfl rfl ?_
    refine y_getX 49 (m 376 10) c129_46 rfl kf376_10 ((hFq9659 376 10 rfl).trans (hFq9505 376 10 rfl)) ?_
    refine y_iconst 50 c129_49 rfl ?_
    refine y_isub 51 c129_50 rfl ?_
    refine y_iaT 52 0 3 c129_51 rfl ka378 (by omega) hTq9659 rfl (fun v9677 hv9677 gv9677 => ?_)
    have gv9677_ : m 378 ((m 376 10) - 1).toNat = v9677 := (((hFq9659 378 _ rfl).trans (hFq9505 378 _ rfl))).symm.trans hv9677
    refine y_iconst 53 c129_52 rfl ?_
    refine y_icmp 119 56 c129_53 rfl rfl (yc_ne (by omega) (by omega)) (fun hb9678 => ?_) (fun hb9678 => ?_)
    · refine y_aload 120 c129_119 rfl rfl rfl ?_
      refine y_iload 121 c129_120 rfl rfl ?_
      have es9680 : mq9659 376 1 = m 376 1 := ((hFq9659 376 1 rfl).trans (hFq9505 376 1 rfl))
      have es9681 : mq9659 376 3 = mq9505 376 3 := (hFq9659 376 3 rfl)
      have es9682 : mq9659 376 6 = mq9505 376 6 := (hFq9659 376 6 rfl)
      have es9683 : mq9659 376 8 = m 376 8 := ((hFq9659 376 8 rfl).trans (hFq9505 376 8 rfl))
      have es9684 : mq9659 376 18 = m 376 18 := ((hFq9659 376 18 rfl).trans (hFq9505 376 18 rfl))
      have tb9685 := hTq9659.atp 390 1 0 125 rfl
      have es9686 : mq9659 386 1 = m 386 1 := ((hFq9659 386 1 rfl).trans (hFq9505 386 1 rfl))
      have es9687 : mq9659 387 1 = m 387 1 := ((hFq9659 387 1 rfl).trans (hFq9505 387 1 rfl))
      have es9688 : mq9659 388 1 = m 388 1 := ((hFq9659 388 1 rfl).trans (hFq9505 388 1 rfl))
      have es9689 : mq9659 376 17 = m 376 17 := ((hFq9659 376 17 rfl).trans (hFq9505 376 17 rfl))
      have es9690 : mq9659 384 1 = m 384 1 := ((hFq9659 384 1 rfl).trans (hFq9505 384 1 rfl))
      have es9691 : mq9659 376 10 = m 376 10 := ((hFq9659 376 10 rfl).trans (hFq9505 376 10 rfl))
      have es9692 : mq9659 376 9 = m 376 9 := ((hFq9659 376 9 rfl).trans (hFq9505 376 9 rfl))
      have em9693 : mu mq9659 = mu mq9505 := mu_fr (hFq9659 376 1 rfl) (hFq9659 376 3 rfl) (hFq9659 376 6 rfl)
      refine y_callUB 124 [.ref 376, yI v9511] [] c129_121 rfl rfl rfl rfl rfl (ycanO km128 ko376) (t128_1 hTq9659 (by omega) (by omega) (by omega)) (fun mq9679 nq9679 hq9679 => ?_)
      obtain ⟨rfl, hTq9679, hFq9679, hA1, hA2⟩ := hq9679
      have x1q9679 : mq9679 376 1 = m 376 1 := ((hFq9679 376 1 rfl).trans ((hFq9659 376 1 rfl).trans (hFq9505 376 1 rfl)))
      have hF9694 := hF9676.tr hFq9679 wAi1_wBd1
      refine y_aload 125 c129_124 rfl rfl rfl ?_
      refine y_dup 126 c129_125 rfl rfl ?_
      refine y_getX 129 (m 376 10) c129_126 rfl kf376_10 ((hFq9679 376 10 rfl).trans ((hFq9659 376 10 rfl).trans (hFq9505 376 10 rfl))) ?_
      refine y_iconst 130 c129_129 rfl ?_
      refine y_isub 131 c129_130 rfl ?_
      refine y_putI 134 c129_131 rfl kf376_10 (y_fit0 _) ?_
      have hT9695 := hTq9679.up 376 10 ((m 376 10) - 1) 0 3 rfl (by omega)
      have hF9696 := hF9694.up 376 10 ((m 376 10) - 1) rfl
      have es9697 : (yup mq9679 376 10 ((m 376 10) - 1)) 376 1 = m 376 1 := ((yup_nk (by decide)).trans ((hFq9679 376 1 rfl).trans ((hFq9659 376 1 rfl).trans (hFq9505 376 1 rfl))))
      have es9698 : (yup mq9679 376 10 ((m 376 10) - 1)) 376 3 = mq9505 376 3 := ((yup_nk (by decide)).trans ((hFq9679 376 3 rfl).trans (hFq9659 376 3 rfl)))
      have es9699 : (yup mq9679 376 10 ((m 376 10) - 1)) 376 6 = mq9505 376 6 := ((yup_nk (by decide)).trans ((hFq9679 376 6 rfl).trans (hFq9659 376 6 rfl)))
      have es9700 : (yup mq9679 376 10 ((m 376 10) - 1)) 376 8 = m 376 8 := ((yup_nk (by decide)).trans ((hFq9679 376 8 rfl).trans ((hFq9659 376 8 rfl).trans (hFq9505 376 8 rfl))))
      have es9701 : (yup mq9679 376 10 ((m 376 10) - 1)) 390 1 = mq9659 390 1 := ((yup_na (by decide)).trans (hFq9679 390 1 rfl))
      have es9702 : (yup mq9679 376 10 ((m 376 10) - 1)) 386 1 = m 386 1 := ((yup_na (by decide)).trans ((hFq9679 386 1 rfl).trans ((hFq9659 386 1 rfl).trans (hFq9505 386 1 rfl))))
      have es9703 : (yup mq9679 376 10 ((m 376 10) - 1)) 387 1 = m 387 1 := ((yup_na (by decide)).trans ((hFq9679 387 1 rfl).trans ((hFq9659 387 1 rfl).trans (hFq9505 387 1 rfl))))
      have es9704 : (yup mq9679 376 10 ((m 376 10) - 1)) 388 1 = m 388 1 := ((yup_na (by decide)).trans ((hFq9679 388 1 rfl).trans ((hFq9659 388 1 rfl).trans (hFq9505 388 1 rfl))))
      have es9705 : (yup mq9679 376 10 ((m 376 10) - 1)) 376 17 = m 376 17 := ((yup_nk (by decide)).trans ((hFq9679 376 17 rfl).trans ((hFq9659 376 17 rfl).trans (hFq9505 376 17 rfl))))
      have es9706 : (yup mq9679 376 10 ((m 376 10) - 1)) 384 1 = m 384 1 := ((yup_na (by decide)).trans ((hFq9679 384 1 rfl).trans ((hFq9659 384 1 rfl).trans (hFq9505 384 1 rfl))))
      have es9707 : (yup mq9679 376 10 ((m 376 10) - 1)) 376 10 = (m 376 10) - 1 := rfl
      have es9708 : (yup mq9679 376 10 ((m 376 10) - 1)) 376 9 = m 376 9 := ((yup_nk (by decide)).trans ((hFq9679 376 9 rfl).trans ((hFq9659 376 9 rfl).trans (hFq9505 376 9 rfl))))
      have em9709 : mu (yup mq9679 376 10 ((m 376 10) - 1)) = mu mq9505 := mu_fr ((yup_nk (by decide)).trans ((hFq9679 376 1 rfl).trans (hFq9659 376 1 rfl))) ((yup_nk (by decide)).trans ((hFq9679 376 3 rfl).trans (hFq9659 376 3 rfl))) ((yup_nk (by decide)).trans ((hFq9679 376 6 rfl).trans (hFq9659 376 6 rfl)))
      have hon : ((v9511.toNat : Nat) : Int) = v9511 := by omega
      have hw : OW mq9659 (1000 * 1 + 8 * (m 390 1).toNat) := by unfold OW; omega
      have hjk : JK 1 mq9659 (m 390 1).toNat := by right; rw [k5, k8 _ (by omega)]; omega
      have hsc := hX.2.2.2.2.2
      have hCV := hX.2.2.2.2.2.2.2.1
      have s386 : mq9659 386 1 = m 386 1 := (hFq9659 386 1 rfl).trans ((hFq9505 386 1 rfl))
      have s387 : mq9659 387 1 = m 387 1 := (hFq9659 387 1 rfl).trans ((hFq9505 387 1 rfl))
      have s388 : mq9659 388 1 = m 388 1 := (hFq9659 388 1 rfl).trans ((hFq9505 388 1 rfl))
      have s17 : mq9659 376 17 = m 376 17 := (hFq9659 376 17 rfl).trans ((hFq9505 376 17 rfl))
      have hx1 : XS 1 mq9659 := XS.add hX (by omega) (fun a q ha => (hFq9659 a q (wEm1_Y1 a q ha)).trans (hFq9505 a q (wNx_Y1 a q ha))) k8 hw (by omega) (fun _ => hjk) (by omega) (by omega) (by omega) (by omega) (by omega) (fun c hc => by rw [show mq9659 401 (8 * 1 + c) = m 401 (8 * 1 + c) from (hFq9659 401 _ rfl).trans (hFq9505 401 _ rfl)]; exact hCV c (by omega)) (by omega) (by omega)
      have hwo : 9 ≤ mq9659 403 (1000 * 1 + 8 * v9511.toNat) ∧ mq9659 403 (1000 * 1 + 8 * v9511.toNat) ≤ 11 := by rw [k8 _ (by omega)]; omega
      have q90 : mq9659 390 1 = _ := rfl
      have q10 : mq9659 376 10 = m 376 10 := ((hFq9659 376 10 rfl).trans (hFq9505 376 10 rfl))
      have q79 : mq9659 379 (mq9659 376 10 - 1).toNat = ((v9511.toNat : Nat) : Int) := by rw [q10, hon, ← gv9511_]; exact ((hFq9659 379 _ rfl).trans (hFq9505 379 _ rfl))
      have hx : XS 1 (yup mq9679 376 10 ((m 376 10) - 1)) := XS.cls hx1 (o := v9511.toNat) (by omega) hwo (by omega) (by omega) q79 ((yup_na (by decide)).trans hA1) (fun q hq => (yup_na (by decide)).trans (hA2 q hq)) (by omega) (fun a q ha h1 h2 => (yup_ne h2).trans (hFq9679 a q (wAi1_Z a q h1)))
      have hpd := PD.close (m := m) (m' := yup mq9679 376 10 ((m 376 10) - 1)) (by omega) (fun q hq => ((yup_na (by decide)).trans ((hFq9679 378 q rfl).trans ((hFq9659 378 q rfl).trans (hFq9505 378 q rfl))))) (Or.inl (by omega))
      exact y_retU c129_134 ⟨rfl, hT9695, hF9696, by omega, by omega, Or.inr ⟨by omega, by omega, by omega, hx⟩⟩
    · exfalso; omega
