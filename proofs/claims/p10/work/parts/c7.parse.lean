/-! CONTRACTS: resolve, parse. Printed by wip/whole/gen91.py -/
def wRs316 (a q : Nat) : Bool := (a == 316 && q == 17) || a == 324 || (decide (336 ≤ a ∧ a < 376) && (q == 6 || q == 7))
theorem wRs316_6 {k : Nat} (h : k < 40) : wRs316 (336 + k) 6 = true := by
  simp [wRs316]
  omega
theorem wRs316_7 {k : Nat} (h : k < 40) : wRs316 (336 + k) 7 = true := by
  simp [wRs316]
  omega
set_option maxRecDepth 100000 in
theorem t73a_316 {L : Nat} {xs : Nat → Int32} {d nn : Nat} {m : yM} (hT : Ty gT m) : ∀ (k : Nat) (i : Int) (x2 : Option Value) (mi : yM), m 316 16 - i = k → 0 ≤ i ∧ i ≤ m 316 16 → Ty gT mi → Fr wRs316 m mi → RG 336 325 mi 0 (m 316 16) 0 (m 316 12) 0 (m 316 13) → NL 336 mi 0 i → YW (gZ L xs) 73 (d + 7) 2 [some (.ref 316), some (yI i), x2] [] mi nn (qI (fun r m' n' => n' = nn ∧ Ty gT m' ∧ Fr wRs316 m m' ∧ (-1 ≤ r ∧ r ≤ 320) ∧ (r = -1 → RG 336 325 m' 0 (m 316 16) 0 (m 316 12) 0 (m 316 13) ∧ NL 336 m' 0 (m 316 16) ∧ m' 316 17 < m 316 10))) := by
  intro k
  induction k using Nat.strongRecOn with
  | ind k ih =>
    intro i x2 mi hk hi hTi hFi hR hN
    have tb16 := hT.atp 316 16 0 40 rfl
    refine y_iload 3 c73_2 rfl rfl ?_
    refine y_aload 4 c73_3 rfl rfl rfl ?_
    refine y_getX 7 (m 316 16) c73_4 rfl kf316_16 (hFi 316 16 rfl) ?_
    refine y_icmp 118 10 c73_7 rfl rfl (yc_ge (by omega) (by omega)) (fun hb4160 => ?_) (fun hb4160 => ?_)
    · have es4161 : mi 316 10 = m 316 10 := (hFi 316 10 rfl)
      have tb4162 := hT.atp 316 10 0 10 rfl
      refine y_aload 119 c73_118 rfl rfl rfl ?_
      refine y_aload 120 c73_119 rfl rfl rfl ?_
      refine y_iconst 121 c73_120 rfl ?_
      refine y_ldc 123 c73_121 rfl (show 10 < gLit.length by decide) ?_
      refine y_callP 126 [.retAddr 21] [yI 0, .ref 316, .ref 316] c73_123 rfl rfl rfl rfl rfl (ycanS km8) t8_go (fun r4163 hr4163 => ?_)
      refine y_iconst 127 c73_126 rfl ?_
      refine y_callP 130 [.ref 316, yI 0, yI r4163, yI 0] [.ref 316] c73_127 rfl rfl rfl rfl rfl (ycanO km72 ko316) (t72_316 hTi (by omega) (by omega) (by omega)) (fun r4164 hr4164 => ?_)
      refine y_putI 133 c73_130 rfl kf316_17 (y_fit0 _) ?_
      have hT4165 := hTi.up 316 17 r4164 ((-1)) 9 rfl (by omega)
      have hF4166 := hFi.up 316 17 r4164 rfl
      refine y_iconst 134 c73_133 rfl ?_
      exact y_retI c73_134 (y_fit0 _) ⟨rfl, hT4165, hF4166, by omega, fun _ => ⟨hR.ext (fun j q _ _ => yup_na (by omega)) (fun j _ => yup_na (by omega)) (fun z => yup_na (by omega)), cast (by congr 1 <;> omega) (hN.fr (m' := yup mi 316 17 r4164) (fun j ja jb => ⟨yup_na (by omega), yup_na (by omega)⟩)), by rw [yup_eq]; have e10 := hFi 316 10 rfl; omega⟩⟩
    · have hsi := (hR.1 i.toNat (by omega) (by omega)).1
      have hs5 : mi (336 + i.toNat) 0 = 5 → 0 ≤ mi (336 + i.toNat) 6 := fun h5 => (hsi.2.2.2.1 h5).2
      refine y_aload 11 c73_10 rfl rfl rfl ?_
      refine y_getR 14 c73_11 rfl kf316_6 ?_
      refine y_iload 15 c73_14 rfl rfl ?_
      refine y_aaload 16 c73_15 rfl kr323 (by omega) ?_
      refine y_astore 17 c73_16 rfl rfl rfl ?_
      refine y_aload 18 c73_17 rfl rfl rfl ?_
      refine y_getX 21 (mi (336 + i.toNat) 0) c73_18 rfl (ff336_0 (by omega)) rfl ?_
      have tb4167 := hTi.atp (336 + i.toNat) 0 0 9 (ft336_0 (by omega))
      refine y_iconst 23 c73_21 rfl ?_
      refine y_icmp 34 26 c73_23 rfl rfl (yc_eq (by omega) (by omega)) (fun hb4168 => ?_) (fun hb4168 => ?_)
      · refine y_aload 35 c73_34 rfl rfl rfl ?_
        refine y_aload 36 c73_35 rfl rfl rfl ?_
        refine y_aload 37 c73_36 rfl rfl rfl ?_
        refine y_getX 40 (mi (336 + i.toNat) 4) c73_37 rfl (ff336_4 (by omega)) rfl ?_
        have tb4169 := hTi.atp (336 + i.toNat) 4 ((-2147483648)) 2147483647 (ft336_4 (by omega))
        have es4170 : mi 316 11 = m 316 11 := (hFi 316 11 rfl)
        have tb4171 := hT.atp 316 11 0 8 rfl
        refine y_callP 43 [.ref 316, yI (mi (336 + i.toNat) 4)] [.ref (336 + i.toNat)] c73_40 rfl rfl rfl rfl rfl (ycanO km46 ko316) (t46_316 hTi (by omega)) (fun r4172 hr4172 => ?_)
        refine y_putI 46 c73_43 rfl (ff336_6 (by omega)) (y_fit0 _) ?_
        have hT4173 := hTi.up (336 + i.toNat) 6 r4172 ((-1)) 11 (ft336_6 (by omega)) (by omega)
        have hF4174 := hFi.up (336 + i.toNat) 6 r4172 (wRs316_6 (by omega))
        refine y_goto 112 c73_46 rfl ?_
        refine y_iinc 115 c73_112 rfl rfl rfl ?_
        refine y_goto 2 c73_115 rfl ?_
        exact ih (m 316 16 - (i + 1) : Int).toNat (by omega) (i + 1) _  _ (by omega) (by omega) hT4173 hF4174 (hR.ext (fun j q h6 h7 => yup_nk h6) (fun j hj => yup_na (fun e => by have hj2 : j = i.toNat := (by omega); subst hj2; omega)) (fun z => yup_na (by omega))) (NL.snoc (k := i) (hN.fr (fun j ja jb => ⟨(yup_na (by omega)), (yup_na (by omega))⟩)) rfl (by omega) (by rw [yup_nk (by decide), yup_eq]; omega))
      · refine y_aload 27 c73_26 rfl rfl rfl ?_
        refine y_getX 30 (mi (336 + i.toNat) 0) c73_27 rfl (ff336_0 (by omega)) rfl ?_
        refine y_iconst 31 c73_30 rfl ?_
        refine y_icmp 49 34 c73_31 rfl rfl (yc_ne (by omega) (by omega)) (fun hb4175 => ?_) (fun hb4175 => ?_)
        · refine y_aload 50 c73_49 rfl rfl rfl ?_
          refine y_getX 53 (mi (336 + i.toNat) 0) c73_50 rfl (ff336_0 (by omega)) rfl ?_
          refine y_iconst 54 c73_53 rfl ?_
          refine y_icmp 66 57 c73_54 rfl rfl (yc_eq (by omega) (by omega)) (fun hb4176 => ?_) (fun hb4176 => ?_)
          · refine y_aload 67 c73_66 rfl rfl rfl ?_
            refine y_aload 68 c73_67 rfl rfl rfl ?_
            refine y_aload 69 c73_68 rfl rfl rfl ?_
            refine y_getX 72 (mi (336 + i.toNat) 4) c73_69 rfl (ff336_4 (by omega)) rfl ?_
            have tb4177 := hTi.atp (336 + i.toNat) 4 ((-2147483648)) 2147483647 (ft336_4 (by omega))
            have es4178 : mi 316 9 = m 316 9 := (hFi 316 9 rfl)
            have tb4179 := hT.atp 316 9 0 6 rfl
            refine y_callP 75 [.ref 316, yI (mi (336 + i.toNat) 4)] [.ref (336 + i.toNat)] c73_72 rfl rfl rfl rfl rfl (ycanO km41 ko316) (t41_316 hTi (by omega)) (fun r4180 hr4180 => ?_)
            refine y_putI 78 c73_75 rfl (ff336_7 (by omega)) (y_fit0 _) ?_
            have hT4181 := hTi.up (336 + i.toNat) 7 r4180 ((-1)) 5 (ft336_7 (by omega)) (by omega)
            have hF4182 := hFi.up (336 + i.toNat) 7 r4180 (wRs316_7 (by omega))
            refine y_aload 79 c73_78 rfl rfl rfl ?_
            refine y_getX 82 r4180 c73_79 rfl (ff336_7 (by omega)) (yup_eq _ _ _ _) ?_
            refine y_iconst 83 c73_82 rfl ?_
            refine y_icmp 91 86 c73_83 rfl rfl (yc_ne (by omega) (by omega)) (fun hb4183 => ?_) (fun hb4183 => ?_)
            · refine y_aload 92 c73_91 rfl rfl rfl ?_
              refine y_getX 95 (mi (336 + i.toNat) 0) c73_92 rfl (ff336_0 (by omega)) (yup_nk (by decide)) ?_
              refine y_iconst 96 c73_95 rfl ?_
              refine y_icmp 112 99 c73_96 rfl rfl (yc_ne (by omega) (by omega)) (fun hb4184 => ?_) (fun hb4184 => ?_)
              · exfalso; omega
              · refine y_aload 100 c73_99 rfl rfl rfl ?_
                refine y_getR 103 c73_100 rfl kf316_7 ?_
                refine y_aload 104 c73_103 rfl rfl rfl ?_
                refine y_getX 107 (mi (336 + i.toNat) 6) c73_104 rfl (ff336_6 (by omega)) (yup_nk (by decide)) ?_
                have tb4185 := hTi.atp (336 + i.toNat) 6 ((-1)) 11 (ft336_6 (by omega))
                refine y_aload 108 c73_107 rfl rfl rfl ?_
                refine y_getX 111 r4180 c73_108 rfl (ff336_7 (by omega)) (yup_eq _ _ _ _) ?_
                refine y_iastore 112 c73_111 rfl ka324 (by omega) (y_nar0 _) ?_
                have hT4186 := hT4181.up 324 ((mi (336 + i.toNat) 6).toNat) r4180 0 5 rfl (by omega)
                have hF4187 := hF4182.up 324 ((mi (336 + i.toNat) 6).toNat) r4180 rfl
                refine y_iinc 115 c73_112 rfl rfl rfl ?_
                refine y_goto 2 c73_115 rfl ?_
                exact ih (m 316 16 - (i + 1) : Int).toNat (by omega) (i + 1) _  _ (by omega) (by omega) hT4186 hF4187 (hR.ext (fun j q h6 h7 => (yup_na (by omega)).trans (yup_nk h7)) (fun j hj => (yup_na (by omega)).trans (yup_nk (by decide))) (fun z => (yup_na (by omega)).trans (yup_na (by omega)))) (NL.snoc (k := i) (hN.fr (fun j ja jb => ⟨((yup_na (by omega)).trans (yup_na (by omega))), ((yup_na (by omega)).trans (yup_na (by omega)))⟩)) rfl (by omega) (by rw [yup_na (by omega), yup_nk (by decide), yup_na (by omega), yup_nk (by decide)]; omega))
            · refine y_aload 87 c73_86 rfl rfl rfl ?_
              refine y_getX 90 (mi (336 + i.toNat) 5) c73_87 rfl (ff336_5 (by omega)) (yup_nk (by decide)) ?_
              have tb4188 := hTi.atp (336 + i.toNat) 5 0 320 (ft336_5 (by omega))
              exact y_retI c73_90 (y_fit0 _) ⟨rfl, hT4181, hF4182, by omega, fun h1 => by omega⟩
          · refine y_aload 58 c73_57 rfl rfl rfl ?_
            refine y_getX 61 (mi (336 + i.toNat) 0) c73_58 rfl (ff336_0 (by omega)) rfl ?_
            refine y_iconst 63 c73_61 rfl ?_
            refine y_icmp 112 66 c73_63 rfl rfl (yc_ne (by omega) (by omega)) (fun hb4189 => ?_) (fun hb4189 => ?_)
            · refine y_iinc 115 c73_112 rfl rfl rfl ?_
              refine y_goto 2 c73_115 rfl ?_
              exact ih (m 316 16 - (i + 1) : Int).toNat (by omega) (i + 1) _  _ (by omega) (by omega) hTi hFi hR (NL.snoc (k := i) (hN.fr (fun j ja jb => ⟨rfl, rfl⟩)) rfl (by omega) (by omega))
            · refine y_aload 67 c73_66 rfl rfl rfl ?_
              refine y_aload 68 c73_67 rfl rfl rfl ?_
              refine y_aload 69 c73_68 rfl rfl rfl ?_
              refine y_getX 72 (mi (336 + i.toNat) 4) c73_69 rfl (ff336_4 (by omega)) rfl ?_
              have tb4190 := hTi.atp (336 + i.toNat) 4 ((-2147483648)) 2147483647 (ft336_4 (by omega))
              have es4191 : mi 316 9 = m 316 9 := (hFi 316 9 rfl)
              have tb4192 := hT.atp 316 9 0 6 rfl
              refine y_callP 75 [.ref 316, yI (mi (336 + i.toNat) 4)] [.ref (336 + i.toNat)] c73_72 rfl rfl rfl rfl rfl (ycanO km41 ko316) (t41_316 hTi (by omega)) (fun r4193 hr4193 => ?_)
              refine y_putI 78 c73_75 rfl (ff336_7 (by omega)) (y_fit0 _) ?_
              have hT4194 := hTi.up (336 + i.toNat) 7 r4193 ((-1)) 5 (ft336_7 (by omega)) (by omega)
              have hF4195 := hFi.up (336 + i.toNat) 7 r4193 (wRs316_7 (by omega))
              refine y_aload 79 c73_78 rfl rfl rfl ?_
              refine y_getX 82 r4193 c73_79 rfl (ff336_7 (by omega)) (yup_eq _ _ _ _) ?_
              refine y_iconst 83 c73_82 rfl ?_
              refine y_icmp 91 86 c73_83 rfl rfl (yc_ne (by omega) (by omega)) (fun hb4196 => ?_) (fun hb4196 => ?_)
              · refine y_aload 92 c73_91 rfl rfl rfl ?_
                refine y_getX 95 (mi (336 + i.toNat) 0) c73_92 rfl (ff336_0 (by omega)) (yup_nk (by decide)) ?_
                refine y_iconst 96 c73_95 rfl ?_
                refine y_icmp 112 99 c73_96 rfl rfl (yc_ne (by omega) (by omega)) (fun hb4197 => ?_) (fun hb4197 => ?_)
                · refine y_iinc 115 c73_112 rfl rfl rfl ?_
                  refine y_goto 2 c73_115 rfl ?_
                  exact ih (m 316 16 - (i + 1) : Int).toNat (by omega) (i + 1) _  _ (by omega) (by omega) hT4194 hF4195 (hR.ext (fun j q h6 h7 => yup_nk h7) (fun j hj => yup_nk (by decide)) (fun z => yup_na (by omega))) (NL.snoc (k := i) (hN.fr (fun j ja jb => ⟨(yup_na (by omega)), (yup_na (by omega))⟩)) rfl (by omega) (by rw [yup_nk (by decide), yup_nk (by decide)]; omega))
                · exfalso; omega
              · refine y_aload 87 c73_86 rfl rfl rfl ?_
                refine y_getX 90 (mi (336 + i.toNat) 5) c73_87 rfl (ff336_5 (by omega)) (yup_nk (by decide)) ?_
                have tb4198 := hTi.atp (336 + i.toNat) 5 0 320 (ft336_5 (by omega))
                exact y_retI c73_90 (y_fit0 _) ⟨rfl, hT4194, hF4195, by omega, fun h1 => by omega⟩
        · refine y_aload 35 c73_34 rfl rfl rfl ?_
          refine y_aload 36 c73_35 rfl rfl rfl ?_
          refine y_aload 37 c73_36 rfl rfl rfl ?_
          refine y_getX 40 (mi (336 + i.toNat) 4) c73_37 rfl (ff336_4 (by omega)) rfl ?_
          have tb4199 := hTi.atp (336 + i.toNat) 4 ((-2147483648)) 2147483647 (ft336_4 (by omega))
          have es4200 : mi 316 11 = m 316 11 := (hFi 316 11 rfl)
          have tb4201 := hT.atp 316 11 0 8 rfl
          refine y_callP 43 [.ref 316, yI (mi (336 + i.toNat) 4)] [.ref (336 + i.toNat)] c73_40 rfl rfl rfl rfl rfl (ycanO km46 ko316) (t46_316 hTi (by omega)) (fun r4202 hr4202 => ?_)
          refine y_putI 46 c73_43 rfl (ff336_6 (by omega)) (y_fit0 _) ?_
          have hT4203 := hTi.up (336 + i.toNat) 6 r4202 ((-1)) 11 (ft336_6 (by omega)) (by omega)
          have hF4204 := hFi.up (336 + i.toNat) 6 r4202 (wRs316_6 (by omega))
          refine y_goto 112 c73_46 rfl ?_
          refine y_iinc 115 c73_112 rfl rfl rfl ?_
          refine y_goto 2 c73_115 rfl ?_
          exact ih (m 316 16 - (i + 1) : Int).toNat (by omega) (i + 1) _  _ (by omega) (by omega) hT4203 hF4204 (hR.ext (fun j q h6 h7 => yup_nk h6) (fun j hj => yup_na (fun e => by have hj2 : j = i.toNat := (by omega); subst hj2; omega)) (fun z => yup_na (by omega))) (NL.snoc (k := i) (hN.fr (fun j ja jb => ⟨(yup_na (by omega)), (yup_na (by omega))⟩)) rfl (by omega) (by rw [yup_nk (by decide), yup_eq]; omega))
set_option maxRecDepth 100000 in
theorem t73_316 {L : Nat} {xs : Nat → Int32} {d nn : Nat} {m : yM} (hT : Ty gT m) (hR : RG 336 325 m 0 (m 316 16) 0 (m 316 12) 0 (m 316 13)) : YC (gZ L xs) (d + 7) 73 [.ref 316] m nn (qI (fun r m' n' => n' = nn ∧ Ty gT m' ∧ Fr wRs316 m m' ∧ (-1 ≤ r ∧ r ≤ 320) ∧ (r = -1 → RG 336 325 m' 0 (m 316 16) 0 (m 316 12) 0 (m 316 13) ∧ NL 336 m' 0 (m 316 16) ∧ m' 316 17 < m 316 10))) := by
  refine YC.mkB [some (.ref 316), none, none] kn73 rfl rfl ?_
  refine y_iconst 1 c73_0 rfl ?_
  refine y_istore 2 c73_1 rfl rfl ?_
  have tb16 := hT.atp 316 16 0 40 rfl
  exact t73a_316 hT (m 316 16 - 0).toNat 0 none m (by omega) (by omega) hT Fr.rf hR (NL.nil (by omega))
def wPl316 (a q : Nat) : Bool := (a == 2 && (q == 2 || q == 3 || q == 4)) || decide (316 ≤ a ∧ a < 376)
def wPs316 (a _q : Nat) : Bool := a == 2 || a == 3 || a == 5 || a == 6 || a == 7 || decide (316 ≤ a ∧ a < 376)
theorem wFa_wPl316 : ∀ a q, wFa a q = true → wPl316 a q = true := by
  intro a q h
  simp [wFa] at h
  simp [wPl316]
  omega
theorem wAt_wPl316 : ∀ a q, wAt a q = true → wPl316 a q = true := by
  intro a q h
  simp [wAt] at h
  simp [wPl316]
  omega
theorem wHd316_wPl316 : ∀ a q, wHd316 a q = true → wPl316 a q = true := by
  intro a q h
  simp [wHd316] at h
  simp [wPl316]
  omega
theorem wFd316_wPl316 : ∀ a q, wFd316 a q = true → wPl316 a q = true := by
  intro a q h
  simp [wFd316] at h
  simp [wPl316]
  omega
theorem wRs316_wPl316 : ∀ a q, wRs316 a q = true → wPl316 a q = true := by
  intro a q h
  simp [wRs316] at h
  simp [wPl316]
  omega
theorem wMt316_wPl316 {c : Nat} : ∀ a q, wMt316 c a q = true → wPl316 a q = true := by
  intro a q h
  simp [wMt316] at h
  simp [wPl316]
  omega
theorem wTok_wPs316 : ∀ a q, wTok a q = true → wPs316 a q = true := by
  intro a q h
  simp [wTok] at h
  simp [wPs316]
  omega
theorem wCn316_wPs316 : ∀ a q, wCn316 a q = true → wPs316 a q = true := by
  intro a q h
  simp [wCn316] at h
  simp [wPs316]
  omega
theorem wPl316_wPs316 : ∀ a q, wPl316 a q = true → wPs316 a q = true := by
  intro a q h
  simp [wPl316] at h
  simp [wPs316]
  omega
theorem wHd316_n326 {j q : Nat} : wHd316 (326 + j) q = false := by
  cases h : wHd316 (326 + j) q with
  | false => rfl
  | true => simp [wHd316] at h <;> omega
theorem wHd316_n336 {j q : Nat} : wHd316 (336 + j) q = false := by
  cases h : wHd316 (336 + j) q with
  | false => rfl
  | true => simp [wHd316] at h <;> omega
theorem wFd316_n326 {j q : Nat} : wFd316 (326 + j) q = false := by
  cases h : wFd316 (326 + j) q with
  | false => rfl
  | true => simp [wFd316] at h <;> omega
theorem wFd316_n336 {j q : Nat} : wFd316 (336 + j) q = false := by
  cases h : wFd316 (336 + j) q with
  | false => rfl
  | true => simp [wFd316] at h <;> omega
theorem wRs316_n326 {j q : Nat} (h : j < 10) : wRs316 (326 + j) q = false := by
  cases h : wRs316 (326 + j) q with
  | false => rfl
  | true => simp [wRs316] at h <;> omega
theorem wRs316_e {j q : Nat} (h : q ≠ 6 ∧ q ≠ 7) : wRs316 (336 + j) q = false := by
  cases h : wRs316 (336 + j) q with
  | false => rfl
  | true => simp [wRs316] at h <;> omega
/-- what was read so far is sound -/
def SO316 (m : yM) : Prop := 1 ≤ m 316 9 ∧ RG 336 325 m 0 (m 316 16) 0 (m 316 12) 0 (m 316 13) ∧ EN 336 m 0 (m 316 16) (m 316 16) ∧ ES 326 m (m 316 10) (m 316 16)
theorem SO316.fr {m m' : yM} (h : SO316 m) (h9 : 1 ≤ m' 316 9) (h10 : m' 316 10 = m 316 10) (h12 : m' 316 12 = m 316 12) (h13 : m' 316 13 = m 316 13) (h16 : m' 316 16 = m 316 16) (e : ∀ j q, m' (336 + j) q = m (336 + j) q) (em : ∀ j q, m' (326 + j) q = m (326 + j) q) (ez : ∀ z, m' 325 z = m 325 z) : SO316 m' := by
  obtain ⟨-, g2, g3, g4⟩ := h
  unfold SO316
  rw [h10, h12, h13, h16]
  exact ⟨h9, g2.fr (fun j _ _ q _ => e j q) (fun z _ _ => ez z) (Int.le_refl _), g3.fr (fun j _ _ q => e j q) (Int.le_refl _), g4.fr (fun j _ => em j 5) (Int.le_refl _)⟩
theorem SO316.app {m m' : yM} (h : SO316 m) (h9 : m' 316 9 = m 316 9) (hb : 0 ≤ m 316 16 ∧ m 316 16 ≤ m' 316 16 ∧ 0 ≤ m 316 12 ∧ m 316 12 ≤ m' 316 12 ∧ 0 ≤ m 316 10) (h10 : m' 316 10 = m 316 10 + 1) (hF : Fr (wMt316 (m 316 16).toNat) m m') (hz : ∀ z : Nat, (z : Int) < m 316 13 → m' 325 z = m 325 z) (hR : RG 336 325 m' (m 316 16) (m' 316 16) (m 316 12) (m' 316 12) (m 316 13) (m' 316 13)) (hE : EN 336 m' (m 316 16) (m' 316 16) (m' 316 16)) (h5 : ∀ j : Nat, (j : Int) < m 316 10 → m' (326 + j) 5 = m (326 + j) 5) (h6 : m' (326 + (m 316 10).toNat) 5 ≤ m' 316 16) : SO316 m' := by
  obtain ⟨g1, g2, g3, g4⟩ := h
  refine ⟨by omega, ?_, ?_, ?_⟩
  · have k1 := g2.fr (m' := m') (c3 := m 316 12) (fun j ja jb q _ => hF _ _ (wMt316_n (by omega))) (fun z za zb => hz z zb) (Int.le_refl _)
    exact RG.app k1 hR (by omega) (by omega) (by omega)
  · have k1 := g3.fr (m' := m') (c2 := m' 316 16) (fun j ja jb q => hF _ _ (wMt316_n (by omega))) (by omega)
    exact EN.app k1 hE
  · rw [h10]
    exact ES.snoc (g4.fr h5 (by omega)) (by omega) h6
set_option maxRecDepth 100000 in
set_option maxHeartbeats 1000000 in
theorem t74a_316 {L : Nat} {xs : Nat → Int32} {d nn : Nat} {m : yM} {e : Int} (hT : Ty gT m) (he : 0 ≤ e ∧ e ≤ 320) (hE : m 5 e.toNat = 0) (ha : m 2 2 ≤ e) (hp : m 2 1 = 1) {n : Int} : ∀ (k : Nat) (g i : Int) (mi : yM), 320 - i = k → 0 ≤ i ∧ i ≤ 320 → g = 0 ∨ g = 1 → Ty gT mi → Fr wPl316 m mi → mi 2 2 ≤ e → MP 326 mi → (g = 1 → SO316 mi) → YW (gZ L xs) 74 (d + 14) 40 [some (.ref 2), some (.ref 1), some (yI n), some (.ref 316), some (yI g), some (yI i)] [] mi nn (qI (fun r m' n' => n' = nn ∧ Ty gT m' ∧ Fr wPl316 m m' ∧ (-1 ≤ r ∧ r ≤ 320) ∧ MP 326 m' ∧ (r = -1 → PS 316 m'))) := by
  intro k
  induction k using Nat.strongRecOn with
  | ind k ih =>
    intro g i mi hk hi0 hg0 hTi hFi h22 hMP hS
    have ti316_9 := hTi.atp 316 9 0 6 rfl
    have ti316_10 := hTi.atp 316 10 0 10 rfl
    have ti316_12 := hTi.atp 316 12 0 12 rfl
    have ti316_13 := hTi.atp 316 13 0 8 rfl
    have ti316_16 := hTi.atp 316 16 0 40 rfl
    have ti2_2 := hTi.atp 2 2 0 320 rfl
    refine y_iload 42 c74_40 rfl rfl ?_
    refine y_iconst 45 c74_42 rfl ?_
    refine y_icmp 139 48 c74_45 rfl rfl (yc_ge (by omega) (by omega)) (fun hb4205 => ?_) (fun hb4205 => ?_)
    · refine y_iload 141 c74_139 rfl rfl ?_
      refine y_if 154 144 c74_141 rfl rfl (yz_eq (by omega)) (fun hb4206 => ?_) (fun hb4206 => ?_)
      · refine y_aload 155 c74_154 rfl rfl rfl ?_
        refine y_getX 158 (mi 2 4) c74_155 rfl kf2_4 rfl ?_
        have tb4207 := hTi.atp 2 4 0 320 rfl
        exact y_retI c74_158 (y_fit0 _) ⟨rfl, hTi, hFi, by omega, hMP, fun h1 => by omega⟩
      · refine y_aload 145 c74_144 rfl rfl rfl ?_
        refine y_getS 148 (B := 316) c74_145 rfl kf2_1 (by first | rfl | (rw [show mi 2 1 = 1 from by have e : mi 2 1 = m 2 1 := (hFi 2 1 rfl); omega]; rfl)) ?_
        obtain ⟨hs9, hs1, hs2, hs3⟩ := hS (by omega)
        refine y_callIB 151 [.ref 316] [] c74_148 rfl rfl rfl rfl rfl (ycanO km73 ko316) (t73_316 hTi hs1) (fun rq4208 mq4208 nq4208 hq4208 => ?_)
        obtain ⟨rfl, hTq4208, hFq4208, hq4208, hGq4208⟩ := hq4208
        have hF4209 := hFi.tr hFq4208 wRs316_wPl316
        have hMP2 : MP 326 mq4208 := hMP.fr (fun k hk => hFq4208 _ _ (wRs316_n326 hk)) (fun k hk => hFq4208 _ _ (wRs316_n326 hk))
        refine y_goto 158 c74_151 rfl ?_
        have es4210 : mq4208 316 10 = mi 316 10 := (hFq4208 316 10 rfl)
        have es4211 : mq4208 316 12 = mi 316 12 := (hFq4208 316 12 rfl)
        have es4212 : mq4208 316 13 = mi 316 13 := (hFq4208 316 13 rfl)
        have es4213 : mq4208 316 16 = mi 316 16 := (hFq4208 316 16 rfl)
        refine y_retI c74_158 (y_fit0 _) ⟨rfl, hTq4208, hF4209, by omega, hMP2, fun h1 => ?_⟩
        obtain ⟨g1, g2, g3⟩ := hGq4208 h1
        unfold PS
        rw [hFq4208 316 16 rfl, hFq4208 316 12 rfl, hFq4208 316 13 rfl, hFq4208 316 10 rfl]
        exact ⟨g1, hs2.fr' (fun j q hq => hFq4208 _ _ (wRs316_e hq)), g2, hMP2, hs3.fr (fun j hj => hFq4208 _ _ (wRs316_n326 (by omega))) (Int.le_refl _), g3⟩
    · refine y_iload 50 c74_48 rfl rfl ?_
      refine y_if 139 53 c74_50 rfl rfl (yz_eq (by omega)) (fun hb4214 => ?_) (fun hb4214 => ?_)
      · refine y_iload 141 c74_139 rfl rfl ?_
        refine y_if 154 144 c74_141 rfl rfl (yz_eq (by omega)) (fun hb4215 => ?_) (fun hb4215 => ?_)
        · refine y_aload 155 c74_154 rfl rfl rfl ?_
          refine y_getX 158 (mi 2 4) c74_155 rfl kf2_4 rfl ?_
          have tb4216 := hTi.atp 2 4 0 320 rfl
          exact y_retI c74_158 (y_fit0 _) ⟨rfl, hTi, hFi, by omega, hMP, fun h1 => by omega⟩
        · exfalso; omega
      · have hs9 := (hS (by omega)).1
        refine y_aload 54 c74_53 rfl rfl rfl ?_
        refine y_getX 57 (mi 2 3) c74_54 rfl kf2_3 rfl ?_
        have tb4217 := hTi.atp 2 3 0 1 rfl
        refine y_if 139 60 c74_57 rfl rfl (yz_ne (by omega)) (fun hb4218 => ?_) (fun hb4218 => ?_)
        · refine y_iload 141 c74_139 rfl rfl ?_
          refine y_if 154 144 c74_141 rfl rfl (yz_eq (by omega)) (fun hb4219 => ?_) (fun hb4219 => ?_)
          · exfalso; omega
          · refine y_aload 145 c74_144 rfl rfl rfl ?_
            refine y_getS 148 (B := 316) c74_145 rfl kf2_1 (by first | rfl | (rw [show mi 2 1 = 1 from by have e : mi 2 1 = m 2 1 := (hFi 2 1 rfl); omega]; rfl)) ?_
            obtain ⟨hs9, hs1, hs2, hs3⟩ := hS (by omega)
            refine y_callIB 151 [.ref 316] [] c74_148 rfl rfl rfl rfl rfl (ycanO km73 ko316) (t73_316 hTi hs1) (fun rq4220 mq4220 nq4220 hq4220 => ?_)
            obtain ⟨rfl, hTq4220, hFq4220, hq4220, hGq4220⟩ := hq4220
            have hF4221 := hFi.tr hFq4220 wRs316_wPl316
            have hMP2 : MP 326 mq4220 := hMP.fr (fun k hk => hFq4220 _ _ (wRs316_n326 hk)) (fun k hk => hFq4220 _ _ (wRs316_n326 hk))
            refine y_goto 158 c74_151 rfl ?_
            have es4222 : mq4220 316 10 = mi 316 10 := (hFq4220 316 10 rfl)
            have es4223 : mq4220 316 12 = mi 316 12 := (hFq4220 316 12 rfl)
            have es4224 : mq4220 316 13 = mi 316 13 := (hFq4220 316 13 rfl)
            have es4225 : mq4220 316 16 = mi 316 16 := (hFq4220 316 16 rfl)
            refine y_retI c74_158 (y_fit0 _) ⟨rfl, hTq4220, hF4221, by omega, hMP2, fun h1 => ?_⟩
            obtain ⟨g1, g2, g3⟩ := hGq4220 h1
            unfold PS
            rw [hFq4220 316 16 rfl, hFq4220 316 12 rfl, hFq4220 316 13 rfl, hFq4220 316 10 rfl]
            exact ⟨g1, hs2.fr' (fun j q hq => hFq4220 _ _ (wRs316_e hq)), g2, hMP2, hs3.fr (fun j hj => hFq4220 _ _ (wRs316_n326 (by omega))) (Int.le_refl _), g3⟩
        · refine y_aload 61 c74_60 rfl rfl rfl ?_
          refine y_callP 64 [.ref 2] [] c74_61 rfl rfl rfl rfl rfl (ycanO km38 ko2) (t38 hTi he (by have e1 : mi 5 e.toNat = m 5 e.toNat := (hFi 5 e.toNat rfl); omega) (by omega)) (fun r4226 hr4226 => ?_)
          by_cases hk4227 : r4226 = 2
          · refine y_top 2 hk4227 ?_
            refine y_lsw 100 c74_64 (by decide) rfl rfl ?_
            refine y_aload 101 c74_100 rfl rfl rfl ?_
            have es4229 : mi 2 1 = m 2 1 := (hFi 2 1 rfl)
            have tb4230 := hT.atp 2 1 ((-1)) 1 rfl
            refine y_callIB 104 [.ref 2] [] c74_101 rfl rfl rfl rfl rfl (ycanO km49 ko2) (t49_316 hTi he (by have e1 : mi 5 e.toNat = m 5 e.toNat := (hFi 5 e.toNat rfl); omega) (by omega) (by omega) (by omega) (by omega)) (fun rq4228 mq4228 nq4228 hq4228 => ?_)
            obtain ⟨rfl, hTq4228, hFq4228, hq4228⟩ := hq4228
            have hF4231 := hFi.tr hFq4228 wFd316_wPl316
            refine y_istore 106 c74_104 rfl rfl ?_
            refine y_goto 133 c74_106 rfl ?_
            refine y_iinc 136 c74_133 rfl rfl rfl ?_
            refine y_goto 40 c74_136 rfl ?_
            have tb4232 := hTq4228.atp 2 2 0 320 rfl
            have es4233 : mq4228 316 9 = mi 316 9 := (hFq4228 316 9 rfl)
            have es4234 : mq4228 316 10 = mi 316 10 := (hFq4228 316 10 rfl)
            have es4235 : mq4228 316 12 = mi 316 12 := (hFq4228 316 12 rfl)
            have es4236 : mq4228 316 13 = mi 316 13 := (hFq4228 316 13 rfl)
            have es4237 : mq4228 316 16 = mi 316 16 := (hFq4228 316 16 rfl)
            refine ih (320 - (i + 1 : Int)).toNat (by omega) rq4228 (i + 1) _ (by omega) (by omega) (by omega) hTq4228 hF4231 (by omega) (hMP.fr (fun k hk => hFq4228 _ _ wFd316_n326) (fun k hk => hFq4228 _ _ wFd316_n326)) (fun h1 => ?_)
            exact (hS (by omega)).fr (by omega) (by omega) (by omega) (by omega) (by omega) (fun j q => hFq4228 _ _ wFd316_n336) (fun j q => hFq4228 _ _ wFd316_n326) (fun z => hFq4228 325 z rfl)
          by_cases hk4238 : r4226 = 3
          · refine y_top 3 hk4238 ?_
            refine y_lsw 109 c74_64 (by decide) rfl rfl ?_
            refine y_aload 110 c74_109 rfl rfl rfl ?_
            have es4240 : mi 2 1 = m 2 1 := (hFi 2 1 rfl)
            have tb4241 := hT.atp 2 1 ((-1)) 1 rfl
            refine y_callIB 113 [.ref 2] [] c74_110 rfl rfl rfl rfl rfl (ycanO km70 ko2) (t70_316 hTi he (by have e1 : mi 5 e.toNat = m 5 e.toNat := (hFi 5 e.toNat rfl); omega) (by omega) (by omega) (by omega) (by omega)) (fun rq4239 mq4239 nq4239 hq4239 => ?_)
            obtain ⟨rfl, hTq4239, hFq4239, hq4239, hZq4239, hMq4239, hGq4239⟩ := hq4239
            have hF4242 := hFi.tr hFq4239 wMt316_wPl316
            refine y_istore 115 c74_113 rfl rfl ?_
            refine y_goto 133 c74_115 rfl ?_
            refine y_iinc 136 c74_133 rfl rfl rfl ?_
            refine y_goto 40 c74_136 rfl ?_
            have tb4243 := hTq4239.atp 2 2 0 320 rfl
            have es4244 : mq4239 316 9 = mi 316 9 := (hFq4239 316 9 ((wMt316_lt (by decide)).trans rfl))
            have tb4245 := hTq4239.atp 316 10 0 10 rfl
            have tb4246 := hTq4239.atp 316 12 0 12 rfl
            have tb4247 := hTq4239.atp 316 13 0 8 rfl
            have tb4248 := hTq4239.atp 316 16 0 40 rfl
            refine ih (320 - (i + 1 : Int)).toNat (by omega) rq4239 (i + 1) _ (by omega) (by omega) (by omega) hTq4239 hF4242 (by omega) (hMq4239 hMP) (fun h1 => ?_)
            obtain ⟨g1, g2, g3, g4, g5⟩ := hGq4239 (by omega)
            exact (hS (by omega)).app (by omega) (by omega) g1 hFq4239 hZq4239 g2 g3 g4 g5
          by_cases hk4249 : r4226 = 125
          · refine y_top 125 hk4249 ?_
            refine y_lsw 118 c74_64 (by decide) rfl rfl ?_
            refine y_aload 119 c74_118 rfl rfl rfl ?_
            have es4251 : mi 2 1 = m 2 1 := (hFi 2 1 rfl)
            have tb4252 := hT.atp 2 1 ((-1)) 1 rfl
            refine y_callIB 122 [.ref 2] [] c74_119 rfl rfl rfl rfl rfl (ycanO km71 ko2) (t71_316 hTi he (by have e1 : mi 5 e.toNat = m 5 e.toNat := (hFi 5 e.toNat rfl); omega) (by omega) (by omega) (by omega) (by omega)) (fun rq4250 mq4250 nq4250 hq4250 => ?_)
            obtain ⟨rfl, hTq4250, hFq4250, hq4250⟩ := hq4250
            have hF4253 := hFi.tr hFq4250 wHd316_wPl316
            refine y_istore 124 c74_122 rfl rfl ?_
            refine y_goto 133 c74_124 rfl ?_
            refine y_iinc 136 c74_133 rfl rfl rfl ?_
            refine y_goto 40 c74_136 rfl ?_
            have tb4254 := hTq4250.atp 2 2 0 320 rfl
            have tb4255 := hTq4250.atp 316 9 0 6 rfl
            have es4256 : mq4250 316 10 = mi 316 10 := (hFq4250 316 10 rfl)
            have es4257 : mq4250 316 12 = mi 316 12 := (hFq4250 316 12 rfl)
            have es4258 : mq4250 316 13 = mi 316 13 := (hFq4250 316 13 rfl)
            have es4259 : mq4250 316 16 = mi 316 16 := (hFq4250 316 16 rfl)
            refine ih (320 - (i + 1 : Int)).toNat (by omega) rq4250 (i + 1) _ (by omega) (by omega) (by omega) hTq4250 hF4253 (by omega) (hMP.fr (fun k hk => hFq4250 _ _ wHd316_n326) (fun k hk => hFq4250 _ _ wHd316_n326)) (fun h1 => ?_)
            exact (hS (by omega)).fr (by omega) (by omega) (by omega) (by omega) (by omega) (fun j q => hFq4250 _ _ wHd316_n336) (fun j q => hFq4250 _ _ wHd316_n326) (fun z => hFq4250 325 z rfl)
          refine y_lsw 127 c74_64 (by omega) (by simp only [Op.lookupswitch.offset]; split <;> first | omega | (split <;> first | omega | (split <;> first | omega | rfl))) rfl ?_
          refine y_aload 128 c74_127 rfl rfl rfl ?_
          have es4261 : mi 2 1 = m 2 1 := (hFi 2 1 rfl)
          have tb4262 := hT.atp 2 1 ((-1)) 1 rfl
          refine y_callIB 131 [.ref 2] [] c74_128 rfl rfl rfl rfl rfl (ycanO km43 ko2) (t43 hTi) (fun rq4260 mq4260 nq4260 hq4260 => ?_)
          obtain ⟨rfl, hTq4260, hFq4260, hq4260⟩ := hq4260
          have hF4263 := hFi.tr hFq4260 wFa_wPl316
          refine y_istore 133 c74_131 rfl rfl ?_
          refine y_iinc 136 c74_133 rfl rfl rfl ?_
          refine y_goto 40 c74_136 rfl ?_
          have es4264 : mq4260 2 2 = mi 2 2 := (hFq4260 2 2 rfl)
          have es4265 : mq4260 316 9 = mi 316 9 := (hFq4260 316 9 rfl)
          have es4266 : mq4260 316 10 = mi 316 10 := (hFq4260 316 10 rfl)
          have es4267 : mq4260 316 12 = mi 316 12 := (hFq4260 316 12 rfl)
          have es4268 : mq4260 316 13 = mi 316 13 := (hFq4260 316 13 rfl)
          have es4269 : mq4260 316 16 = mi 316 16 := (hFq4260 316 16 rfl)
          refine ih (320 - (i + 1 : Int)).toNat (by omega) rq4260 (i + 1) _ (by omega) (by omega) (by omega) hTq4260 hF4263 (by omega) (hMP.fr (fun k hk => hFq4260 _ _ wFa_n326) (fun k hk => hFq4260 _ _ wFa_n326)) (fun h1 => ?_)
          exact (hS (by omega)).fr (by omega) (by omega) (by omega) (by omega) (by omega) (fun j q => hFq4260 _ _ wFa_n336) (fun j q => hFq4260 _ _ wFa_n326) (fun z => hFq4260 325 z rfl)
theorem wCn316_h {a q : Nat} (h : 316 < a) : wCn316 a q = false := by
  cases h : wCn316 a q with
  | false => rfl
  | true => simp [wCn316] at h <;> omega
set_option maxRecDepth 100000 in
theorem t74h_316 {L : Nat} {xs : Nat → Int32} {d nn : Nat} {m : yM} {m0 : yM} {e : Int} (hT : Ty gT m) (he : 0 ≤ e ∧ e ≤ 320) (hE : m 5 e.toNat = 0) (ha : m 2 2 ≤ e) (hp : m 2 1 = 1) (h22 : m 2 2 = 0) (h16 : m 316 16 = 0 ∧ m 316 10 = 0) (h13 : m 316 13 = 0) {n : Int} (hF0 : Fr wPs316 m0 m) (hM : MP 326 m) : YW (gZ L xs) 74 (d + 14) 31 [some (.ref 2), some (.ref 1), some (yI n), some (.ref 316), none, none] [] m nn (qI (fun r m' n' => n' = nn ∧ Ty gT m' ∧ Fr wPs316 m0 m' ∧ (-1 ≤ r ∧ r ≤ 320) ∧ MP 326 m' ∧ (r = -1 → PS 316 m'))) := by
  have hF : Fr wPl316 m m := Fr.rf
  have tb9 := hT.atp 316 9 0 6 rfl
  refine y_aload 32 c74_31 rfl rfl rfl ?_
  have tb4271 := hT.atp 2 2 0 320 rfl
  have tb4272 := hT.atp 316 9 0 6 rfl
  have tb4273 := hT.atp 2 1 ((-1)) 1 rfl
  have tb4274 := hT.atp 2 3 0 1 rfl
  refine y_callIB 35 [.ref 2] [] c74_32 rfl rfl rfl rfl rfl (ycanO km45 ko2) (t45_316 hT he hE (by omega) (by omega)) (fun rq4270 mq4270 nq4270 hq4270 => ?_)
  obtain ⟨rfl, hTq4270, hFq4270, hq4270⟩ := hq4270
  have hF4275 := hF.tr hFq4270 wHd316_wPl316
  refine y_istore 37 c74_35 rfl rfl ?_
  refine y_iconst 38 c74_37 rfl ?_
  refine y_istore 40 c74_38 rfl rfl ?_
  have tb4276 := hTq4270.atp 316 9 0 6 rfl
  have es4277 : mq4270 316 10 = m 316 10 := (hFq4270 316 10 rfl)
  have tb4278 := hT.atp 316 10 0 10 rfl
  have es4279 : mq4270 316 12 = m 316 12 := (hFq4270 316 12 rfl)
  have tb4280 := hT.atp 316 12 0 12 rfl
  have es4281 : mq4270 316 13 = m 316 13 := (hFq4270 316 13 rfl)
  have tb4282 := hT.atp 316 13 0 8 rfl
  have es4283 : mq4270 316 16 = m 316 16 := (hFq4270 316 16 rfl)
  have tb4284 := hT.atp 316 16 0 40 rfl
  have es4285 : mq4270 2 1 = m 2 1 := (hFq4270 2 1 rfl)
  have tb4286 := hTq4270.atp 2 2 0 320 rfl
  refine YW.mono (t74a_316 hT he hE ha hp 320 rq4270 0 _ (by omega) (by omega) (by omega) hTq4270 hF4275 (by omega) (hM.fr (fun k hk => hFq4270 _ _ wHd316_n326) (fun k hk => hFq4270 _ _ wHd316_n326)) (fun h1 => ⟨by omega, RG.nil (by omega) (by omega), EN.nil (by omega), ES.nil (by omega)⟩)) (fun r m2 n2 hq => ?_)
  obtain ⟨x0, rfl, rfl, k1, k2, k3, k4, k5⟩ := hq
  exact ⟨x0, rfl, rfl, k1, hF0.tr k2 wPl316_wPs316, k3, k4, k5⟩
set_option maxRecDepth 100000 in
theorem t74_316 {L : Nat} {xs : Nat → Int32} {d nn : Nat} {m : yM} {n : Int} (hT : Ty gT m) (hn : 0 ≤ n ∧ n ≤ 320) (hM : MP 326 m) : YC (gZ L xs) (d + 14) 74 [.ref 2, .ref 1, yI n, .ref 316] m nn (qI (fun r m' n' => n' = nn ∧ Ty gT m' ∧ Fr wPs316 m m' ∧ (-1 ≤ r ∧ r ≤ 320) ∧ MP 326 m' ∧ (r = -1 → PS 316 m'))) := by
  refine YC.mkB [some (.ref 2), some (.ref 1), some (yI n), some (.ref 316), none, none] kn74 rfl rfl ?_
  have hF : Fr wPs316 m m := Fr.rf
  refine y_aload 1 c74_0 rfl rfl rfl ?_
  refine y_aload 2 c74_1 rfl rfl rfl ?_
  refine y_putS 5 1 c74_2 rfl kf2_1 rfl ?_
  have hT4287 := hT.up 2 1 1 ((-1)) 1 rfl (by omega)
  have hF4288 := hF.up 2 1 1 rfl
  refine y_aload 6 c74_5 rfl rfl rfl ?_
  refine y_getS 9 (B := 316) c74_6 rfl kf2_1 (by first | rfl | (rw [show (yup m 2 1 1) 2 1 = 1 from by have e : (yup m 2 1 1) 2 1 = 1 := rfl; omega]; rfl)) ?_
  refine y_callUB 12 [.ref 316] [] c74_9 rfl rfl rfl rfl rfl (ycanO km30 ko316) (t30_316 hT4287) (fun mq4289 nq4289 hq4289 => ?_)
  obtain ⟨rfl, hTq4289, hFq4289, hq4289⟩ := hq4289
  have hF4290 := hF4288.tr hFq4289 wCn316_wPs316
  refine y_aload 13 c74_12 rfl rfl rfl ?_
  refine y_getR 16 c74_13 rfl kf2_0 ?_
  refine y_aload 17 c74_16 rfl rfl rfl ?_
  refine y_iload 18 c74_17 rfl rfl ?_
  refine y_callUB 21 [.ref 3, .ref 1, yI n] [] c74_18 rfl rfl rfl rfl rfl (ycanO km36 ko3) (t36 hTq4289 n hn) (fun mq4291 nq4291 hq4291 => ?_)
  obtain ⟨rfl, hTq4291, hFq4291, e, he0, he1, hsz, hEe⟩ := hq4291
  have hF4292 := hF4290.tr hFq4291 wTok_wPs316
  refine y_aload 22 c74_21 rfl rfl rfl ?_
  refine y_iconst 23 c74_22 rfl ?_
  refine y_putI 26 c74_23 rfl kf2_2 (y_fit0 _) ?_
  have hT4293 := hTq4291.up 2 2 0 0 320 rfl (by omega)
  have hF4294 := hF4292.up 2 2 0 rfl
  refine y_aload 27 c74_26 rfl rfl rfl ?_
  refine y_iconst 28 c74_27 rfl ?_
  refine y_putI 31 c74_28 rfl kf2_3 (y_fit1 (by omega)) ?_
  have hT4295 := hT4293.up 2 3 0 0 1 rfl (by omega)
  have hF4296 := hF4294.up 2 3 0 rfl
  have es4297 : (yup (yup mq4291 2 2 0) 2 3 0) 316 9 = mq4289 316 9 := ((yup_na (by decide)).trans ((yup_na (by decide)).trans (hFq4291 316 9 rfl)))
  have tb4298 := hTq4289.atp 316 9 0 6 rfl
  have es4299 : (yup (yup mq4291 2 2 0) 2 3 0) 316 10 = mq4289 316 10 := ((yup_na (by decide)).trans ((yup_na (by decide)).trans (hFq4291 316 10 rfl)))
  have tb4300 := hTq4289.atp 316 10 0 10 rfl
  have es4301 : (yup (yup mq4291 2 2 0) 2 3 0) 316 12 = mq4289 316 12 := ((yup_na (by decide)).trans ((yup_na (by decide)).trans (hFq4291 316 12 rfl)))
  have tb4302 := hTq4289.atp 316 12 0 12 rfl
  have es4303 : (yup (yup mq4291 2 2 0) 2 3 0) 316 13 = mq4289 316 13 := ((yup_na (by decide)).trans ((yup_na (by decide)).trans (hFq4291 316 13 rfl)))
  have tb4304 := hTq4289.atp 316 13 0 8 rfl
  have es4305 : (yup (yup mq4291 2 2 0) 2 3 0) 316 16 = mq4289 316 16 := ((yup_na (by decide)).trans ((yup_na (by decide)).trans (hFq4291 316 16 rfl)))
  have tb4306 := hTq4289.atp 316 16 0 40 rfl
  have es4307 : (yup (yup mq4291 2 2 0) 2 3 0) 2 1 = 1 := ((yup_nk (by decide)).trans ((yup_nk (by decide)).trans ((hFq4291 2 1 rfl).trans ((hFq4289 2 1 rfl).trans (yup_eq _ _ _ _)))))
  have es4308 : (yup (yup mq4291 2 2 0) 2 3 0) 2 2 = 0 := rfl
  have hE2 : (yup (yup mq4291 2 2 0) 2 3 0) 5 e.toNat = 0 := by have e1 : (yup (yup mq4291 2 2 0) 2 3 0) 5 e.toNat = _ := ((yup_na (by decide)).trans (yup_na (by decide))); omega
  have hM2 : MP 326 (yup (yup mq4291 2 2 0) 2 3 0) := (((((hM).na (by decide)).fr (fun k hk => hFq4289 _ _ (wCn316_h (by omega))) (fun k hk => hFq4289 _ _ (wCn316_h (by omega)))).fr (fun k hk => hFq4291 _ _ (wTok_h (by omega))) (fun k hk => hFq4291 _ _ (wTok_h (by omega)))).na (by decide)).na (by decide)
  exact t74h_316 hT4295 ⟨he0, he1⟩ hE2 (by omega) (by omega) (by omega) (by omega) (by omega) hF4296 hM2
