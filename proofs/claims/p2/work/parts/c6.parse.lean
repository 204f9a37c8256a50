/-! CONTRACTS: resolve, parse. Printed by wip/whole/gen91.py -/
def wRs256 (a q : Nat) : Bool := (a == 256 && q == 17) || a == 264 || (decide (276 ≤ a ∧ a < 316) && (q == 6 || q == 7))
theorem wRs256_6 {k : Nat} (h : k < 40) : wRs256 (276 + k) 6 = true := by
  simp [wRs256]
  omega
theorem wRs256_7 {k : Nat} (h : k < 40) : wRs256 (276 + k) 7 = true := by
  simp [wRs256]
  omega
set_option maxRecDepth 100000 in
theorem t73a_256 {L : Nat} {xs : Nat → Int32} {d nn : Nat} {m : yM} (hT : Ty gT m) : ∀ (k : Nat) (i : Int) (x2 : Option Value) (mi : yM), m 256 16 - i = k → 0 ≤ i ∧ i ≤ m 256 16 → Ty gT mi → Fr wRs256 m mi → RG 276 265 mi 0 (m 256 16) 0 (m 256 12) 0 (m 256 13) → NL 276 mi 0 i → YW (gZ L xs) 73 (d + 7) 2 [some (.ref 256), some (yI i), x2] [] mi nn (qI (fun r m' n' => n' = nn ∧ Ty gT m' ∧ Fr wRs256 m m' ∧ (-1 ≤ r ∧ r ≤ 320) ∧ (r = -1 → RG 276 265 m' 0 (m 256 16) 0 (m 256 12) 0 (m 256 13) ∧ NL 276 m' 0 (m 256 16) ∧ m' 256 17 < m 256 10))) := by
  intro k
  induction k using Nat.strongRecOn with
  | ind k ih =>
    intro i x2 mi hk hi hTi hFi hR hN
    have tb16 := hT.atp 256 16 0 40 rfl
    refine y_iload 3 c73_2 rfl rfl ?_
    refine y_aload 4 c73_3 rfl rfl rfl ?_
    refine y_getX 7 (m 256 16) c73_4 rfl kf256_16 (hFi 256 16 rfl) ?_
    refine y_icmp 118 10 c73_7 rfl rfl (yc_ge (by omega) (by omega)) (fun hb4011 => ?_) (fun hb4011 => ?_)
    · refine y_aload 119 c73_118 rfl rfl rfl ?_
      refine y_aload 120 c73_119 rfl rfl rfl ?_
      refine y_iconst 121 c73_120 rfl ?_
      refine y_ldc 123 c73_121 rfl (show 10 < gLit.length by decide) ?_
      refine y_callP 126 [.retAddr 21] [yI 0, .ref 256, .ref 256] c73_123 rfl rfl rfl rfl rfl (ycanS km8) t8_go (fun r4012 hr4012 => ?_)
      refine y_iconst 127 c73_126 rfl ?_
      refine y_callP 130 [.ref 256, yI 0, yI r4012, yI 0] [.ref 256] c73_127 rfl rfl rfl rfl rfl (ycanO km72 ko256) (t72_256 hTi (by omega) (by omega) (by omega)) (fun r4013 hr4013 => ?_)
      refine y_putI 133 c73_130 rfl kf256_17 (y_fit0 _) ?_
      have hT4014 := hTi.up 256 17 r4013 ((-1)) 9 rfl (by omega)
      have hF4015 := hFi.up 256 17 r4013 rfl
      refine y_iconst 134 c73_133 rfl ?_
      exact y_retI c73_134 (y_fit0 _) ⟨rfl, hT4014, hF4015, by omega, fun _ => ⟨hR.ext (fun j q _ _ => yup_na (by omega)) (fun j _ => yup_na (by omega)) (fun z => yup_na (by omega)), cast (by congr 1 <;> omega) (hN.fr (m' := yup mi 256 17 r4013) (fun j ja jb => ⟨yup_na (by omega), yup_na (by omega)⟩)), by rw [yup_eq]; have e10 := hFi 256 10 rfl; omega⟩⟩
    · have hsi := (hR.1 i.toNat (by omega) (by omega)).1
      have hs5 : mi (276 + i.toNat) 0 = 5 → 0 ≤ mi (276 + i.toNat) 6 := fun h5 => (hsi.2.2.2.1 h5).2
      refine y_aload 11 c73_10 rfl rfl rfl ?_
      refine y_getR 14 c73_11 rfl kf256_6 ?_
      refine y_iload 15 c73_14 rfl rfl ?_
      refine y_aaload 16 c73_15 rfl kr263 (by omega) ?_
      refine y_astore 17 c73_16 rfl rfl rfl ?_
      refine y_aload 18 c73_17 rfl rfl rfl ?_
      refine y_getX 21 (mi (276 + i.toNat) 0) c73_18 rfl (ff276_0 (by omega)) rfl ?_
      have tb4016 := hTi.atp (276 + i.toNat) 0 0 9 (ft276_0 (by omega))
      refine y_iconst 23 c73_21 rfl ?_
      refine y_icmp 34 26 c73_23 rfl rfl (yc_eq (by omega) (by omega)) (fun hb4017 => ?_) (fun hb4017 => ?_)
      · refine y_aload 35 c73_34 rfl rfl rfl ?_
        refine y_aload 36 c73_35 rfl rfl rfl ?_
        refine y_aload 37 c73_36 rfl rfl rfl ?_
        refine y_getX 40 (mi (276 + i.toNat) 4) c73_37 rfl (ff276_4 (by omega)) rfl ?_
        have tb4018 := hTi.atp (276 + i.toNat) 4 ((-2147483648)) 2147483647 (ft276_4 (by omega))
        have es4019 : mi 256 11 = m 256 11 := (hFi 256 11 rfl)
        have tb4020 := hT.atp 256 11 0 8 rfl
        refine y_callP 43 [.ref 256, yI (mi (276 + i.toNat) 4)] [.ref (276 + i.toNat)] c73_40 rfl rfl rfl rfl rfl (ycanO km46 ko256) (t46_256 hTi (by omega)) (fun r4021 hr4021 => ?_)
        refine y_putI 46 c73_43 rfl (ff276_6 (by omega)) (y_fit0 _) ?_
        have hT4022 := hTi.up (276 + i.toNat) 6 r4021 ((-1)) 11 (ft276_6 (by omega)) (by omega)
        have hF4023 := hFi.up (276 + i.toNat) 6 r4021 (wRs256_6 (by omega))
        refine y_goto 112 c73_46 rfl ?_
        refine y_iinc 115 c73_112 rfl rfl rfl ?_
        refine y_goto 2 c73_115 rfl ?_
        exact ih (m 256 16 - (i + 1) : Int).toNat (by omega) (i + 1) _  _ (by omega) (by omega) hT4022 hF4023 (hR.ext (fun j q h6 h7 => yup_nk h6) (fun j hj => yup_na (fun e => by have : j = i.toNat := by omega
                                                                                        subst this; omega)) (fun z => yup_na (by omega))) (NL.snoc (k := i) (hN.fr (fun j ja jb => ⟨(yup_na (by omega)), (yup_na (by omega))⟩)) rfl (by omega) (by rw [yup_nk (by decide), yup_eq]; omega))
      · refine y_aload 27 c73_26 rfl rfl rfl ?_
        refine y_getX 30 (mi (276 + i.toNat) 0) c73_27 rfl (ff276_0 (by omega)) rfl ?_
        refine y_iconst 31 c73_30 rfl ?_
        refine y_icmp 49 34 c73_31 rfl rfl (yc_ne (by omega) (by omega)) (fun hb4024 => ?_) (fun hb4024 => ?_)
        · refine y_aload 50 c73_49 rfl rfl rfl ?_
          refine y_getX 53 (mi (276 + i.toNat) 0) c73_50 rfl (ff276_0 (by omega)) rfl ?_
          refine y_iconst 54 c73_53 rfl ?_
          refine y_icmp 66 57 c73_54 rfl rfl (yc_eq (by omega) (by omega)) (fun hb4025 => ?_) (fun hb4025 => ?_)
          · refine y_aload 67 c73_66 rfl rfl rfl ?_
            refine y_aload 68 c73_67 rfl rfl rfl ?_
            refine y_aload 69 c73_68 rfl rfl rfl ?_
            refine y_getX 72 (mi (276 + i.toNat) 4) c73_69 rfl (ff276_4 (by omega)) rfl ?_
            have tb4026 := hTi.atp (276 + i.toNat) 4 ((-2147483648)) 2147483647 (ft276_4 (by omega))
            have es4027 : mi 256 9 = m 256 9 := (hFi 256 9 rfl)
            have tb4028 := hT.atp 256 9 0 6 rfl
            refine y_callP 75 [.ref 256, yI (mi (276 + i.toNat) 4)] [.ref (276 + i.toNat)] c73_72 rfl rfl rfl rfl rfl (ycanO km41 ko256) (t41_256 hTi (by omega)) (fun r4029 hr4029 => ?_)
            refine y_putI 78 c73_75 rfl (ff276_7 (by omega)) (y_fit0 _) ?_
            have hT4030 := hTi.up (276 + i.toNat) 7 r4029 ((-1)) 5 (ft276_7 (by omega)) (by omega)
            have hF4031 := hFi.up (276 + i.toNat) 7 r4029 (wRs256_7 (by omega))
            refine y_aload 79 c73_78 rfl rfl rfl ?_
            refine y_getX 82 r4029 c73_79 rfl (ff276_7 (by omega)) (yup_eq _ _ _ _) ?_
            refine y_iconst 83 c73_82 rfl ?_
            refine y_icmp 91 86 c73_83 rfl rfl (yc_ne (by omega) (by omega)) (fun hb4032 => ?_) (fun hb4032 => ?_)
            · refine y_aload 92 c73_91 rfl rfl rfl ?_
              refine y_getX 95 (mi (276 + i.toNat) 0) c73_92 rfl (ff276_0 (by omega)) (yup_nk (by decide)) ?_
              refine y_iconst 96 c73_95 rfl ?_
              refine y_icmp 112 99 c73_96 rfl rfl (yc_ne (by omega) (by omega)) (fun hb4033 => ?_) (fun hb4033 => ?_)
              · exfalso; omega
              · refine y_aload 100 c73_99 rfl rfl rfl ?_
                refine y_getR 103 c73_100 rfl kf256_7 ?_
                refine y_aload 104 c73_103 rfl rfl rfl ?_
                refine y_getX 107 (mi (276 + i.toNat) 6) c73_104 rfl (ff276_6 (by omega)) (yup_nk (by decide)) ?_
                have tb4034 := hTi.atp (276 + i.toNat) 6 ((-1)) 11 (ft276_6 (by omega))
                refine y_aload 108 c73_107 rfl rfl rfl ?_
                refine y_getX 111 r4029 c73_108 rfl (ff276_7 (by omega)) (yup_eq _ _ _ _) ?_
                refine y_iastore 112 c73_111 rfl ka264 (by omega) (y_nar0 _) ?_
                have hT4035 := hT4030.up 264 ((mi (276 + i.toNat) 6).toNat) r4029 0 5 rfl (by omega)
                have hF4036 := hF4031.up 264 ((mi (276 + i.toNat) 6).toNat) r4029 rfl
                refine y_iinc 115 c73_112 rfl rfl rfl ?_
                refine y_goto 2 c73_115 rfl ?_
                exact ih (m 256 16 - (i + 1) : Int).toNat (by omega) (i + 1) _  _ (by omega) (by omega) hT4035 hF4036 (hR.ext (fun j q h6 h7 => (yup_na (by omega)).trans (yup_nk h7)) (fun j hj => (yup_na (by omega)).trans (yup_nk (by decide))) (fun z => (yup_na (by omega)).trans (yup_na (by omega)))) (NL.snoc (k := i) (hN.fr (fun j ja jb => ⟨((yup_na (by omega)).trans (yup_na (by omega))), ((yup_na (by omega)).trans (yup_na (by omega)))⟩)) rfl (by omega) (by rw [yup_na (by omega), yup_nk (by decide), yup_na (by omega), yup_nk (by decide)]; omega))
            · refine y_aload 87 c73_86 rfl rfl rfl ?_
              refine y_getX 90 (mi (276 + i.toNat) 5) c73_87 rfl (ff276_5 (by omega)) (yup_nk (by decide)) ?_
              have tb4037 := hTi.atp (276 + i.toNat) 5 0 320 (ft276_5 (by omega))
              exact y_retI c73_90 (y_fit0 _) ⟨rfl, hT4030, hF4031, by omega, fun h1 => by omega⟩
          · refine y_aload 58 c73_57 rfl rfl rfl ?_
            refine y_getX 61 (mi (276 + i.toNat) 0) c73_58 rfl (ff276_0 (by omega)) rfl ?_
            refine y_iconst 63 c73_61 rfl ?_
            refine y_icmp 112 66 c73_63 rfl rfl (yc_ne (by omega) (by omega)) (fun hb4038 => ?_) (fun hb4038 => ?_)
            · refine y_iinc 115 c73_112 rfl rfl rfl ?_
              refine y_goto 2 c73_115 rfl ?_
              exact ih (m 256 16 - (i + 1) : Int).toNat (by omega) (i + 1) _  _ (by omega) (by omega) hTi hFi hR (NL.snoc (k := i) (hN.fr (fun j ja jb => ⟨rfl, rfl⟩)) rfl (by omega) (by omega))
            · refine y_aload 67 c73_66 rfl rfl rfl ?_
              refine y_aload 68 c73_67 rfl rfl rfl ?_
              refine y_aload 69 c73_68 rfl rfl rfl ?_
              refine y_getX 72 (mi (276 + i.toNat) 4) c73_69 rfl (ff276_4 (by omega)) rfl ?_
              have tb4039 := hTi.atp (276 + i.toNat) 4 ((-2147483648)) 2147483647 (ft276_4 (by omega))
              have es4040 : mi 256 9 = m 256 9 := (hFi 256 9 rfl)
              have tb4041 := hT.atp 256 9 0 6 rfl
              refine y_callP 75 [.ref 256, yI (mi (276 + i.toNat) 4)] [.ref (276 + i.toNat)] c73_72 rfl rfl rfl rfl rfl (ycanO km41 ko256) (t41_256 hTi (by omega)) (fun r4042 hr4042 => ?_)
              refine y_putI 78 c73_75 rfl (ff276_7 (by omega)) (y_fit0 _) ?_
              have hT4043 := hTi.up (276 + i.toNat) 7 r4042 ((-1)) 5 (ft276_7 (by omega)) (by omega)
              have hF4044 := hFi.up (276 + i.toNat) 7 r4042 (wRs256_7 (by omega))
              refine y_aload 79 c73_78 rfl rfl rfl ?_
              refine y_getX 82 r4042 c73_79 rfl (ff276_7 (by omega)) (yup_eq _ _ _ _) ?_
              refine y_iconst 83 c73_82 rfl ?_
              refine y_icmp 91 86 c73_83 rfl rfl (yc_ne (by omega) (by omega)) (fun hb4045 => ?_) (fun hb4045 => ?_)
              · refine y_aload 92 c73_91 rfl rfl rfl ?_
                refine y_getX 95 (mi (276 + i.toNat) 0) c73_92 rfl (ff276_0 (by omega)) (yup_nk (by decide)) ?_
                refine y_iconst 96 c73_95 rfl ?_
                refine y_icmp 112 99 c73_96 rfl rfl (yc_ne (by omega) (by omega)) (fun hb4046 => ?_) (fun hb4046 => ?_)
                · refine y_iinc 115 c73_112 rfl rfl rfl ?_
                  refine y_goto 2 c73_115 rfl ?_
                  exact ih (m 256 16 - (i + 1) : Int).toNat (by omega) (i + 1) _  _ (by omega) (by omega) hT4043 hF4044 (hR.ext (fun j q h6 h7 => yup_nk h7) (fun j hj => yup_nk (by decide)) (fun z => yup_na (by omega))) (NL.snoc (k := i) (hN.fr (fun j ja jb => ⟨(yup_na (by omega)), (yup_na (by omega))⟩)) rfl (by omega) (by rw [yup_nk (by decide), yup_nk (by decide)]; omega))
                · exfalso; omega
              · refine y_aload 87 c73_86 rfl rfl rfl ?_
                refine y_getX 90 (mi (276 + i.toNat) 5) c73_87 rfl (ff276_5 (by omega)) (yup_nk (by decide)) ?_
                have tb4047 := hTi.atp (276 + i.toNat) 5 0 320 (ft276_5 (by omega))
                exact y_retI c73_90 (y_fit0 _) ⟨rfl, hT4043, hF4044, by omega, fun h1 => by omega⟩
        · refine y_aload 35 c73_34 rfl rfl rfl ?_
          refine y_aload 36 c73_35 rfl rfl rfl ?_
          refine y_aload 37 c73_36 rfl rfl rfl ?_
          refine y_getX 40 (mi (276 + i.toNat) 4) c73_37 rfl (ff276_4 (by omega)) rfl ?_
          have tb4048 := hTi.atp (276 + i.toNat) 4 ((-2147483648)) 2147483647 (ft276_4 (by omega))
          have es4049 : mi 256 11 = m 256 11 := (hFi 256 11 rfl)
          have tb4050 := hT.atp 256 11 0 8 rfl
          refine y_callP 43 [.ref 256, yI (mi (276 + i.toNat) 4)] [.ref (276 + i.toNat)] c73_40 rfl rfl rfl rfl rfl (ycanO km46 ko256) (t46_256 hTi (by omega)) (fun r4051 hr4051 => ?_)
          refine y_putI 46 c73_43 rfl (ff276_6 (by omega)) (y_fit0 _) ?_
          have hT4052 := hTi.up (276 + i.toNat) 6 r4051 ((-1)) 11 (ft276_6 (by omega)) (by omega)
          have hF4053 := hFi.up (276 + i.toNat) 6 r4051 (wRs256_6 (by omega))
          refine y_goto 112 c73_46 rfl ?_
          refine y_iinc 115 c73_112 rfl rfl rfl ?_
          refine y_goto 2 c73_115 rfl ?_
          exact ih (m 256 16 - (i + 1) : Int).toNat (by omega) (i + 1) _  _ (by omega) (by omega) hT4052 hF4053 (hR.ext (fun j q h6 h7 => yup_nk h6) (fun j hj => yup_na (fun e => by have : j = i.toNat := by omega
                                                                                        subst this; omega)) (fun z => yup_na (by omega))) (NL.snoc (k := i) (hN.fr (fun j ja jb => ⟨(yup_na (by omega)), (yup_na (by omega))⟩)) rfl (by omega) (by rw [yup_nk (by decide), yup_eq]; omega))
set_option maxRecDepth 100000 in
theorem t73_256 {L : Nat} {xs : Nat → Int32} {d nn : Nat} {m : yM} (hT : Ty gT m) (hR : RG 276 265 m 0 (m 256 16) 0 (m 256 12) 0 (m 256 13)) : YC (gZ L xs) (d + 7) 73 [.ref 256] m nn (qI (fun r m' n' => n' = nn ∧ Ty gT m' ∧ Fr wRs256 m m' ∧ (-1 ≤ r ∧ r ≤ 320) ∧ (r = -1 → RG 276 265 m' 0 (m 256 16) 0 (m 256 12) 0 (m 256 13) ∧ NL 276 m' 0 (m 256 16) ∧ m' 256 17 < m 256 10))) := by
  refine YC.mkB [some (.ref 256), none, none] kn73 rfl rfl ?_
  refine y_iconst 1 c73_0 rfl ?_
  refine y_istore 2 c73_1 rfl rfl ?_
  have tb16 := hT.atp 256 16 0 40 rfl
  exact t73a_256 hT (m 256 16 - 0).toNat 0 none m (by omega) (by omega) hT Fr.rf hR (NL.nil (by omega))
def wPl256 (a q : Nat) : Bool := (a == 2 && (q == 2 || q == 3 || q == 4)) || decide (256 ≤ a ∧ a < 316)
def wPs256 (a _q : Nat) : Bool := a == 2 || a == 3 || a == 5 || a == 6 || a == 7 || decide (256 ≤ a ∧ a < 316)
theorem wFa_wPl256 : ∀ a q, wFa a q = true → wPl256 a q = true := by
  intro a q h
  simp [wFa] at h
  simp [wPl256]
  omega
theorem wAt_wPl256 : ∀ a q, wAt a q = true → wPl256 a q = true := by
  intro a q h
  simp [wAt] at h
  simp [wPl256]
  omega
theorem wHd256_wPl256 : ∀ a q, wHd256 a q = true → wPl256 a q = true := by
  intro a q h
  simp [wHd256] at h
  simp [wPl256]
  omega
theorem wFd256_wPl256 : ∀ a q, wFd256 a q = true → wPl256 a q = true := by
  intro a q h
  simp [wFd256] at h
  simp [wPl256]
  omega
theorem wRs256_wPl256 : ∀ a q, wRs256 a q = true → wPl256 a q = true := by
  intro a q h
  simp [wRs256] at h
  simp [wPl256]
  omega
theorem wMt256_wPl256 {c : Nat} : ∀ a q, wMt256 c a q = true → wPl256 a q = true := by
  intro a q h
  simp [wMt256] at h
  simp [wPl256]
  omega
theorem wTok_wPs256 : ∀ a q, wTok a q = true → wPs256 a q = true := by
  intro a q h
  simp [wTok] at h
  simp [wPs256]
  omega
theorem wCn256_wPs256 : ∀ a q, wCn256 a q = true → wPs256 a q = true := by
  intro a q h
  simp [wCn256] at h
  simp [wPs256]
  omega
theorem wPl256_wPs256 : ∀ a q, wPl256 a q = true → wPs256 a q = true := by
  intro a q h
  simp [wPl256] at h
  simp [wPs256]
  omega
theorem wHd256_n266 {j q : Nat} : wHd256 (266 + j) q = false := by
  cases h : wHd256 (266 + j) q with
  | false => rfl
  | true => simp [wHd256] at h <;> omega
theorem wHd256_n276 {j q : Nat} : wHd256 (276 + j) q = false := by
  cases h : wHd256 (276 + j) q with
  | false => rfl
  | true => simp [wHd256] at h <;> omega
theorem wFd256_n266 {j q : Nat} : wFd256 (266 + j) q = false := by
  cases h : wFd256 (266 + j) q with
  | false => rfl
  | true => simp [wFd256] at h <;> omega
theorem wFd256_n276 {j q : Nat} : wFd256 (276 + j) q = false := by
  cases h : wFd256 (276 + j) q with
  | false => rfl
  | true => simp [wFd256] at h <;> omega
theorem wRs256_n266 {j q : Nat} (h : j < 10) : wRs256 (266 + j) q = false := by
  cases h : wRs256 (266 + j) q with
  | false => rfl
  | true => simp [wRs256] at h <;> omega
theorem wRs256_e {j q : Nat} (h : q ≠ 6 ∧ q ≠ 7) : wRs256 (276 + j) q = false := by
  cases h : wRs256 (276 + j) q with
  | false => rfl
  | true => simp [wRs256] at h <;> omega
/-- what was read so far is sound -/
def SO256 (m : yM) : Prop := 1 ≤ m 256 9 ∧ RG 276 265 m 0 (m 256 16) 0 (m 256 12) 0 (m 256 13) ∧ EN 276 m 0 (m 256 16) (m 256 16) ∧ ES 266 m (m 256 10) (m 256 16)
theorem SO256.fr {m m' : yM} (h : SO256 m) (h9 : 1 ≤ m' 256 9) (h10 : m' 256 10 = m 256 10) (h12 : m' 256 12 = m 256 12) (h13 : m' 256 13 = m 256 13) (h16 : m' 256 16 = m 256 16) (e : ∀ j q, m' (276 + j) q = m (276 + j) q) (em : ∀ j q, m' (266 + j) q = m (266 + j) q) (ez : ∀ z, m' 265 z = m 265 z) : SO256 m' := by
  obtain ⟨-, g2, g3, g4⟩ := h
  unfold SO256
  rw [h10, h12, h13, h16]
  exact ⟨h9, g2.fr (fun j _ _ q _ => e j q) (fun z _ _ => ez z) (Int.le_refl _), g3.fr (fun j _ _ q => e j q) (Int.le_refl _), g4.fr (fun j _ => em j 5) (Int.le_refl _)⟩
theorem SO256.app {m m' : yM} (h : SO256 m) (h9 : m' 256 9 = m 256 9) (hb : 0 ≤ m 256 16 ∧ m 256 16 ≤ m' 256 16 ∧ 0 ≤ m 256 12 ∧ m 256 12 ≤ m' 256 12 ∧ 0 ≤ m 256 10) (h10 : m' 256 10 = m 256 10 + 1) (hF : Fr (wMt256 (m 256 16).toNat) m m') (hz : ∀ z : Nat, (z : Int) < m 256 13 → m' 265 z = m 265 z) (hR : RG 276 265 m' (m 256 16) (m' 256 16) (m 256 12) (m' 256 12) (m 256 13) (m' 256 13)) (hE : EN 276 m' (m 256 16) (m' 256 16) (m' 256 16)) (h5 : ∀ j : Nat, (j : Int) < m 256 10 → m' (266 + j) 5 = m (266 + j) 5) (h6 : m' (266 + (m 256 10).toNat) 5 ≤ m' 256 16) : SO256 m' := by
  obtain ⟨g1, g2, g3, g4⟩ := h
  refine ⟨by omega, ?_, ?_, ?_⟩
  · have k1 := g2.fr (m' := m') (c3 := m 256 12) (fun j ja jb q _ => hF _ _ (wMt256_n (by omega))) (fun z za zb => hz z zb) (Int.le_refl _)
    exact RG.app k1 hR (by omega) (by omega) (by omega)
  · have k1 := g3.fr (m' := m') (c2 := m' 256 16) (fun j ja jb q => hF _ _ (wMt256_n (by omega))) (by omega)
    exact EN.app k1 hE
  · rw [h10]
    exact ES.snoc (g4.fr h5 (by omega)) (by omega) h6
set_option maxRecDepth 100000 in
set_option maxHeartbeats 1000000 in
theorem t74a_256 {L : Nat} {xs : Nat → Int32} {d nn : Nat} {m : yM} {e : Int} (hT : Ty gT m) (he : 0 ≤ e ∧ e ≤ 320) (hE : m 5 e.toNat = 0) (ha : m 2 2 ≤ e) (hp : m 2 1 = 0) {n : Int} : ∀ (k : Nat) (g i : Int) (mi : yM), 320 - i = k → 0 ≤ i ∧ i ≤ 320 → g = 0 ∨ g = 1 → Ty gT mi → Fr wPl256 m mi → mi 2 2 ≤ e → MP 266 mi → (g = 1 → SO256 mi) → YW (gZ L xs) 74 (d + 14) 40 [some (.ref 2), some (.ref 1), some (yI n), some (.ref 256), some (yI g), some (yI i)] [] mi nn (qI (fun r m' n' => n' = nn ∧ Ty gT m' ∧ Fr wPl256 m m' ∧ (-1 ≤ r ∧ r ≤ 320) ∧ MP 266 m' ∧ (r = -1 → PS 256 m'))) := by
  intro k
  induction k using Nat.strongRecOn with
  | ind k ih =>
    intro g i mi hk hi0 hg0 hTi hFi h22 hMP hS
    have ti256_9 := hTi.atp 256 9 0 6 rfl
    have ti256_10 := hTi.atp 256 10 0 10 rfl
    have ti256_12 := hTi.atp 256 12 0 12 rfl
    have ti256_13 := hTi.atp 256 13 0 8 rfl
    have ti256_16 := hTi.atp 256 16 0 40 rfl
    have ti2_2 := hTi.atp 2 2 0 320 rfl
    refine y_iload 42 c74_40 rfl rfl ?_
    refine y_iconst 45 c74_42 rfl ?_
    refine y_icmp 139 48 c74_45 rfl rfl (yc_ge (by omega) (by omega)) (fun hb4054 => ?_) (fun hb4054 => ?_)
    · refine y_iload 141 c74_139 rfl rfl ?_
      refine y_if 154 144 c74_141 rfl rfl (yz_eq (by omega)) (fun hb4055 => ?_) (fun hb4055 => ?_)
      · refine y_aload 155 c74_154 rfl rfl rfl ?_
        refine y_getX 158 (mi 2 4) c74_155 rfl kf2_4 rfl ?_
        have tb4056 := hTi.atp 2 4 0 320 rfl
        exact y_retI c74_158 (y_fit0 _) ⟨rfl, hTi, hFi, by omega, hMP, fun h1 => by omega⟩
      · refine y_aload 145 c74_144 rfl rfl rfl ?_
        refine y_getS 148 (B := 256) c74_145 rfl kf2_1 (by rw [show mi 2 1 = 0 from by have e : mi 2 1 = m 2 1 := (hFi 2 1 rfl); omega]; rfl) ?_
        obtain ⟨hs9, hs1, hs2, hs3⟩ := hS (by omega)
        refine y_callIB 151 [.ref 256] [] c74_148 rfl rfl rfl rfl rfl (ycanO km73 ko256) (t73_256 hTi hs1) (fun rq4057 mq4057 nq4057 hq4057 => ?_)
        obtain ⟨rfl, hTq4057, hFq4057, hq4057, hGq4057⟩ := hq4057
        have hF4058 := hFi.tr hFq4057 wRs256_wPl256
        have hMP2 : MP 266 mq4057 := hMP.fr (fun k hk => hFq4057 _ _ (wRs256_n266 hk)) (fun k hk => hFq4057 _ _ (wRs256_n266 hk))
        refine y_goto 158 c74_151 rfl ?_
        have es4059 : mq4057 256 10 = mi 256 10 := (hFq4057 256 10 rfl)
        have es4060 : mq4057 256 12 = mi 256 12 := (hFq4057 256 12 rfl)
        have es4061 : mq4057 256 13 = mi 256 13 := (hFq4057 256 13 rfl)
        have es4062 : mq4057 256 16 = mi 256 16 := (hFq4057 256 16 rfl)
        refine y_retI c74_158 (y_fit0 _) ⟨rfl, hTq4057, hF4058, by omega, hMP2, fun h1 => ?_⟩
        obtain ⟨g1, g2, g3⟩ := hGq4057 h1
        unfold PS
        rw [hFq4057 256 16 rfl, hFq4057 256 12 rfl, hFq4057 256 13 rfl, hFq4057 256 10 rfl]
        exact ⟨g1, hs2.fr' (fun j q hq => hFq4057 _ _ (wRs256_e hq)), g2, hMP2, hs3.fr (fun j hj => hFq4057 _ _ (wRs256_n266 (by omega))) (Int.le_refl _), g3⟩
    · refine y_iload 50 c74_48 rfl rfl ?_
      refine y_if 139 53 c74_50 rfl rfl (yz_eq (by omega)) (fun hb4063 => ?_) (fun hb4063 => ?_)
      · refine y_iload 141 c74_139 rfl rfl ?_
        refine y_if 154 144 c74_141 rfl rfl (yz_eq (by omega)) (fun hb4064 => ?_) (fun hb4064 => ?_)
        · refine y_aload 155 c74_154 rfl rfl rfl ?_
          refine y_getX 158 (mi 2 4) c74_155 rfl kf2_4 rfl ?_
          have tb4065 := hTi.atp 2 4 0 320 rfl
          exact y_retI c74_158 (y_fit0 _) ⟨rfl, hTi, hFi, by omega, hMP, fun h1 => by omega⟩
        · exfalso; omega
      · have hs9 := (hS (by omega)).1
        refine y_aload 54 c74_53 rfl rfl rfl ?_
        refine y_getX 57 (mi 2 3) c74_54 rfl kf2_3 rfl ?_
        have tb4066 := hTi.atp 2 3 0 1 rfl
        refine y_if 139 60 c74_57 rfl rfl (yz_ne (by omega)) (fun hb4067 => ?_) (fun hb4067 => ?_)
        · refine y_iload 141 c74_139 rfl rfl ?_
          refine y_if 154 144 c74_141 rfl rfl (yz_eq (by omega)) (fun hb4068 => ?_) (fun hb4068 => ?_)
          · exfalso; omega
          · refine y_aload 145 c74_144 rfl rfl rfl ?_
            refine y_getS 148 (B := 256) c74_145 rfl kf2_1 (by rw [show mi 2 1 = 0 from by have e : mi 2 1 = m 2 1 := (hFi 2 1 rfl); omega]; rfl) ?_
            obtain ⟨hs9, hs1, hs2, hs3⟩ := hS (by omega)
            refine y_callIB 151 [.ref 256] [] c74_148 rfl rfl rfl rfl rfl (ycanO km73 ko256) (t73_256 hTi hs1) (fun rq4069 mq4069 nq4069 hq4069 => ?_)
            obtain ⟨rfl, hTq4069, hFq4069, hq4069, hGq4069⟩ := hq4069
            have hF4070 := hFi.tr hFq4069 wRs256_wPl256
            have hMP2 : MP 266 mq4069 := hMP.fr (fun k hk => hFq4069 _ _ (wRs256_n266 hk)) (fun k hk => hFq4069 _ _ (wRs256_n266 hk))
            refine y_goto 158 c74_151 rfl ?_
            have es4071 : mq4069 256 10 = mi 256 10 := (hFq4069 256 10 rfl)
            have es4072 : mq4069 256 12 = mi 256 12 := (hFq4069 256 12 rfl)
            have es4073 : mq4069 256 13 = mi 256 13 := (hFq4069 256 13 rfl)
            have es4074 : mq4069 256 16 = mi 256 16 := (hFq4069 256 16 rfl)
            refine y_retI c74_158 (y_fit0 _) ⟨rfl, hTq4069, hF4070, by omega, hMP2, fun h1 => ?_⟩
            obtain ⟨g1, g2, g3⟩ := hGq4069 h1
            unfold PS
            rw [hFq4069 256 16 rfl, hFq4069 256 12 rfl, hFq4069 256 13 rfl, hFq4069 256 10 rfl]
            exact ⟨g1, hs2.fr' (fun j q hq => hFq4069 _ _ (wRs256_e hq)), g2, hMP2, hs3.fr (fun j hj => hFq4069 _ _ (wRs256_n266 (by omega))) (Int.le_refl _), g3⟩
        · refine y_aload 61 c74_60 rfl rfl rfl ?_
          refine y_callP 64 [.ref 2] [] c74_61 rfl rfl rfl rfl rfl (ycanO km38 ko2) (t38 hTi he (by have e1 : mi 5 e.toNat = m 5 e.toNat := (hFi 5 e.toNat rfl); omega) (by omega)) (fun r4075 hr4075 => ?_)
          by_cases hk4076 : r4075 = 2
          · refine y_top 2 hk4076 ?_
            refine y_lsw 100 c74_64 (by decide) rfl rfl ?_
            refine y_aload 101 c74_100 rfl rfl rfl ?_
            have es4078 : mi 2 1 = m 2 1 := (hFi 2 1 rfl)
            have tb4079 := hT.atp 2 1 ((-1)) 1 rfl
            refine y_callIB 104 [.ref 2] [] c74_101 rfl rfl rfl rfl rfl (ycanO km49 ko2) (t49_256 hTi he (by have e1 : mi 5 e.toNat = m 5 e.toNat := (hFi 5 e.toNat rfl); omega) (by omega) (by omega) (by omega) (by omega)) (fun rq4077 mq4077 nq4077 hq4077 => ?_)
            obtain ⟨rfl, hTq4077, hFq4077, hq4077⟩ := hq4077
            have hF4080 := hFi.tr hFq4077 wFd256_wPl256
            refine y_istore 106 c74_104 rfl rfl ?_
            refine y_goto 133 c74_106 rfl ?_
            refine y_iinc 136 c74_133 rfl rfl rfl ?_
            refine y_goto 40 c74_136 rfl ?_
            have tb4081 := hTq4077.atp 2 2 0 320 rfl
            have es4082 : mq4077 256 9 = mi 256 9 := (hFq4077 256 9 rfl)
            have es4083 : mq4077 256 10 = mi 256 10 := (hFq4077 256 10 rfl)
            have es4084 : mq4077 256 12 = mi 256 12 := (hFq4077 256 12 rfl)
            have es4085 : mq4077 256 13 = mi 256 13 := (hFq4077 256 13 rfl)
            have es4086 : mq4077 256 16 = mi 256 16 := (hFq4077 256 16 rfl)
            refine ih (320 - (i + 1 : Int)).toNat (by omega) rq4077 (i + 1) _ (by omega) (by omega) (by omega) hTq4077 hF4080 (by omega) (hMP.fr (fun k hk => hFq4077 _ _ wFd256_n266) (fun k hk => hFq4077 _ _ wFd256_n266)) (fun h1 => ?_)
            exact (hS (by omega)).fr (by omega) (by omega) (by omega) (by omega) (by omega) (fun j q => hFq4077 _ _ wFd256_n276) (fun j q => hFq4077 _ _ wFd256_n266) (fun z => hFq4077 265 z rfl)
          by_cases hk4087 : r4075 = 3
          · refine y_top 3 hk4087 ?_
            refine y_lsw 109 c74_64 (by decide) rfl rfl ?_
            refine y_aload 110 c74_109 rfl rfl rfl ?_
            have es4089 : mi 2 1 = m 2 1 := (hFi 2 1 rfl)
            have tb4090 := hT.atp 2 1 ((-1)) 1 rfl
            refine y_callIB 113 [.ref 2] [] c74_110 rfl rfl rfl rfl rfl (ycanO km70 ko2) (t70_256 hTi he (by have e1 : mi 5 e.toNat = m 5 e.toNat := (hFi 5 e.toNat rfl); omega) (by omega) (by omega) (by omega) (by omega)) (fun rq4088 mq4088 nq4088 hq4088 => ?_)
            obtain ⟨rfl, hTq4088, hFq4088, hq4088, hZq4088, hMq4088, hGq4088⟩ := hq4088
            have hF4091 := hFi.tr hFq4088 wMt256_wPl256
            refine y_istore 115 c74_113 rfl rfl ?_
            refine y_goto 133 c74_115 rfl ?_
            refine y_iinc 136 c74_133 rfl rfl rfl ?_
            refine y_goto 40 c74_136 rfl ?_
            have tb4092 := hTq4088.atp 2 2 0 320 rfl
            have es4093 : mq4088 256 9 = mi 256 9 := (hFq4088 256 9 ((wMt256_lt (by decide)).trans rfl))
            have tb4094 := hTq4088.atp 256 10 0 10 rfl
            have tb4095 := hTq4088.atp 256 12 0 12 rfl
            have tb4096 := hTq4088.atp 256 13 0 8 rfl
            have tb4097 := hTq4088.atp 256 16 0 40 rfl
            refine ih (320 - (i + 1 : Int)).toNat (by omega) rq4088 (i + 1) _ (by omega) (by omega) (by omega) hTq4088 hF4091 (by omega) (hMq4088 hMP) (fun h1 => ?_)
            obtain ⟨g1, g2, g3, g4, g5⟩ := hGq4088 (by omega)
            exact (hS (by omega)).app (by omega) (by omega) g1 hFq4088 hZq4088 g2 g3 g4 g5
          by_cases hk4098 : r4075 = 125
          · refine y_top 125 hk4098 ?_
            refine y_lsw 118 c74_64 (by decide) rfl rfl ?_
            refine y_aload 119 c74_118 rfl rfl rfl ?_
            have es4100 : mi 2 1 = m 2 1 := (hFi 2 1 rfl)
            have tb4101 := hT.atp 2 1 ((-1)) 1 rfl
            refine y_callIB 122 [.ref 2] [] c74_119 rfl rfl rfl rfl rfl (ycanO km71 ko2) (t71_256 hTi he (by have e1 : mi 5 e.toNat = m 5 e.toNat := (hFi 5 e.toNat rfl); omega) (by omega) (by omega) (by omega) (by omega)) (fun rq4099 mq4099 nq4099 hq4099 => ?_)
            obtain ⟨rfl, hTq4099, hFq4099, hq4099⟩ := hq4099
            have hF4102 := hFi.tr hFq4099 wHd256_wPl256
            refine y_istore 124 c74_122 rfl rfl ?_
            refine y_goto 133 c74_124 rfl ?_
            refine y_iinc 136 c74_133 rfl rfl rfl ?_
            refine y_goto 40 c74_136 rfl ?_
            have tb4103 := hTq4099.atp 2 2 0 320 rfl
            have es4104 : mq4099 256 9 = mi 256 9 := (hFq4099 256 9 rfl)
            have es4105 : mq4099 256 10 = mi 256 10 := (hFq4099 256 10 rfl)
            have es4106 : mq4099 256 12 = mi 256 12 := (hFq4099 256 12 rfl)
            have es4107 : mq4099 256 13 = mi 256 13 := (hFq4099 256 13 rfl)
            have es4108 : mq4099 256 16 = mi 256 16 := (hFq4099 256 16 rfl)
            refine ih (320 - (i + 1 : Int)).toNat (by omega) rq4099 (i + 1) _ (by omega) (by omega) (by omega) hTq4099 hF4102 (by omega) (hMP.fr (fun k hk => hFq4099 _ _ wHd256_n266) (fun k hk => hFq4099 _ _ wHd256_n266)) (fun h1 => ?_)
            exact (hS (by omega)).fr (by omega) (by omega) (by omega) (by omega) (by omega) (fun j q => hFq4099 _ _ wHd256_n276) (fun j q => hFq4099 _ _ wHd256_n266) (fun z => hFq4099 265 z rfl)
          refine y_lsw 127 c74_64 (by omega) (by simp only [Op.lookupswitch.offset]; split <;> first | omega | (split <;> first | omega | (split <;> first | omega | rfl))) rfl ?_
          refine y_aload 128 c74_127 rfl rfl rfl ?_
          have es4110 : mi 2 1 = m 2 1 := (hFi 2 1 rfl)
          have tb4111 := hT.atp 2 1 ((-1)) 1 rfl
          refine y_callIB 131 [.ref 2] [] c74_128 rfl rfl rfl rfl rfl (ycanO km43 ko2) (t43 hTi) (fun rq4109 mq4109 nq4109 hq4109 => ?_)
          obtain ⟨rfl, hTq4109, hFq4109, hq4109⟩ := hq4109
          have hF4112 := hFi.tr hFq4109 wFa_wPl256
          refine y_istore 133 c74_131 rfl rfl ?_
          refine y_iinc 136 c74_133 rfl rfl rfl ?_
          refine y_goto 40 c74_136 rfl ?_
          have es4113 : mq4109 2 2 = mi 2 2 := (hFq4109 2 2 rfl)
          have es4114 : mq4109 256 9 = mi 256 9 := (hFq4109 256 9 rfl)
          have es4115 : mq4109 256 10 = mi 256 10 := (hFq4109 256 10 rfl)
          have es4116 : mq4109 256 12 = mi 256 12 := (hFq4109 256 12 rfl)
          have es4117 : mq4109 256 13 = mi 256 13 := (hFq4109 256 13 rfl)
          have es4118 : mq4109 256 16 = mi 256 16 := (hFq4109 256 16 rfl)
          refine ih (320 - (i + 1 : Int)).toNat (by omega) rq4109 (i + 1) _ (by omega) (by omega) (by omega) hTq4109 hF4112 (by omega) (hMP.fr (fun k hk => hFq4109 _ _ wFa_n266) (fun k hk => hFq4109 _ _ wFa_n266)) (fun h1 => ?_)
          exact (hS (by omega)).fr (by omega) (by omega) (by omega) (by omega) (by omega) (fun j q => hFq4109 _ _ wFa_n276) (fun j q => hFq4109 _ _ wFa_n266) (fun z => hFq4109 265 z rfl)
theorem wCn256_h {a q : Nat} (h : 256 < a) : wCn256 a q = false := by
  cases h : wCn256 a q with
  | false => rfl
  | true => simp [wCn256] at h <;> omega
theorem wTok_h {a q : Nat} (h : 7 < a) : wTok a q = false := by
  cases h : wTok a q with
  | false => rfl
  | true => simp [wTok] at h <;> omega
set_option maxRecDepth 100000 in
theorem t74h_256 {L : Nat} {xs : Nat → Int32} {d nn : Nat} {m : yM} {m0 : yM} {e : Int} (hT : Ty gT m) (he : 0 ≤ e ∧ e ≤ 320) (hE : m 5 e.toNat = 0) (ha : m 2 2 ≤ e) (hp : m 2 1 = 0) (h22 : m 2 2 = 0) (h16 : m 256 16 = 0 ∧ m 256 10 = 0) (h13 : m 256 13 = 0) {n : Int} (hF0 : Fr wPs256 m0 m) (hM : MP 266 m) : YW (gZ L xs) 74 (d + 14) 31 [some (.ref 2), some (.ref 1), some (yI n), some (.ref 256), none, none] [] m nn (qI (fun r m' n' => n' = nn ∧ Ty gT m' ∧ Fr wPs256 m0 m' ∧ (-1 ≤ r ∧ r ≤ 320) ∧ MP 266 m' ∧ (r = -1 → PS 256 m'))) := by
  have hF : Fr wPl256 m m := Fr.rf
  have tb9 := hT.atp 256 9 0 6 rfl
  refine y_aload 32 c74_31 rfl rfl rfl ?_
  have tb4120 := hT.atp 2 2 0 320 rfl
  have tb4121 := hT.atp 256 9 0 6 rfl
  have tb4122 := hT.atp 2 1 ((-1)) 1 rfl
  have tb4123 := hT.atp 2 3 0 1 rfl
  refine y_callIB 35 [.ref 2] [] c74_32 rfl rfl rfl rfl rfl (ycanO km45 ko2) (t45_256 hT he hE (by omega) (by omega)) (fun rq4119 mq4119 nq4119 hq4119 => ?_)
  obtain ⟨rfl, hTq4119, hFq4119, hq4119⟩ := hq4119
  have hF4124 := hF.tr hFq4119 wHd256_wPl256
  refine y_istore 37 c74_35 rfl rfl ?_
  refine y_iconst 38 c74_37 rfl ?_
  refine y_istore 40 c74_38 rfl rfl ?_
  have es4125 : mq4119 256 9 = m 256 9 := (hFq4119 256 9 rfl)
  have es4126 : mq4119 256 10 = m 256 10 := (hFq4119 256 10 rfl)
  have tb4127 := hT.atp 256 10 0 10 rfl
  have es4128 : mq4119 256 12 = m 256 12 := (hFq4119 256 12 rfl)
  have tb4129 := hT.atp 256 12 0 12 rfl
  have es4130 : mq4119 256 13 = m 256 13 := (hFq4119 256 13 rfl)
  have tb4131 := hT.atp 256 13 0 8 rfl
  have es4132 : mq4119 256 16 = m 256 16 := (hFq4119 256 16 rfl)
  have tb4133 := hT.atp 256 16 0 40 rfl
  have es4134 : mq4119 2 1 = m 2 1 := (hFq4119 2 1 rfl)
  have tb4135 := hTq4119.atp 2 2 0 320 rfl
  refine YW.mono (t74a_256 hT he hE ha hp 320 rq4119 0 _ (by omega) (by omega) (by omega) hTq4119 hF4124 (by omega) (hM.fr (fun k hk => hFq4119 _ _ wHd256_n266) (fun k hk => hFq4119 _ _ wHd256_n266)) (fun h1 => ⟨by omega, RG.nil (by omega) (by omega), EN.nil (by omega), ES.nil (by omega)⟩)) (fun r m2 n2 hq => ?_)
  obtain ⟨x0, rfl, rfl, k1, k2, k3, k4, k5⟩ := hq
  exact ⟨x0, rfl, rfl, k1, hF0.tr k2 wPl256_wPs256, k3, k4, k5⟩
set_option maxRecDepth 100000 in
theorem t74_256 {L : Nat} {xs : Nat → Int32} {d nn : Nat} {m : yM} {n : Int} (hT : Ty gT m) (hn : 0 ≤ n ∧ n ≤ 320) (hM : MP 266 m) : YC (gZ L xs) (d + 14) 74 [.ref 2, .ref 1, yI n, .ref 256] m nn (qI (fun r m' n' => n' = nn ∧ Ty gT m' ∧ Fr wPs256 m m' ∧ (-1 ≤ r ∧ r ≤ 320) ∧ MP 266 m' ∧ (r = -1 → PS 256 m'))) := by
  refine YC.mkB [some (.ref 2), some (.ref 1), some (yI n), some (.ref 256), none, none] kn74 rfl rfl ?_
  have hF : Fr wPs256 m m := Fr.rf
  refine y_aload 1 c74_0 rfl rfl rfl ?_
  refine y_aload 2 c74_1 rfl rfl rfl ?_
  refine y_putS 5 0 c74_2 rfl kf2_1 rfl ?_
  have hT4136 := hT.up 2 1 0 ((-1)) 1 rfl (by omega)
  have hF4137 := hF.up 2 1 0 rfl
  refine y_aload 6 c74_5 rfl rfl rfl ?_
  refine y_getS 9 (B := 256) c74_6 rfl kf2_1 (by rw [show (yup m 2 1 0) 2 1 = 0 from by have e : (yup m 2 1 0) 2 1 = 0 := rfl; omega]; rfl) ?_
  refine y_callUB 12 [.ref 256] [] c74_9 rfl rfl rfl rfl rfl (ycanO km30 ko256) (t30_256 hT4136) (fun mq4138 nq4138 hq4138 => ?_)
  obtain ⟨rfl, hTq4138, hFq4138, hq4138⟩ := hq4138
  have hF4139 := hF4137.tr hFq4138 wCn256_wPs256
  refine y_aload 13 c74_12 rfl rfl rfl ?_
  refine y_getR 16 c74_13 rfl kf2_0 ?_
  refine y_aload 17 c74_16 rfl rfl rfl ?_
  refine y_iload 18 c74_17 rfl rfl ?_
  refine y_callUB 21 [.ref 3, .ref 1, yI n] [] c74_18 rfl rfl rfl rfl rfl (ycanO km36 ko3) (t36 hTq4138 n hn) (fun mq4140 nq4140 hq4140 => ?_)
  obtain ⟨rfl, hTq4140, hFq4140, e, he0, he1, hsz, hEe⟩ := hq4140
  have hF4141 := hF4139.tr hFq4140 wTok_wPs256
  refine y_aload 22 c74_21 rfl rfl rfl ?_
  refine y_iconst 23 c74_22 rfl ?_
  refine y_putI 26 c74_23 rfl kf2_2 (y_fit0 _) ?_
  have hT4142 := hTq4140.up 2 2 0 0 320 rfl (by omega)
  have hF4143 := hF4141.up 2 2 0 rfl
  refine y_aload 27 c74_26 rfl rfl rfl ?_
  refine y_iconst 28 c74_27 rfl ?_
  refine y_putI 31 c74_28 rfl kf2_3 (y_fit1 (by omega)) ?_
  have hT4144 := hT4142.up 2 3 0 0 1 rfl (by omega)
  have hF4145 := hF4143.up 2 3 0 rfl
  have es4146 : (yup (yup mq4140 2 2 0) 2 3 0) 256 9 = mq4138 256 9 := ((yup_na (by decide)).trans ((yup_na (by decide)).trans (hFq4140 256 9 rfl)))
  have tb4147 := hTq4138.atp 256 9 0 6 rfl
  have es4148 : (yup (yup mq4140 2 2 0) 2 3 0) 256 10 = mq4138 256 10 := ((yup_na (by decide)).trans ((yup_na (by decide)).trans (hFq4140 256 10 rfl)))
  have tb4149 := hTq4138.atp 256 10 0 10 rfl
  have es4150 : (yup (yup mq4140 2 2 0) 2 3 0) 256 12 = mq4138 256 12 := ((yup_na (by decide)).trans ((yup_na (by decide)).trans (hFq4140 256 12 rfl)))
  have tb4151 := hTq4138.atp 256 12 0 12 rfl
  have es4152 : (yup (yup mq4140 2 2 0) 2 3 0) 256 13 = mq4138 256 13 := ((yup_na (by decide)).trans ((yup_na (by decide)).trans (hFq4140 256 13 rfl)))
  have tb4153 := hTq4138.atp 256 13 0 8 rfl
  have es4154 : (yup (yup mq4140 2 2 0) 2 3 0) 256 16 = mq4138 256 16 := ((yup_na (by decide)).trans ((yup_na (by decide)).trans (hFq4140 256 16 rfl)))
  have tb4155 := hTq4138.atp 256 16 0 40 rfl
  have es4156 : (yup (yup mq4140 2 2 0) 2 3 0) 2 1 = 0 := ((yup_nk (by decide)).trans ((yup_nk (by decide)).trans ((hFq4140 2 1 rfl).trans ((hFq4138 2 1 rfl).trans (yup_eq _ _ _ _)))))
  have es4157 : (yup (yup mq4140 2 2 0) 2 3 0) 2 2 = 0 := rfl
  have hE2 : (yup (yup mq4140 2 2 0) 2 3 0) 5 e.toNat = 0 := by have e1 : (yup (yup mq4140 2 2 0) 2 3 0) 5 e.toNat = _ := ((yup_na (by decide)).trans (yup_na (by decide))); omega
  have hM2 : MP 266 (yup (yup mq4140 2 2 0) 2 3 0) := (((((hM).na (by decide)).fr (fun k hk => hFq4138 _ _ (wCn256_h (by omega))) (fun k hk => hFq4138 _ _ (wCn256_h (by omega)))).fr (fun k hk => hFq4140 _ _ (wTok_h (by omega))) (fun k hk => hFq4140 _ _ (wTok_h (by omega)))).na (by decide)).na (by decide)
  exact t74h_256 hT4144 ⟨he0, he1⟩ hE2 (by omega) (by omega) (by omega) (by omega) hF4145 hM2
