/-! CONTRACTS: resolve, parse. Printed by wip/whole/gen91.py -/
def wRs256 (a q : Nat) : Bool := (a == 256 && q == 17) || a == 264 || (decide (276 ≤ a ∧ a < 316) && (q == 6 || q == 7))
theorem wRs256_6 {k : Nat} (h : k < 40) : wRs256 (276 + k) 6 = true := by
  simp [wRs256]
  omega
theorem wRs256_7 {k : Nat} (h : k < 40) : wRs256 (276 + k) 7 = true := by
  simp [wRs256]
  omega
set_option maxRecDepth 100000 in
theorem t73a_256 {L : Nat} {xs : Nat → Int32} {d nn : Nat} {m : yM} (hT : Ty gT m) : ∀ (k : Nat) (i : Int) (x2 : Option Value) (mi : yM), m 256 16 - i = k → 0 ≤ i ∧ i ≤ m 256 16 → Ty gT mi → Fr wRs256 m mi → RG 276 265 mi 0 (m 256 16) 0 (m 256 12) 0 (m 256 13) → NL 276 mi 0 i → YW (gZ L xs) 73 (d + 7) 2 [some (.ref 256), some (yI i), x2] [] mi nn (qI (fun r m' n' => n' = nn ∧ Ty gT m' ∧ Fr wRs256 m m' ∧ (-1 ≤ r ∧ r ≤ 320) ∧ (r = -1 → RG 276 265 m' 0 (m 256 16) 0 (m 256 12) 0 (m 256 13) ∧ NL 276 m' 0 (m 256 16) ∧ m' 256 17 < m 256 10))) := by
  intro k
  induction k using Nat.strongRecOn with
  | ind k ih =>
    intro i x2 mi hk hi hTi hFi hR hN
    have tb16 := hT.atp 256 16 0 40 rfl
    refine y_iload 3 c73_2 rfl rfl ?_
    refine y_aload 4 c73_3 rfl rfl rfl ?_
    refine y_getX 7 (m 256 16) c73_4 rfl kf256_16 (hFi 256 16 rfl) ?_
    refine y_icmp 118 10 c73_7 rfl rfl (yc_ge (by omega) (by omega)) (fun hb4011 => ?_) (fun hb4011 => ?_)
    · have es4012 : mi 256 10 = m 256 10 := (hFi 256 10 rfl)
      have tb4013 := hT.atp 256 10 0 10 rfl
      refine y_aload 119 c73_118 rfl rfl rfl ?_
      refine y_aload 120 c73_119 rfl rfl rfl ?_
      refine y_iconst 121 c73_120 rfl ?_
      refine y_ldc 123 c73_121 rfl (show 10 < gLit.length by decide) ?_
      refine y_callP 126 [.retAddr 21] [yI 0, .ref 256, .ref 256] c73_123 rfl rfl rfl rfl rfl (ycanS km8) t8_go (fun r4014 hr4014 => ?_)
      refine y_iconst 127 c73_126 rfl ?_
      refine y_callP 130 [.ref 256, yI 0, yI r4014, yI 0] [.ref 256] c73_127 rfl rfl rfl rfl rfl (ycanO km72 ko256) (t72_256 hTi (by omega) (by omega) (by omega)) (fun r4015 hr4015 => ?_)
      refine y_putI 133 c73_130 rfl kf256_17 (y_fit0 _) ?_
      have hT4016 := hTi.up 256 17 r4015 ((-1)) 9 rfl (by omega)
      have hF4017 := hFi.up 256 17 r4015 rfl
      refine y_iconst 134 c73_133 rfl ?_
      exact y_retI c73_134 (y_fit0 _) ⟨rfl, hT4016, hF4017, by omega, fun _ => ⟨hR.ext (fun j q _ _ => yup_na (by omega)) (fun j _ => yup_na (by omega)) (fun z => yup_na (by omega)), cast (by congr 1 <;> omega) (hN.fr (m' := yup mi 256 17 r4015) (fun j ja jb => ⟨yup_na (by omega), yup_na (by omega)⟩)), by rw [yup_eq]; have e10 := hFi 256 10 rfl; omega⟩⟩
    · have hsi := (hR.1 i.toNat (by omega) (by omega)).1
      have hs5 : mi (276 + i.toNat) 0 = 5 → 0 ≤ mi (276 + i.toNat) 6 := fun h5 => (hsi.2.2.2.1 h5).2
      refine y_aload 11 c73_10 rfl rfl rfl ?_
      refine y_getR 14 c73_11 rfl kf256_6 ?_
      refine y_iload 15 c73_14 rfl rfl ?_
      refine y_aaload 16 c73_15 rfl kr263 (by omega) ?_
      refine y_astore 17 c73_16 rfl rfl rfl ?_
      refine y_aload 18 c73_17 rfl rfl rfl ?_
      refine y_getX 21 (mi (276 + i.toNat) 0) c73_18 rfl (ff276_0 (by omega)) rfl ?_
      have tb4018 := hTi.atp (276 + i.toNat) 0 0 9 (ft276_0 (by omega))
      refine y_iconst 23 c73_21 rfl ?_
      refine y_icmp 34 26 c73_23 rfl rfl (yc_eq (by omega) (by omega)) (fun hb4019 => ?_) (fun hb4019 => ?_)
      · refine y_aload 35 c73_34 rfl rfl rfl ?_
        refine y_aload 36 c73_35 rfl rfl rfl ?_
        refine y_aload 37 c73_36 rfl rfl rfl ?_
        refine y_getX 40 (mi (276 + i.toNat) 4) c73_37 rfl (ff276_4 (by omega)) rfl ?_
        have tb4020 := hTi.atp (276 + i.toNat) 4 ((-2147483648)) 2147483647 (ft276_4 (by omega))
        have es4021 : mi 256 11 = m 256 11 := (hFi 256 11 rfl)
        have tb4022 := hT.atp 256 11 0 8 rfl
        refine y_callP 43 [.ref 256, yI (mi (276 + i.toNat) 4)] [.ref (276 + i.toNat)] c73_40 rfl rfl rfl rfl rfl (ycanO km46 ko256) (t46_256 hTi (by omega)) (fun r4023 hr4023 => ?_)
        refine y_putI 46 c73_43 rfl (ff276_6 (by omega)) (y_fit0 _) ?_
        have hT4024 := hTi.up (276 + i.toNat) 6 r4023 ((-1)) 11 (ft276_6 (by omega)) (by omega)
        have hF4025 := hFi.up (276 + i.toNat) 6 r4023 (wRs256_6 (by omega))
        refine y_goto 112 c73_46 rfl ?_
        refine y_iinc 115 c73_112 rfl rfl rfl ?_
        refine y_goto 2 c73_115 rfl ?_
        exact ih (m 256 16 - (i + 1) : Int).toNat (by omega) (i + 1) _  _ (by omega) (by omega) hT4024 hF4025 (hR.ext (fun j q h6 h7 => yup_nk h6) (fun j hj => yup_na (fun e => by have hj2 : j = i.toNat := (by omega); subst hj2; omega)) (fun z => yup_na (by omega))) (NL.snoc (k := i) (hN.fr (fun j ja jb => ⟨(yup_na (by omega)), (yup_na (by omega))⟩)) rfl (by omega) (by rw [yup_nk (by decide), yup_eq]; omega))
      · refine y_aload 27 c73_26 rfl rfl rfl ?_
        refine y_getX 30 (mi (276 + i.toNat) 0) c73_27 rfl (ff276_0 (by omega)) rfl ?_
        refine y_iconst 31 c73_30 rfl ?_
        refine y_icmp 49 34 c73_31 rfl rfl (yc_ne (by omega) (by omega)) (fun hb4026 => ?_) (fun hb4026 => ?_)
        · refine y_aload 50 c73_49 rfl rfl rfl ?_
          refine y_getX 53 (mi (276 + i.toNat) 0) c73_50 rfl (ff276_0 (by omega)) rfl ?_
          refine y_iconst 54 c73_53 rfl ?_
          refine y_icmp 66 57 c73_54 rfl rfl (yc_eq (by omega) (by omega)) (fun hb4027 => ?_) (fun hb4027 => ?_)
          · refine y_aload 67 c73_66 rfl rfl rfl ?_
            refine y_aload 68 c73_67 rfl rfl rfl ?_
            refine y_aload 69 c73_68 rfl rfl rfl ?_
            refine y_getX 72 (mi (276 + i.toNat) 4) c73_69 rfl (ff276_4 (by omega)) rfl ?_
            have tb4028 := hTi.atp (276 + i.toNat) 4 ((-2147483648)) 2147483647 (ft276_4 (by omega))
            have es4029 : mi 256 9 = m 256 9 := (hFi 256 9 rfl)
            have tb4030 := hT.atp 256 9 0 6 rfl
            refine y_callP 75 [.ref 256, yI (mi (276 + i.toNat) 4)] [.ref (276 + i.toNat)] c73_72 rfl rfl rfl rfl rfl (ycanO km41 ko256) (t41_256 hTi (by omega)) (fun r4031 hr4031 => ?_)
            refine y_putI 78 c73_75 rfl (ff276_7 (by omega)) (y_fit0 _) ?_
            have hT4032 := hTi.up (276 + i.toNat) 7 r4031 ((-1)) 5 (ft276_7 (by omega)) (by omega)
            have hF4033 := hFi.up (276 + i.toNat) 7 r4031 (wRs256_7 (by omega))
            refine y_aload 79 c73_78 rfl rfl rfl ?_
            refine y_getX 82 r4031 c73_79 rfl (ff276_7 (by omega)) (yup_eq _ _ _ _) ?_
            refine y_iconst 83 c73_82 rfl ?_
            refine y_icmp 91 86 c73_83 rfl rfl (yc_ne (by omega) (by omega)) (fun hb4034 => ?_) (fun hb4034 => ?_)
            · refine y_aload 92 c73_91 rfl rfl rfl ?_
              refine y_getX 95 (mi (276 + i.toNat) 0) c73_92 rfl (ff276_0 (by omega)) (yup_nk (by decide)) ?_
              refine y_iconst 96 c73_95 rfl ?_
              refine y_icmp 112 99 c73_96 rfl rfl (yc_ne (by omega) (by omega)) (fun hb4035 => ?_) (fun hb4035 => ?_)
              · exfalso; omega
              · refine y_aload 100 c73_99 rfl rfl rfl ?_
                refine y_getR 103 c73_100 rfl kf256_7 ?_
                refine y_aload 104 c73_103 rfl rfl rfl ?_
                refine y_getX 107 (mi (276 + i.toNat) 6) c73_104 rfl (ff276_6 (by omega)) (yup_nk (by decide)) ?_
                have tb4036 := hTi.atp (276 + i.toNat) 6 ((-1)) 11 (ft276_6 (by omega))
                refine y_aload 108 c73_107 rfl rfl rfl ?_
                refine y_getX 111 r4031 c73_108 rfl (ff276_7 (by omega)) (yup_eq _ _ _ _) ?_
                refine y_iastore 112 c73_111 rfl ka264 (by omega) (y_nar0 _) ?_
                have hT4037 := hT4032.up 264 ((mi (276 + i.toNat) 6).toNat) r4031 0 5 rfl (by omega)
                have hF4038 := hF4033.up 264 ((mi (276 + i.toNat) 6).toNat) r4031 rfl
                refine y_iinc 115 c73_112 rfl rfl rfl ?_
                refine y_goto 2 c73_115 rfl ?_
                exact ih (m 256 16 - (i + 1) : Int).toNat (by omega) (i + 1) _  _ (by omega) (by omega) hT4037 hF4038 (hR.ext (fun j q h6 h7 => (yup_na (by omega)).trans (yup_nk h7)) (fun j hj => (yup_na (by omega)).trans (yup_nk (by decide))) (fun z => (yup_na (by omega)).trans (yup_na (by omega)))) (NL.snoc (k := i) (hN.fr (fun j ja jb => ⟨((yup_na (by omega)).trans (yup_na (by omega))), ((yup_na (by omega)).trans (yup_na (by omega)))⟩)) rfl (by omega) (by rw [yup_na (by omega), yup_nk (by decide), yup_na (by omega), yup_nk (by decide)]; omega))
            · refine y_aload 87 c73_86 rfl rfl rfl ?_
              refine y_getX 90 (mi (276 + i.toNat) 5) c73_87 rfl (ff276_5 (by omega)) (yup_nk (by decide)) ?_
              have tb4039 := hTi.atp (276 + i.toNat) 5 0 320 (ft276_5 (by omega))
              exact y_retI c73_90 (y_fit0 _) ⟨rfl, hT4032, hF4033, by omega, fun h1 => by omega⟩
          · refine y_aload 58 c73_57 rfl rfl rfl ?_
            refine y_getX 61 (mi (276 + i.toNat) 0) c73_58 rfl (ff276_0 (by omega)) rfl ?_
            refine y_iconst 63 c73_61 rfl ?_
            refine y_icmp 112 66 c73_63 rfl rfl (yc_ne (by omega) (by omega)) (fun hb4040 => ?_) (fun hb4040 => ?_)
            · refine y_iinc 115 c73_112 rfl rfl rfl ?_
              refine y_goto 2 c73_115 rfl ?_
              exact ih (m 256 16 - (i + 1) : Int).toNat (by omega) (i + 1) _  _ (by omega) (by omega) hTi hFi hR (NL.snoc (k := i) (hN.fr (fun j ja jb => ⟨rfl, rfl⟩)) rfl (by omega) (by omega))
            · refine y_aload 67 c73_66 rfl rfl rfl ?_
              refine y_aload 68 c73_67 rfl rfl rfl ?_
              refine y_aload 69 c73_68 rfl rfl rfl ?_
              refine y_getX 72 (mi (276 + i.toNat) 4) c73_69 rfl (ff276_4 (by omega)) rfl ?_
              have tb4041 := hTi.atp (276 + i.toNat) 4 ((-2147483648)) 2147483647 (ft276_4 (by omega))
              have es4042 : mi 256 9 = m 256 9 := (hFi 256 9 rfl)
              have tb4043 := hT.atp 256 9 0 6 rfl
              refine y_callP 75 [.ref 256, yI (mi (276 + i.toNat) 4)] [.ref (276 + i.toNat)] c73_72 rfl rfl rfl rfl rfl (ycanO km41 ko256) (t41_256 hTi (by omega)) (fun r4044 hr4044 => ?_)
              refine y_putI 78 c73_75 rfl (ff276_7 (by omega)) (y_fit0 _) ?_
              have hT4045 := hTi.up (276 + i.toNat) 7 r4044 ((-1)) 5 (ft276_7 (by omega)) (by omega)
              have hF4046 := hFi.up (276 + i.toNat) 7 r4044 (wRs256_7 (by omega))
              refine y_aload 79 c73_78 rfl rfl rfl ?_
              refine y_getX 82 r4044 c73_79 rfl (ff276_7 (by omega)) (yup_eq _ _ _ _) ?_
              refine y_iconst 83 c73_82 rfl ?_
              refine y_icmp 91 86 c73_83 rfl rfl (yc_ne (by omega) (by omega)) (fun hb4047 => ?_) (fun hb4047 => ?_)
              · refine y_aload 92 c73_91 rfl rfl rfl ?_
                refine y_getX 95 (mi (276 + i.toNat) 0) c73_92 rfl (ff276_0 (by omega)) (yup_nk (by decide)) ?_
                refine y_iconst 96 c73_95 rfl ?_
                refine y_icmp 112 99 c73_96 rfl rfl (yc_ne (by omega) (by omega)) (fun hb4048 => ?_) (fun hb4048 => ?_)
                · refine y_iinc 115 c73_112 rfl rfl rfl ?_
                  refine y_goto 2 c73_115 rfl ?_
                  exact ih (m 256 16 - (i + 1) : Int).toNat (by omega) (i + 1) _  _ (by omega) (by omega) hT4045 hF4046 (hR.ext (fun j q h6 h7 => yup_nk h7) (fun j hj => yup_nk (by decide)) (fun z => yup_na (by omega))) (NL.snoc (k := i) (hN.fr (fun j ja jb => ⟨(yup_na (by omega)), (yup_na (by omega))⟩)) rfl (by omega) (by rw [yup_nk (by decide), yup_nk (by decide)]; omega))
                · exfalso; omega
              · refine y_aload 87 c73_86 rfl rfl rfl ?_
                refine y_getX 90 (mi (276 + i.toNat) 5) c73_87 rfl (ff276_5 (by omega)) (yup_nk (by decide)) ?_
                have tb4049 := hTi.atp (276 + i.toNat) 5 0 320 (ft276_5 (by omega))
                exact y_retI c73_90 (y_fit0 _) ⟨rfl, hT4045, hF4046, by omega, fun h1 => by omega⟩
        · refine y_aload 35 c73_34 rfl rfl rfl ?_
          refine y_aload 36 c73_35 rfl rfl rfl ?_
          refine y_aload 37 c73_36 rfl rfl rfl ?_
          refine y_getX 40 (mi (276 + i.toNat) 4) c73_37 rfl (ff276_4 (by omega)) rfl ?_
          have tb4050 := hTi.atp (276 + i.toNat) 4 ((-2147483648)) 2147483647 (ft276_4 (by omega))
          have es4051 : mi 256 11 = m 256 11 := (hFi 256 11 rfl)
          have tb4052 := hT.atp 256 11 0 8 rfl
          refine y_callP 43 [.ref 256, yI (mi (276 + i.toNat) 4)] [.ref (276 + i.toNat)] c73_40 rfl rfl rfl rfl rfl (ycanO km46 ko256) (t46_256 hTi (by omega)) (fun r4053 hr4053 => ?_)
          refine y_putI 46 c73_43 rfl (ff276_6 (by omega)) (y_fit0 _) ?_
          have hT4054 := hTi.up (276 + i.toNat) 6 r4053 ((-1)) 11 (ft276_6 (by omega)) (by omega)
          have hF4055 := hFi.up (276 + i.toNat) 6 r4053 (wRs256_6 (by omega))
          refine y_goto 112 c73_46 rfl ?_
          refine y_iinc 115 c73_112 rfl rfl rfl ?_
          refine y_goto 2 c73_115 rfl ?_
          exact ih (m 256 16 - (i + 1) : Int).toNat (by omega) (i + 1) _  _ (by omega) (by omega) hT4054 hF4055 (hR.ext (fun j q h6 h7 => yup_nk h6) (fun j hj => yup_na (fun e => by have hj2 : j = i.toNat := (by omega); subst hj2; omega)) (fun z => yup_na (by omega))) (NL.snoc (k := i) (hN.fr (fun j ja jb => ⟨(yup_na (by omega)), (yup_na (by omega))⟩)) rfl (by omega) (by rw [yup_nk (by decide), yup_eq]; omega))
set_option maxRecDepth 100000 in
theorem t73_256 {L : Nat} {xs : Nat → Int32} {d nn : Nat} {m : yM} (hT : Ty gT m) (hR : RG 276 265 m 0 (m 256 16) 0 (m 256 12) 0 (m 256 13)) : YC (gZ L xs) (d + 7) 73 [.ref 256] m nn (qI (fun r m' n' => n' = nn ∧ Ty gT m' ∧ Fr wRs256 m m' ∧ (-1 ≤ r ∧ r ≤ 320) ∧ (r = -1 → RG 276 265 m' 0 (m 256 16) 0 (m 256 12) 0 (m 256 13) ∧ NL 276 m' 0 (m 256 16) ∧ m' 256 17 < m 256 10))) := by
  refine YC.mkB [some (.ref 256), none, none] kn73 rfl rfl ?_
  refine y_iconst 1 c73_0 rfl ?_
  refine y_istore 2 c73_1 rfl rfl ?_
  have tb16 := hT.atp 256 16 0 40 rfl
  exact t73a_256 hT (m 256 16 - 0).toNat 0 none m (by omega) (by omega) hT Fr.rf hR (NL.nil (by omega))
def wPl256 (a q : Nat) : Bool := (a == 2 && (q == 2 || q == 3 || q == 4)) || decide (256 ≤ a ∧ a < 316)
def wPs256 (a _q : Nat) : Bool := a == 2 || a == 3 || a == 5 || a == 6 || a == 7 || decide (256 ≤ a ∧ a < 316)
theorem wFa_wPl256 : ∀ a q, wFa a q = true → wPl256 a q = true := by
  intro a q h
  simp [wFa] at h
  simp [wPl256]
  omega
theorem wAt_wPl256 : ∀ a q, wAt a q = true → wPl256 a q = true := by
  intro a q h
  simp [wAt] at h
  simp [wPl256]
  omega
theorem wHd256_wPl256 : ∀ a q, wHd256 a q = true → wPl256 a q = true := by
  intro a q h
  simp [wHd256] at h
  simp [wPl256]
  omega
theorem wFd256_wPl256 : ∀ a q, wFd256 a q = true → wPl256 a q = true := by
  intro a q h
  simp [wFd256] at h
  simp [wPl256]
  omega
theorem wRs256_wPl256 : ∀ a q, wRs256 a q = true → wPl256 a q = true := by
  intro a q h
  simp [wRs256] at h
  simp [wPl256]
  omega
theorem wMt256_wPl256 {c : Nat} : ∀ a q, wMt256 c a q = true → wPl256 a q = true := by
  intro a q h
  simp [wMt256] at h
  simp [wPl256]
  omega
theorem wTok_wPs256 : ∀ a q, wTok a q = true → wPs256 a q = true := by
  intro a q h
  simp [wTok] at h
  simp [wPs256]
  omega
theorem wCn256_wPs256 : ∀ a q, wCn256 a q = true → wPs256 a q = true := by
  intro a q h
  simp [wCn256] at h
  simp [wPs256]
  omega
theorem wPl256_wPs256 : ∀ a q, wPl256 a q = true → wPs256 a q = true := by
  intro a q h
  simp [wPl256] at h
  simp [wPs256]
  omega
theorem wHd256_n266 {j q : Nat} : wHd256 (266 + j) q = false := by
  cases h : wHd256 (266 + j) q with
  | false => rfl
  | true => simp [wHd256] at h <;> omega
theorem wHd256_n276 {j q : Nat} : wHd256 (276 + j) q = false := by
  cases h : wHd256 (276 + j) q with
  | false => rfl
  | true => simp [wHd256] at h <;> omega
theorem wFd256_n266 {j q : Nat} : wFd256 (266 + j) q = false := by
  cases h : wFd256 (266 + j) q with
  | false => rfl
  | true => simp [wFd256] at h <;> omega
theorem wFd256_n276 {j q : Nat} : wFd256 (276 + j) q = false := by
  cases h : wFd256 (276 + j) q with
  | false => rfl
  | true => simp [wFd256] at h <;> omega
theorem wRs256_n266 {j q : Nat} (h : j < 10) : wRs256 (266 + j) q = false := by
  cases h : wRs256 (266 + j) q with
  | false => rfl
  | true => simp [wRs256] at h <;> omega
theorem wRs256_e {j q : Nat} (h : q ≠ 6 ∧ q ≠ 7) : wRs256 (276 + j) q = false := by
  cases h : wRs256 (276 + j) q with
  | false => rfl
  | true => simp [wRs256] at h <;> omega
/-- what was read so far is sound -/
def SO256 (m : yM) : Prop := 1 ≤ m 256 9 ∧ RG 276 265 m 0 (m 256 16) 0 (m 256 12) 0 (m 256 13) ∧ EN 276 m 0 (m 256 16) (m 256 16) ∧ ES 266 m (m 256 10) (m 256 16)
theorem SO256.fr {m m' : yM} (h : SO256 m) (h9 : 1 ≤ m' 256 9) (h10 : m' 256 10 = m 256 10) (h12 : m' 256 12 = m 256 12) (h13 : m' 256 13 = m 256 13) (h16 : m' 256 16 = m 256 16) (e : ∀ j q, m' (276 + j) q = m (276 + j) q) (em : ∀ j q, m' (266 + j) q = m (266 + j) q) (ez : ∀ z, m' 265 z = m 265 z) : SO256 m' := by
  obtain ⟨-, g2, g3, g4⟩ := h
  unfold SO256
  rw [h10, h12, h13, h16]
  exact ⟨h9, g2.fr (fun j _ _ q _ => e j q) (fun z _ _ => ez z) (Int.le_refl _), g3.fr (fun j _ _ q => e j q) (Int.le_refl _), g4.fr (fun j _ => em j 5) (Int.le_refl _)⟩
theorem SO256.app {m m' : yM} (h : SO256 m) (h9 : m' 256 9 = m 256 9) (hb : 0 ≤ m 256 16 ∧ m 256 16 ≤ m' 256 16 ∧ 0 ≤ m 256 12 ∧ m 256 12 ≤ m' 256 12 ∧ 0 ≤ m 256 10) (h10 : m' 256 10 = m 256 10 + 1) (hF : Fr (wMt256 (m 256 16).toNat) m m') (hz : ∀ z : Nat, (z : Int) < m 256 13 → m' 265 z = m 265 z) (hR : RG 276 265 m' (m 256 16) (m' 256 16) (m 256 12) (m' 256 12) (m 256 13) (m' 256 13)) (hE : EN 276 m' (m 256 16) (m' 256 16) (m' 256 16)) (h5 : ∀ j : Nat, (j : Int) < m 256 10 → m' (266 + j) 5 = m (266 + j) 5) (h6 : m' (266 + (m 256 10).toNat) 5 ≤ m' 256 16) : SO256 m' := by
  obtain ⟨g1, g2, g3, g4⟩ := h
  refine ⟨by omega, ?_, ?_, ?_⟩
  · have k1 := g2.fr (m' := m') (c3 := m 256 12) (fun j ja jb q _ => hF _ _ (wMt256_n (by omega))) (fun z za zb => hz z zb) (Int.le_refl _)
    exact RG.app k1 hR (by omega) (by omega) (by omega)
  · have k1 := g3.fr (m' := m') (c2 := m' 256 16) (fun j ja jb q => hF _ _ (wMt256_n (by omega))) (by omega)
    exact EN.app k1 hE
  · rw [h10]
    exact ES.snoc (g4.fr h5 (by omega)) (by omega) h6
set_option maxRecDepth 100000 in
set_option maxHeartbeats 1000000 in
theorem t74a_256 {L : Nat} {xs : Nat → Int32} {d nn : Nat} {m : yM} {e : Int} (hT : Ty gT m) (he : 0 ≤ e ∧ e ≤ 320) (hE : m 5 e.toNat = 0) (ha : m 2 2 ≤ e) (hp : m 2 1 = 0) {n : Int} : ∀ (k : Nat) (g i : Int) (mi : yM), 320 - i = k → 0 ≤ i ∧ i ≤ 320 → g = 0 ∨ g = 1 → Ty gT mi → Fr wPl256 m mi → mi 2 2 ≤ e → MP 266 mi → (g = 1 → SO256 mi) → YW (gZ L xs) 74 (d + 14) 40 [some (.ref 2), some (.ref 1), some (yI n), some (.ref 256), some (yI g), some (yI i)] [] mi nn (qI (fun r m' n' => n' = nn ∧ Ty gT m' ∧ Fr wPl256 m m' ∧ (-1 ≤ r ∧ r ≤ 320) ∧ MP 266 m' ∧ (r = -1 → PS 256 m'))) := by
  intro k
  induction k using Nat.strongRecOn with
  | ind k ih =>
    intro g i mi hk hi0 hg0 hTi hFi h22 hMP hS
    have ti256_9 := hTi.atp 256 9 0 6 rfl
    have ti256_10 := hTi.atp 256 10 0 10 rfl
    have ti256_12 := hTi.atp 256 12 0 12 rfl
    have ti256_13 := hTi.atp 256 13 0 8 rfl
    have ti256_16 := hTi.atp 256 16 0 40 rfl
    have ti2_2 := hTi.atp 2 2 0 320 rfl
    refine y_iload 42 c74_40 rfl rfl ?_
    refine y_iconst 45 c74_42 rfl ?_
    refine y_icmp 139 48 c74_45 rfl rfl (yc_ge (by omega) (by omega)) (fun hb4056 => ?_) (fun hb4056 => ?_)
    · refine y_iload 141 c74_139 rfl rfl ?_
      refine y_if 154 144 c74_141 rfl rfl (yz_eq (by omega)) (fun hb4057 => ?_) (fun hb4057 => ?_)
      · refine y_aload 155 c74_154 rfl rfl rfl ?_
        refine y_getX 158 (mi 2 4) c74_155 rfl kf2_4 rfl ?_
        have tb4058 := hTi.atp 2 4 0 320 rfl
        exact y_retI c74_158 (y_fit0 _) ⟨rfl, hTi, hFi, by omega, hMP, fun h1 => by omega⟩
      · refine y_aload 145 c74_144 rfl rfl rfl ?_
        refine y_getS 148 (B := 256) c74_145 rfl kf2_1 (by first | rfl | (rw [show mi 2 1 = 0 from by have e : mi 2 1 = m 2 1 := (hFi 2 1 rfl); omega]; rfl)) ?_
        obtain ⟨hs9, hs1, hs2, hs3⟩ := hS (by omega)
        refine y_callIB 151 [.ref 256] [] c74_148 rfl rfl rfl rfl rfl (ycanO km73 ko256) (t73_256 hTi hs1) (fun rq4059 mq4059 nq4059 hq4059 => ?_)
        obtain ⟨rfl, hTq4059, hFq4059, hq4059, hGq4059⟩ := hq4059
        have hF4060 := hFi.tr hFq4059 wRs256_wPl256
        have hMP2 : MP 266 mq4059 := hMP.fr (fun k hk => hFq4059 _ _ (wRs256_n266 hk)) (fun k hk => hFq4059 _ _ (wRs256_n266 hk))
        refine y_goto 158 c74_151 rfl ?_
        have es4061 : mq4059 256 10 = mi 256 10 := (hFq4059 256 10 rfl)
        have es4062 : mq4059 256 12 = mi 256 12 := (hFq4059 256 12 rfl)
        have es4063 : mq4059 256 13 = mi 256 13 := (hFq4059 256 13 rfl)
        have es4064 : mq4059 256 16 = mi 256 16 := (hFq4059 256 16 rfl)
        refine y_retI c74_158 (y_fit0 _) ⟨rfl, hTq4059, hF4060, by omega, hMP2, fun h1 => ?_⟩
        obtain ⟨g1, g2, g3⟩ := hGq4059 h1
        unfold PS
        rw [hFq4059 256 16 rfl, hFq4059 256 12 rfl, hFq4059 256 13 rfl, hFq4059 256 10 rfl]
        exact ⟨g1, hs2.fr' (fun j q hq => hFq4059 _ _ (wRs256_e hq)), g2, hMP2, hs3.fr (fun j hj => hFq4059 _ _ (wRs256_n266 (by omega))) (Int.le_refl _), g3⟩
    · refine y_iload 50 c74_48 rfl rfl ?_
      refine y_if 139 53 c74_50 rfl rfl (yz_eq (by omega)) (fun hb4065 => ?_) (fun hb4065 => ?_)
      · refine y_iload 141 c74_139 rfl rfl ?_
        refine y_if 154 144 c74_141 rfl rfl (yz_eq (by omega)) (fun hb4066 => ?_) (fun hb4066 => ?_)
        · refine y_aload 155 c74_154 rfl rfl rfl ?_
          refine y_getX 158 (mi 2 4) c74_155 rfl kf2_4 rfl ?_
          have tb4067 := hTi.atp 2 4 0 320 rfl
          exact y_retI c74_158 (y_fit0 _) ⟨rfl, hTi, hFi, by omega, hMP, fun h1 => by omega⟩
        · exfalso; omega
      · have hs9 := (hS (by omega)).1
        refine y_aload 54 c74_53 rfl rfl rfl ?_
        refine y_getX 57 (mi 2 3) c74_54 rfl kf2_3 rfl ?_
        have tb4068 := hTi.atp 2 3 0 1 rfl
        refine y_if 139 60 c74_57 rfl rfl (yz_ne (by omega)) (fun hb4069 => ?_) (fun hb4069 => ?_)
        · refine y_iload 141 c74_139 rfl rfl ?_
          refine y_if 154 144 c74_141 rfl rfl (yz_eq (by omega)) (fun hb4070 => ?_) (fun hb4070 => ?_)
          · exfalso; omega
          · refine y_aload 145 c74_144 rfl rfl rfl ?_
            refine y_getS 148 (B := 256) c74_145 rfl kf2_1 (by first | rfl | (rw [show mi 2 1 = 0 from by have e : mi 2 1 = m 2 1 := (hFi 2 1 rfl); omega]; rfl)) ?_
            obtain ⟨hs9, hs1, hs2, hs3⟩ := hS (by omega)
            refine y_callIB 151 [.ref 256] [] c74_148 rfl rfl rfl rfl rfl (ycanO km73 ko256) (t73_256 hTi hs1) (fun rq4071 mq4071 nq4071 hq4071 => ?_)
            obtain ⟨rfl, hTq4071, hFq4071, hq4071, hGq4071⟩ := hq4071
            have hF4072 := hFi.tr hFq4071 wRs256_wPl256
            have hMP2 : MP 266 mq4071 := hMP.fr (fun k hk => hFq4071 _ _ (wRs256_n266 hk)) (fun k hk => hFq4071 _ _ (wRs256_n266 hk))
            refine y_goto 158 c74_151 rfl ?_
            have es4073 : mq4071 256 10 = mi 256 10 := (hFq4071 256 10 rfl)
            have es4074 : mq4071 256 12 = mi 256 12 := (hFq4071 256 12 rfl)
            have es4075 : mq4071 256 13 = mi 256 13 := (hFq4071 256 13 rfl)
            have es4076 : mq4071 256 16 = mi 256 16 := (hFq4071 256 16 rfl)
            refine y_retI c74_158 (y_fit0 _) ⟨rfl, hTq4071, hF4072, by omega, hMP2, fun h1 => ?_⟩
            obtain ⟨g1, g2, g3⟩ := hGq4071 h1
            unfold PS
            rw [hFq4071 256 16 rfl, hFq4071 256 12 rfl, hFq4071 256 13 rfl, hFq4071 256 10 rfl]
            exact ⟨g1, hs2.fr' (fun j q hq => hFq4071 _ _ (wRs256_e hq)), g2, hMP2, hs3.fr (fun j hj => hFq4071 _ _ (wRs256_n266 (by omega))) (Int.le_refl _), g3⟩
        · refine y_aload 61 c74_60 rfl rfl rfl ?_
          refine y_callP 64 [.ref 2] [] c74_61 rfl rfl rfl rfl rfl (ycanO km38 ko2) (t38 hTi he (by have e1 : mi 5 e.toNat = m 5 e.toNat := (hFi 5 e.toNat rfl); omega) (by omega)) (fun r4077 hr4077 => ?_)
          by_cases hk4078 : r4077 = 2
          · refine y_top 2 hk4078 ?_
            refine y_lsw 100 c74_64 (by decide) rfl rfl ?_
            refine y_aload 101 c74_100 rfl rfl rfl ?_
            have es4080 : mi 2 1 = m 2 1 := (hFi 2 1 rfl)
            have tb4081 := hT.atp 2 1 ((-1)) 1 rfl
            refine y_callIB 104 [.ref 2] [] c74_101 rfl rfl rfl rfl rfl (ycanO km49 ko2) (t49_256 hTi he (by have e1 : mi 5 e.toNat = m 5 e.toNat := (hFi 5 e.toNat rfl); omega) (by omega) (by omega) (by omega) (by omega)) (fun rq4079 mq4079 nq4079 hq4079 => ?_)
            obtain ⟨rfl, hTq4079, hFq4079, hq4079⟩ := hq4079
            have hF4082 := hFi.tr hFq4079 wFd256_wPl256
            refine y_istore 106 c74_104 rfl rfl ?_
            refine y_goto 133 c74_106 rfl ?_
            refine y_iinc 136 c74_133 rfl rfl rfl ?_
            refine y_goto 40 c74_136 rfl ?_
            have tb4083 := hTq4079.atp 2 2 0 320 rfl
            have es4084 : mq4079 256 9 = mi 256 9 := (hFq4079 256 9 rfl)
            have es4085 : mq4079 256 10 = mi 256 10 := (hFq4079 256 10 rfl)
            have es4086 : mq4079 256 12 = mi 256 12 := (hFq4079 256 12 rfl)
            have es4087 : mq4079 256 13 = mi 256 13 := (hFq4079 256 13 rfl)
            have es4088 : mq4079 256 16 = mi 256 16 := (hFq4079 256 16 rfl)
            refine ih (320 - (i + 1 : Int)).toNat (by omega) rq4079 (i + 1) _ (by omega) (by omega) (by omega) hTq4079 hF4082 (by omega) (hMP.fr (fun k hk => hFq4079 _ _ wFd256_n266) (fun k hk => hFq4079 _ _ wFd256_n266)) (fun h1 => ?_)
            exact (hS (by omega)).fr (by omega) (by omega) (by omega) (by omega) (by omega) (fun j q => hFq4079 _ _ wFd256_n276) (fun j q => hFq4079 _ _ wFd256_n266) (fun z => hFq4079 265 z rfl)
          by_cases hk4089 : r4077 = 3
          · refine y_top 3 hk4089 ?_
            refine y_lsw 109 c74_64 (by decide) rfl rfl ?_
            refine y_aload 110 c74_109 rfl rfl rfl ?_
            have es4091 : mi 2 1 = m 2 1 := (hFi 2 1 rfl)
            have tb4092 := hT.atp 2 1 ((-1)) 1 rfl
            refine y_callIB 113 [.ref 2] [] c74_110 rfl rfl rfl rfl rfl (ycanO km70 ko2) (t70_256 hTi he (by have e1 : mi 5 e.toNat = m 5 e.toNat := (hFi 5 e.toNat rfl); omega) (by omega) (by omega) (by omega) (by omega)) (fun rq4090 mq4090 nq4090 hq4090 => ?_)
            obtain ⟨rfl, hTq4090, hFq4090, hq4090, hZq4090, hMq4090, hGq4090⟩ := hq4090
            have hF4093 := hFi.tr hFq4090 wMt256_wPl256
            refine y_istore 115 c74_113 rfl rfl ?_
            refine y_goto 133 c74_115 rfl ?_
            refine y_iinc 136 c74_133 rfl rfl rfl ?_
            refine y_goto 40 c74_136 rfl ?_
            have tb4094 := hTq4090.atp 2 2 0 320 rfl
            have es4095 : mq4090 256 9 = mi 256 9 := (hFq4090 256 9 ((wMt256_lt (by decide)).trans rfl))
            have tb4096 := hTq4090.atp 256 10 0 10 rfl
            have tb4097 := hTq4090.atp 256 12 0 12 rfl
            have tb4098 := hTq4090.atp 256 13 0 8 rfl
            have tb4099 := hTq4090.atp 256 16 0 40 rfl
            refine ih (320 - (i + 1 : Int)).toNat (by omega) rq4090 (i + 1) _ (by omega) (by omega) (by omega) hTq4090 hF4093 (by omega) (hMq4090 hMP) (fun h1 => ?_)
            obtain ⟨g1, g2, g3, g4, g5⟩ := hGq4090 (by omega)
            exact (hS (by omega)).app (by omega) (by omega) g1 hFq4090 hZq4090 g2 g3 g4 g5
          by_cases hk4100 : r4077 = 125
          · refine y_top 125 hk4100 ?_
            refine y_lsw 118 c74_64 (by decide) rfl rfl ?_
            refine y_aload 119 c74_118 rfl rfl rfl ?_
            have es4102 : mi 2 1 = m 2 1 := (hFi 2 1 rfl)
            have tb4103 := hT.atp 2 1 ((-1)) 1 rfl
            refine y_callIB 122 [.ref 2] [] c74_119 rfl rfl rfl rfl rfl (ycanO km71 ko2) (t71_256 hTi he (by have e1 : mi 5 e.toNat = m 5 e.toNat := (hFi 5 e.toNat rfl); omega) (by omega) (by omega) (by omega) (by omega)) (fun rq4101 mq4101 nq4101 hq4101 => ?_)
            obtain ⟨rfl, hTq4101, hFq4101, hq4101⟩ := hq4101
            have hF4104 := hFi.tr hFq4101 wHd256_wPl256
            refine y_istore 124 c74_122 rfl rfl ?_
            refine y_goto 133 c74_124 rfl ?_
            refine y_iinc 136 c74_133 rfl rfl rfl ?_
            refine y_goto 40 c74_136 rfl ?_
            have tb4105 := hTq4101.atp 2 2 0 320 rfl
            have tb4106 := hTq4101.atp 256 9 0 6 rfl
            have es4107 : mq4101 256 10 = mi 256 10 := (hFq4101 256 10 rfl)
            have es4108 : mq4101 256 12 = mi 256 12 := (hFq4101 256 12 rfl)
            have es4109 : mq4101 256 13 = mi 256 13 := (hFq4101 256 13 rfl)
            have es4110 : mq4101 256 16 = mi 256 16 := (hFq4101 256 16 rfl)
            refine ih (320 - (i + 1 : Int)).toNat (by omega) rq4101 (i + 1) _ (by omega) (by omega) (by omega) hTq4101 hF4104 (by omega) (hMP.fr (fun k hk => hFq4101 _ _ wHd256_n266) (fun k hk => hFq4101 _ _ wHd256_n266)) (fun h1 => ?_)
            exact (hS (by omega)).fr (by omega) (by omega) (by omega) (by omega) (by omega) (fun j q => hFq4101 _ _ wHd256_n276) (fun j q => hFq4101 _ _ wHd256_n266) (fun z => hFq4101 265 z rfl)
          refine y_lsw 127 c74_64 (by omega) (by simp only [Op.lookupswitch.offset]; split <;> first | omega | (split <;> first | omega | (split <;> first | omega | rfl))) rfl ?_
          refine y_aload 128 c74_127 rfl rfl rfl ?_
          have es4112 : mi 2 1 = m 2 1 := (hFi 2 1 rfl)
          have tb4113 := hT.atp 2 1 ((-1)) 1 rfl
          refine y_callIB 131 [.ref 2] [] c74_128 rfl rfl rfl rfl rfl (ycanO km43 ko2) (t43 hTi) (fun rq4111 mq4111 nq4111 hq4111 => ?_)
          obtain ⟨rfl, hTq4111, hFq4111, hq4111⟩ := hq4111
          have hF4114 := hFi.tr hFq4111 wFa_wPl256
          refine y_istore 133 c74_131 rfl rfl ?_
          refine y_iinc 136 c74_133 rfl rfl rfl ?_
          refine y_goto 40 c74_136 rfl ?_
          have es4115 : mq4111 2 2 = mi 2 2 := (hFq4111 2 2 rfl)
          have es4116 : mq4111 256 9 = mi 256 9 := (hFq4111 256 9 rfl)
          have es4117 : mq4111 256 10 = mi 256 10 := (hFq4111 256 10 rfl)
          have es4118 : mq4111 256 12 = mi 256 12 := (hFq4111 256 12 rfl)
          have es4119 : mq4111 256 13 = mi 256 13 := (hFq4111 256 13 rfl)
          have es4120 : mq4111 256 16 = mi 256 16 := (hFq4111 256 16 rfl)
          refine ih (320 - (i + 1 : Int)).toNat (by omega) rq4111 (i + 1) _ (by omega) (by omega) (by omega) hTq4111 hF4114 (by omega) (hMP.fr (fun k hk => hFq4111 _ _ wFa_n266) (fun k hk => hFq4111 _ _ wFa_n266)) (fun h1 => ?_)
          exact (hS (by omega)).fr (by omega) (by omega) (by omega) (by omega) (by omega) (fun j q => hFq4111 _ _ wFa_n276) (fun j q => hFq4111 _ _ wFa_n266) (fun z => hFq4111 265 z rfl)
theorem wCn256_h {a q : Nat} (h : 256 < a) : wCn256 a q = false := by
  cases h : wCn256 a q with
  | false => rfl
  | true => simp [wCn256] at h <;> omega
theorem wTok_h {a q : Nat} (h : 7 < a) : wTok a q = false := by
  cases h : wTok a q with
  | false => rfl
  | true => simp [wTok] at h <;> omega
set_option maxRecDepth 100000 in
theorem t74h_256 {L : Nat} {xs : Nat → Int32} {d nn : Nat} {m : yM} {m0 : yM} {e : Int} (hT : Ty gT m) (he : 0 ≤ e ∧ e ≤ 320) (hE : m 5 e.toNat = 0) (ha : m 2 2 ≤ e) (hp : m 2 1 = 0) (h22 : m 2 2 = 0) (h16 : m 256 16 = 0 ∧ m 256 10 = 0) (h13 : m 256 13 = 0) {n : Int} (hF0 : Fr wPs256 m0 m) (hM : MP 266 m) : YW (gZ L xs) 74 (d + 14) 31 [some (.ref 2), some (.ref 1), some (yI n), some (.ref 256), none, none] [] m nn (qI (fun r m' n' => n' = nn ∧ Ty gT m' ∧ Fr wPs256 m0 m' ∧ (-1 ≤ r ∧ r ≤ 320) ∧ MP 266 m' ∧ (r = -1 → PS 256 m'))) := by
  have hF : Fr wPl256 m m := Fr.rf
  have tb9 := hT.atp 256 9 0 6 rfl
  refine y_aload 32 c74_31 rfl rfl rfl ?_
  have tb4122 := hT.atp 2 2 0 320 rfl
  have tb4123 := hT.atp 256 9 0 6 rfl
  have tb4124 := hT.atp 2 1 ((-1)) 1 rfl
  have tb4125 := hT.atp 2 3 0 1 rfl
  refine y_callIB 35 [.ref 2] [] c74_32 rfl rfl rfl rfl rfl (ycanO km45 ko2) (t45_256 hT he hE (by omega) (by omega)) (fun rq4121 mq4121 nq4121 hq4121 => ?_)
  obtain ⟨rfl, hTq4121, hFq4121, hq4121⟩ := hq4121
  have hF4126 := hF.tr hFq4121 wHd256_wPl256
  refine y_istore 37 c74_35 rfl rfl ?_
  refine y_iconst 38 c74_37 rfl ?_
  refine y_istore 40 c74_38 rfl rfl ?_
  have tb4127 := hTq4121.atp 256 9 0 6 rfl
  have es4128 : mq4121 256 10 = m 256 10 := (hFq4121 256 10 rfl)
  have tb4129 := hT.atp 256 10 0 10 rfl
  have es4130 : mq4121 256 12 = m 256 12 := (hFq4121 256 12 rfl)
  have tb4131 := hT.atp 256 12 0 12 rfl
  have es4132 : mq4121 256 13 = m 256 13 := (hFq4121 256 13 rfl)
  have tb4133 := hT.atp 256 13 0 8 rfl
  have es4134 : mq4121 256 16 = m 256 16 := (hFq4121 256 16 rfl)
  have tb4135 := hT.atp 256 16 0 40 rfl
  have es4136 : mq4121 2 1 = m 2 1 := (hFq4121 2 1 rfl)
  have tb4137 := hTq4121.atp 2 2 0 320 rfl
  refine YW.mono (t74a_256 hT he hE ha hp 320 rq4121 0 _ (by omega) (by omega) (by omega) hTq4121 hF4126 (by omega) (hM.fr (fun k hk => hFq4121 _ _ wHd256_n266) (fun k hk => hFq4121 _ _ wHd256_n266)) (fun h1 => ⟨by omega, RG.nil (by omega) (by omega), EN.nil (by omega), ES.nil (by omega)⟩)) (fun r m2 n2 hq => ?_)
  obtain ⟨x0, rfl, rfl, k1, k2, k3, k4, k5⟩ := hq
  exact ⟨x0, rfl, rfl, k1, hF0.tr k2 wPl256_wPs256, k3, k4, k5⟩
set_option maxRecDepth 100000 in
theorem t74_256 {L : Nat} {xs : Nat → Int32} {d nn : Nat} {m : yM} {n : Int} (hT : Ty gT m) (hn : 0 ≤ n ∧ n ≤ 320) (hM : MP 266 m) : YC (gZ L xs) (d + 14) 74 [.ref 2, .ref 1, yI n, .ref 256] m nn (qI (fun r m' n' => n' = nn ∧ Ty gT m' ∧ Fr wPs256 m m' ∧ (-1 ≤ r ∧ r ≤ 320) ∧ MP 266 m' ∧ (r = -1 → PS 256 m'))) := by
  refine YC.mkB [some (.ref 2), some (.ref 1), some (yI n), some (.ref 256), none, none] kn74 rfl rfl ?_
  have hF : Fr wPs256 m m := Fr.rf
  refine y_aload 1 c74_0 rfl rfl rfl ?_
  refine y_aload 2 c74_1 rfl rfl rfl ?_
  refine y_putS 5 0 c74_2 rfl kf2_1 rfl ?_
  have hT4138 := hT.up 2 1 0 ((-1)) 1 rfl (by omega)
  have hF4139 := hF.up 2 1 0 rfl
  refine y_aload 6 c74_5 rfl rfl rfl ?_
  refine y_getS 9 (B := 256) c74_6 rfl kf2_1 (by first | rfl | (rw [show (yup m 2 1 0) 2 1 = 0 from by have e : (yup m 2 1 0) 2 1 = 0 := rfl; omega]; rfl)) ?_
  refine y_callUB 12 [.ref 256] [] c74_9 rfl rfl rfl rfl rfl (ycanO km30 ko256) (t30_256 hT4138) (fun mq4140 nq4140 hq4140 => ?_)
  obtain ⟨rfl, hTq4140, hFq4140, hq4140⟩ := hq4140
  have hF4141 := hF4139.tr hFq4140 wCn256_wPs256
  refine y_aload 13 c74_12 rfl rfl rfl ?_
  refine y_getR 16 c74_13 rfl kf2_0 ?_
  refine y_aload 17 c74_16 rfl rfl rfl ?_
  refine y_iload 18 c74_17 rfl rfl ?_
  refine y_callUB 21 [.ref 3, .ref 1, yI n] [] c74_18 rfl rfl rfl rfl rfl (ycanO km36 ko3) (t36 hTq4140 n hn) (fun mq4142 nq4142 hq4142 => ?_)
  obtain ⟨rfl, hTq4142, hFq4142, e, he0, he1, hsz, hEe⟩ := hq4142
  have hF4143 := hF4141.tr hFq4142 wTok_wPs256
  refine y_aload 22 c74_21 rfl rfl rfl ?_
  refine y_iconst 23 c74_22 rfl ?_
  refine y_putI 26 c74_23 rfl kf2_2 (y_fit0 _) ?_
  have hT4144 := hTq4142.up 2 2 0 0 320 rfl (by omega)
  have hF4145 := hF4143.up 2 2 0 rfl
  refine y_aload 27 c74_26 rfl rfl rfl ?_
  refine y_iconst 28 c74_27 rfl ?_
  refine y_putI 31 c74_28 rfl kf2_3 (y_fit1 (by omega)) ?_
  have hT4146 := hT4144.up 2 3 0 0 1 rfl (by omega)
  have hF4147 := hF4145.up 2 3 0 rfl
  have es4148 : (yup (yup mq4142 2 2 0) 2 3 0) 256 9 = mq4140 256 9 := ((yup_na (by decide)).trans ((yup_na (by decide)).trans (hFq4142 256 9 rfl)))
  have tb4149 := hTq4140.atp 256 9 0 6 rfl
  have es4150 : (yup (yup mq4142 2 2 0) 2 3 0) 256 10 = mq4140 256 10 := ((yup_na (by decide)).trans ((yup_na (by decide)).trans (hFq4142 256 10 rfl)))
  have tb4151 := hTq4140.atp 256 10 0 10 rfl
  have es4152 : (yup (yup mq4142 2 2 0) 2 3 0) 256 12 = mq4140 256 12 := ((yup_na (by decide)).trans ((yup_na (by decide)).trans (hFq4142 256 12 rfl)))
  have tb4153 := hTq4140.atp 256 12 0 12 rfl
  have es4154 : (yup (yup mq4142 2 2 0) 2 3 0) 256 13 = mq4140 256 13 := ((yup_na (by decide)).trans ((yup_na (by decide)).trans (hFq4142 256 13 rfl)))
  have tb4155 := hTq4140.atp 256 13 0 8 rfl
  have es4156 : (yup (yup mq4142 2 2 0) 2 3 0) 256 16 = mq4140 256 16 := ((yup_na (by decide)).trans ((yup_na (by decide)).trans (hFq4142 256 16 rfl)))
  have tb4157 := hTq4140.atp 256 16 0 40 rfl
  have es4158 : (yup (yup mq4142 2 2 0) 2 3 0) 2 1 = 0 := ((yup_nk (by decide)).trans ((yup_nk (by decide)).trans ((hFq4142 2 1 rfl).trans ((hFq4140 2 1 rfl).trans (yup_eq _ _ _ _)))))
  have es4159 : (yup (yup mq4142 2 2 0) 2 3 0) 2 2 = 0 := rfl
  have hE2 : (yup (yup mq4142 2 2 0) 2 3 0) 5 e.toNat = 0 := by have e1 : (yup (yup mq4142 2 2 0) 2 3 0) 5 e.toNat = _ := ((yup_na (by decide)).trans (yup_na (by decide))); omega
  have hM2 : MP 266 (yup (yup mq4142 2 2 0) 2 3 0) := (((((hM).na (by decide)).fr (fun k hk => hFq4140 _ _ (wCn256_h (by omega))) (fun k hk => hFq4140 _ _ (wCn256_h (by omega)))).fr (fun k hk => hFq4142 _ _ (wTok_h (by omega))) (fun k hk => hFq4142 _ _ (wTok_h (by omega)))).na (by decide)).na (by decide)
  exact t74h_256 hT4146 ⟨he0, he1⟩ hE2 (by omega) (by omega) (by omega) (by omega) (by omega) hF4147 hM2
