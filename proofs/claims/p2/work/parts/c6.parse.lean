/-! CONTRACTS: resolve, parse. Printed by wip/whole/gen91.py -/
def wRs256 (a q : Nat) : Bool := (a == 256 && q == 17) || a == 264 || (decide (276 ≤ a ∧ a < 316) && (q == 6 || q == 7))
theorem wRs256_6 {k : Nat} (h : k < 40) : wRs256 (276 + k) 6 = true := by
  simp [wRs256]
  omega
theorem wRs256_7 {k : Nat} (h : k < 40) : wRs256 (276 + k) 7 = true := by
  simp [wRs256]
  omega
set_option maxRecDepth 100000 in
theorem t73a_256 {L : Nat} {xs : Nat → Int32} {d nn : Nat} {m : yM} (hT : Ty gT m) : ∀ (k : Nat) (i : Int) (x2 : Option Value) (mi : yM), m 256 16 - i = k → 0 ≤ i ∧ i ≤ m 256 16 → Ty gT mi → Fr wRs256 m mi → RG 276 265 mi 0 (m 256 16) 0 (m 256 12) 0 (m 256 13) → NL 276 mi 0 i → YW (gZ L xs) 73 (d + 7) 2 [some (.ref 256), some (yI i), x2] [] mi nn (qI (fun r m' n' => n' = nn ∧ Ty gT m' ∧ Fr wRs256 m m' ∧ (-1 ≤ r ∧ r ≤ 320) ∧ (r = -1 → RG 276 265 m' 0 (m 256 16) 0 (m 256 12) 0 (m 256 13) ∧ NL 276 m' 0 (m 256 16)))) := by
  intro k
  induction k using Nat.strongRecOn with
  | ind k ih =>
    intro i x2 mi hk hi hTi hFi hR hN
    have tb16 := hT.atp 256 16 0 40 rfl
    refine y_iload 3 c73_2 rfl rfl ?_
    refine y_aload 4 c73_3 rfl rfl rfl ?_
    refine y_getX 7 (m 256 16) c73_4 rfl kf256_16 (hFi 256 16 rfl) ?_
    refine y_icmp 118 10 c73_7 rfl rfl (yc_ge (by omega) (by omega)) (fun hb3985 => ?_) (fun hb3985 => ?_)
    · refine y_aload 119 c73_118 rfl rfl rfl ?_
      refine y_aload 120 c73_119 rfl rfl rfl ?_
      refine y_iconst 121 c73_120 rfl ?_
      refine y_ldc 123 c73_121 rfl (show 10 < gLit.length by decide) ?_
      refine y_callP 126 [.retAddr 21] [yI 0, .ref 256, .ref 256] c73_123 rfl rfl rfl rfl rfl (ycanS km8) t8_go (fun r3986 hr3986 => ?_)
      refine y_iconst 127 c73_126 rfl ?_
      refine y_callP 130 [.ref 256, yI 0, yI r3986, yI 0] [.ref 256] c73_127 rfl rfl rfl rfl rfl (ycanO km72 ko256) (t72_256 hTi (by omega) (by omega) (by omega)) (fun r3987 hr3987 => ?_)
      refine y_putI 133 c73_130 rfl kf256_17 (y_fit0 _) ?_
      have hT3988 := hTi.up 256 17 r3987 ((-1)) 9 rfl (by omega)
      have hF3989 := hFi.up 256 17 r3987 rfl
      refine y_iconst 134 c73_133 rfl ?_
      exact y_retI c73_134 (y_fit0 _) ⟨rfl, hT3988, hF3989, by omega, fun _ => ⟨hR.ext (fun j q _ _ => yup_na (by omega)) (fun j _ => yup_na (by omega)) (fun z => yup_na (by omega)), cast (by congr 1 <;> omega) (hN.fr (m' := yup mi 256 17 r3987) (fun j ja jb => ⟨yup_na (by omega), yup_na (by omega)⟩))⟩⟩
    · have hsi := (hR.1 i.toNat (by omega) (by omega)).1
      have hs5 : mi (276 + i.toNat) 0 = 5 → 0 ≤ mi (276 + i.toNat) 6 := fun h5 => (hsi.2.2.2.1 h5).2
      refine y_aload 11 c73_10 rfl rfl rfl ?_
      refine y_getR 14 c73_11 rfl kf256_6 ?_
      refine y_iload 15 c73_14 rfl rfl ?_
      refine y_aaload 16 c73_15 rfl kr263 (by omega) ?_
      refine y_astore 17 c73_16 rfl rfl rfl ?_
      refine y_aload 18 c73_17 rfl rfl rfl ?_
      refine y_getX 21 (mi (276 + i.toNat) 0) c73_18 rfl (ff276_0 (by omega)) rfl ?_
      have tb3990 := hTi.atp (276 + i.toNat) 0 0 9 (ft276_0 (by omega))
      refine y_iconst 23 c73_21 rfl ?_
      refine y_icmp 34 26 c73_23 rfl rfl (yc_eq (by omega) (by omega)) (fun hb3991 => ?_) (fun hb3991 => ?_)
      · refine y_aload 35 c73_34 rfl rfl rfl ?_
        refine y_aload 36 c73_35 rfl rfl rfl ?_
        refine y_aload 37 c73_36 rfl rfl rfl ?_
        refine y_getX 40 (mi (276 + i.toNat) 4) c73_37 rfl (ff276_4 (by omega)) rfl ?_
        have tb3992 := hTi.atp (276 + i.toNat) 4 ((-2147483648)) 2147483647 (ft276_4 (by omega))
        have es3993 : mi 256 11 = m 256 11 := (hFi 256 11 rfl)
        have tb3994 := hT.atp 256 11 0 8 rfl
        refine y_callP 43 [.ref 256, yI (mi (276 + i.toNat) 4)] [.ref (276 + i.toNat)] c73_40 rfl rfl rfl rfl rfl (ycanO km46 ko256) (t46_256 hTi (by omega)) (fun r3995 hr3995 => ?_)
        refine y_putI 46 c73_43 rfl (ff276_6 (by omega)) (y_fit0 _) ?_
        have hT3996 := hTi.up (276 + i.toNat) 6 r3995 ((-1)) 11 (ft276_6 (by omega)) (by omega)
        have hF3997 := hFi.up (276 + i.toNat) 6 r3995 (wRs256_6 (by omega))
        refine y_goto 112 c73_46 rfl ?_
        refine y_iinc 115 c73_112 rfl rfl rfl ?_
        refine y_goto 2 c73_115 rfl ?_
        exact ih (m 256 16 - (i + 1) : Int).toNat (by omega) (i + 1) _  _ (by omega) (by omega) hT3996 hF3997 (hR.ext (fun j q h6 h7 => yup_nk h6) (fun j hj => yup_na (fun e => by have : j = i.toNat := by omega
                                                                                        subst this; omega)) (fun z => yup_na (by omega))) (NL.snoc (k := i) (hN.fr (fun j ja jb => ⟨(yup_na (by omega)), (yup_na (by omega))⟩)) rfl (by omega) (by rw [yup_nk (by decide), yup_eq]; omega))
      · refine y_aload 27 c73_26 rfl rfl rfl ?_
        refine y_getX 30 (mi (276 + i.toNat) 0) c73_27 rfl (ff276_0 (by omega)) rfl ?_
        refine y_iconst 31 c73_30 rfl ?_
        refine y_icmp 49 34 c73_31 rfl rfl (yc_ne (by omega) (by omega)) (fun hb3998 => ?_) (fun hb3998 => ?_)
        · refine y_aload 50 c73_49 rfl rfl rfl ?_
          refine y_getX 53 (mi (276 + i.toNat) 0) c73_50 rfl (ff276_0 (by omega)) rfl ?_
          refine y_iconst 54 c73_53 rfl ?_
          refine y_icmp 66 57 c73_54 rfl rfl (yc_eq (by omega) (by omega)) (fun hb3999 => ?_) (fun hb3999 => ?_)
          · refine y_aload 67 c73_66 rfl rfl rfl ?_
            refine y_aload 68 c73_67 rfl rfl rfl ?_
            refine y_aload 69 c73_68 rfl rfl rfl ?_
            refine y_getX 72 (mi (276 + i.toNat) 4) c73_69 rfl (ff276_4 (by omega)) rfl ?_
            have tb4000 := hTi.atp (276 + i.toNat) 4 ((-2147483648)) 2147483647 (ft276_4 (by omega))
            have es4001 : mi 256 9 = m 256 9 := (hFi 256 9 rfl)
            have tb4002 := hT.atp 256 9 0 6 rfl
            refine y_callP 75 [.ref 256, yI (mi (276 + i.toNat) 4)] [.ref (276 + i.toNat)] c73_72 rfl rfl rfl rfl rfl (ycanO km41 ko256) (t41_256 hTi (by omega)) (fun r4003 hr4003 => ?_)
            refine y_putI 78 c73_75 rfl (ff276_7 (by omega)) (y_fit0 _) ?_
            have hT4004 := hTi.up (276 + i.toNat) 7 r4003 ((-1)) 5 (ft276_7 (by omega)) (by omega)
            have hF4005 := hFi.up (276 + i.toNat) 7 r4003 (wRs256_7 (by omega))
            refine y_aload 79 c73_78 rfl rfl rfl ?_
            refine y_getX 82 r4003 c73_79 rfl (ff276_7 (by omega)) (yup_eq _ _ _ _) ?_
            refine y_iconst 83 c73_82 rfl ?_
            refine y_icmp 91 86 c73_83 rfl rfl (yc_ne (by omega) (by omega)) (fun hb4006 => ?_) (fun hb4006 => ?_)
            · refine y_aload 92 c73_91 rfl rfl rfl ?_
              refine y_getX 95 (mi (276 + i.toNat) 0) c73_92 rfl (ff276_0 (by omega)) (yup_nk (by decide)) ?_
              refine y_iconst 96 c73_95 rfl ?_
              refine y_icmp 112 99 c73_96 rfl rfl (yc_ne (by omega) (by omega)) (fun hb4007 => ?_) (fun hb4007 => ?_)
              · exfalso; omega
              · refine y_aload 100 c73_99 rfl rfl rfl ?_
                refine y_getR 103 c73_100 rfl kf256_7 ?_
                refine y_aload 104 c73_103 rfl rfl rfl ?_
                refine y_getX 107 (mi (276 + i.toNat) 6) c73_104 rfl (ff276_6 (by omega)) (yup_nk (by decide)) ?_
                have tb4008 := hTi.atp (276 + i.toNat) 6 ((-1)) 11 (ft276_6 (by omega))
                refine y_aload 108 c73_107 rfl rfl rfl ?_
                refine y_getX 111 r4003 c73_108 rfl (ff276_7 (by omega)) (yup_eq _ _ _ _) ?_
                refine y_iastore 112 c73_111 rfl ka264 (by omega) (y_nar0 _) ?_
                have hT4009 := hT4004.up 264 ((mi (276 + i.toNat) 6).toNat) r4003 0 5 rfl (by omega)
                have hF4010 := hF4005.up 264 ((mi (276 + i.toNat) 6).toNat) r4003 rfl
                refine y_iinc 115 c73_112 rfl rfl rfl ?_
                refine y_goto 2 c73_115 rfl ?_
                exact ih (m 256 16 - (i + 1) : Int).toNat (by omega) (i + 1) _  _ (by omega) (by omega) hT4009 hF4010 (hR.ext (fun j q h6 h7 => (yup_na (by omega)).trans (yup_nk h7)) (fun j hj => (yup_na (by omega)).trans (yup_nk (by decide))) (fun z => (yup_na (by omega)).trans (yup_na (by omega)))) (NL.snoc (k := i) (hN.fr (fun j ja jb => ⟨((yup_na (by omega)).trans (yup_na (by omega))), ((yup_na (by omega)).trans (yup_na (by omega)))⟩)) rfl (by omega) (by rw [yup_na (by omega), yup_nk (by decide), yup_na (by omega), yup_nk (by decide)]; omega))
            · refine y_aload 87 c73_86 rfl rfl rfl ?_
              refine y_getX 90 (mi (276 + i.toNat) 5) c73_87 rfl (ff276_5 (by omega)) (yup_nk (by decide)) ?_
              have tb4011 := hTi.atp (276 + i.toNat) 5 0 320 (ft276_5 (by omega))
              exact y_retI c73_90 (y_fit0 _) ⟨rfl, hT4004, hF4005, by omega, fun h1 => by omega⟩
          · refine y_aload 58 c73_57 rfl rfl rfl ?_
            refine y_getX 61 (mi (276 + i.toNat) 0) c73_58 rfl (ff276_0 (by omega)) rfl ?_
            refine y_iconst 63 c73_61 rfl ?_
            refine y_icmp 112 66 c73_63 rfl rfl (yc_ne (by omega) (by omega)) (fun hb4012 => ?_) (fun hb4012 => ?_)
            · refine y_iinc 115 c73_112 rfl rfl rfl ?_
              refine y_goto 2 c73_115 rfl ?_
              exact ih (m 256 16 - (i + 1) : Int).toNat (by omega) (i + 1) _  _ (by omega) (by omega) hTi hFi hR (NL.snoc (k := i) (hN.fr (fun j ja jb => ⟨rfl, rfl⟩)) rfl (by omega) (by omega))
            · refine y_aload 67 c73_66 rfl rfl rfl ?_
              refine y_aload 68 c73_67 rfl rfl rfl ?_
              refine y_aload 69 c73_68 rfl rfl rfl ?_
              refine y_getX 72 (mi (276 + i.toNat) 4) c73_69 rfl (ff276_4 (by omega)) rfl ?_
              have tb4013 := hTi.atp (276 + i.toNat) 4 ((-2147483648)) 2147483647 (ft276_4 (by omega))
              have es4014 : mi 256 9 = m 256 9 := (hFi 256 9 rfl)
              have tb4015 := hT.atp 256 9 0 6 rfl
              refine y_callP 75 [.ref 256, yI (mi (276 + i.toNat) 4)] [.ref (276 + i.toNat)] c73_72 rfl rfl rfl rfl rfl (ycanO km41 ko256) (t41_256 hTi (by omega)) (fun r4016 hr4016 => ?_)
              refine y_putI 78 c73_75 rfl (ff276_7 (by omega)) (y_fit0 _) ?_
              have hT4017 := hTi.up (276 + i.toNat) 7 r4016 ((-1)) 5 (ft276_7 (by omega)) (by omega)
              have hF4018 := hFi.up (276 + i.toNat) 7 r4016 (wRs256_7 (by omega))
              refine y_aload 79 c73_78 rfl rfl rfl ?_
              refine y_getX 82 r4016 c73_79 rfl (ff276_7 (by omega)) (yup_eq _ _ _ _) ?_
              refine y_iconst 83 c73_82 rfl ?_
              refine y_icmp 91 86 c73_83 rfl rfl (yc_ne (by omega) (by omega)) (fun hb4019 => ?_) (fun hb4019 => ?_)
              · refine y_aload 92 c73_91 rfl rfl rfl ?_
                refine y_getX 95 (mi (276 + i.toNat) 0) c73_92 rfl (ff276_0 (by omega)) (yup_nk (by decide)) ?_
                refine y_iconst 96 c73_95 rfl ?_
                refine y_icmp 112 99 c73_96 rfl rfl (yc_ne (by omega) (by omega)) (fun hb4020 => ?_) (fun hb4020 => ?_)
                · refine y_iinc 115 c73_112 rfl rfl rfl ?_
                  refine y_goto 2 c73_115 rfl ?_
                  exact ih (m 256 16 - (i + 1) : Int).toNat (by omega) (i + 1) _  _ (by omega) (by omega) hT4017 hF4018 (hR.ext (fun j q h6 h7 => yup_nk h7) (fun j hj => yup_nk (by decide)) (fun z => yup_na (by omega))) (NL.snoc (k := i) (hN.fr (fun j ja jb => ⟨(yup_na (by omega)), (yup_na (by omega))⟩)) rfl (by omega) (by rw [yup_nk (by decide), yup_nk (by decide)]; omega))
                · exfalso; omega
              · refine y_aload 87 c73_86 rfl rfl rfl ?_
                refine y_getX 90 (mi (276 + i.toNat) 5) c73_87 rfl (ff276_5 (by omega)) (yup_nk (by decide)) ?_
                have tb4021 := hTi.atp (276 + i.toNat) 5 0 320 (ft276_5 (by omega))
                exact y_retI c73_90 (y_fit0 _) ⟨rfl, hT4017, hF4018, by omega, fun h1 => by omega⟩
        · refine y_aload 35 c73_34 rfl rfl rfl ?_
          refine y_aload 36 c73_35 rfl rfl rfl ?_
          refine y_aload 37 c73_36 rfl rfl rfl ?_
          refine y_getX 40 (mi (276 + i.toNat) 4) c73_37 rfl (ff276_4 (by omega)) rfl ?_
          have tb4022 := hTi.atp (276 + i.toNat) 4 ((-2147483648)) 2147483647 (ft276_4 (by omega))
          have es4023 : mi 256 11 = m 256 11 := (hFi 256 11 rfl)
          have tb4024 := hT.atp 256 11 0 8 rfl
          refine y_callP 43 [.ref 256, yI (mi (276 + i.toNat) 4)] [.ref (276 + i.toNat)] c73_40 rfl rfl rfl rfl rfl (ycanO km46 ko256) (t46_256 hTi (by omega)) (fun r4025 hr4025 => ?_)
          refine y_putI 46 c73_43 rfl (ff276_6 (by omega)) (y_fit0 _) ?_
          have hT4026 := hTi.up (276 + i.toNat) 6 r4025 ((-1)) 11 (ft276_6 (by omega)) (by omega)
          have hF4027 := hFi.up (276 + i.toNat) 6 r4025 (wRs256_6 (by omega))
          refine y_goto 112 c73_46 rfl ?_
          refine y_iinc 115 c73_112 rfl rfl rfl ?_
          refine y_goto 2 c73_115 rfl ?_
          exact ih (m 256 16 - (i + 1) : Int).toNat (by omega) (i + 1) _  _ (by omega) (by omega) hT4026 hF4027 (hR.ext (fun j q h6 h7 => yup_nk h6) (fun j hj => yup_na (fun e => by have : j = i.toNat := by omega
                                                                                        subst this; omega)) (fun z => yup_na (by omega))) (NL.snoc (k := i) (hN.fr (fun j ja jb => ⟨(yup_na (by omega)), (yup_na (by omega))⟩)) rfl (by omega) (by rw [yup_nk (by decide), yup_eq]; omega))
set_option maxRecDepth 100000 in
theorem t73_256 {L : Nat} {xs : Nat → Int32} {d nn : Nat} {m : yM} (hT : Ty gT m) (hR : RG 276 265 m 0 (m 256 16) 0 (m 256 12) 0 (m 256 13)) : YC (gZ L xs) (d + 7) 73 [.ref 256] m nn (qI (fun r m' n' => n' = nn ∧ Ty gT m' ∧ Fr wRs256 m m' ∧ (-1 ≤ r ∧ r ≤ 320) ∧ (r = -1 → RG 276 265 m' 0 (m 256 16) 0 (m 256 12) 0 (m 256 13) ∧ NL 276 m' 0 (m 256 16)))) := by
  refine YC.mkB [some (.ref 256), none, none] kn73 rfl rfl ?_
  refine y_iconst 1 c73_0 rfl ?_
  refine y_istore 2 c73_1 rfl rfl ?_
  have tb16 := hT.atp 256 16 0 40 rfl
  exact t73a_256 hT (m 256 16 - 0).toNat 0 none m (by omega) (by omega) hT Fr.rf hR (NL.nil (by omega))
def wPl256 (a q : Nat) : Bool := (a == 2 && (q == 2 || q == 3 || q == 4)) || decide (256 ≤ a ∧ a < 316)
def wPs256 (a _q : Nat) : Bool := a == 2 || a == 3 || a == 5 || a == 6 || a == 7 || decide (256 ≤ a ∧ a < 316)
theorem wFa_wPl256 : ∀ a q, wFa a q = true → wPl256 a q = true := by
  intro a q h
  simp [wFa] at h
  simp [wPl256]
  omega
theorem wAt_wPl256 : ∀ a q, wAt a q = true → wPl256 a q = true := by
  intro a q h
  simp [wAt] at h
  simp [wPl256]
  omega
theorem wHd256_wPl256 : ∀ a q, wHd256 a q = true → wPl256 a q = true := by
  intro a q h
  simp [wHd256] at h
  simp [wPl256]
  omega
theorem wFd256_wPl256 : ∀ a q, wFd256 a q = true → wPl256 a q = true := by
  intro a q h
  simp [wFd256] at h
  simp [wPl256]
  omega
theorem wRs256_wPl256 : ∀ a q, wRs256 a q = true → wPl256 a q = true := by
  intro a q h
  simp [wRs256] at h
  simp [wPl256]
  omega
theorem wMt256_wPl256 {c : Nat} : ∀ a q, wMt256 c a q = true → wPl256 a q = true := by
  intro a q h
  simp [wMt256] at h
  simp [wPl256]
  omega
theorem wTok_wPs256 : ∀ a q, wTok a q = true → wPs256 a q = true := by
  intro a q h
  simp [wTok] at h
  simp [wPs256]
  omega
theorem wCn256_wPs256 : ∀ a q, wCn256 a q = true → wPs256 a q = true := by
  intro a q h
  simp [wCn256] at h
  simp [wPs256]
  omega
theorem wPl256_wPs256 : ∀ a q, wPl256 a q = true → wPs256 a q = true := by
  intro a q h
  simp [wPl256] at h
  simp [wPs256]
  omega
theorem wHd256_n266 {j q : Nat} : wHd256 (266 + j) q = false := by
  cases h : wHd256 (266 + j) q with
  | false => rfl
  | true => simp [wHd256] at h <;> omega
theorem wHd256_n276 {j q : Nat} : wHd256 (276 + j) q = false := by
  cases h : wHd256 (276 + j) q with
  | false => rfl
  | true => simp [wHd256] at h <;> omega
theorem wFd256_n266 {j q : Nat} : wFd256 (266 + j) q = false := by
  cases h : wFd256 (266 + j) q with
  | false => rfl
  | true => simp [wFd256] at h <;> omega
theorem wFd256_n276 {j q : Nat} : wFd256 (276 + j) q = false := by
  cases h : wFd256 (276 + j) q with
  | false => rfl
  | true => simp [wFd256] at h <;> omega
theorem wRs256_n266 {j q : Nat} (h : j < 10) : wRs256 (266 + j) q = false := by
  cases h : wRs256 (266 + j) q with
  | false => rfl
  | true => simp [wRs256] at h <;> omega
theorem wRs256_e {j q : Nat} (h : q ≠ 6 ∧ q ≠ 7) : wRs256 (276 + j) q = false := by
  cases h : wRs256 (276 + j) q with
  | false => rfl
  | true => simp [wRs256] at h <;> omega
/-- what was read so far is sound -/
def SO256 (m : yM) : Prop := 1 ≤ m 256 9 ∧ RG 276 265 m 0 (m 256 16) 0 (m 256 12) 0 (m 256 13) ∧ EN 276 m 0 (m 256 16) (m 256 16) ∧ ES 266 m (m 256 10) (m 256 16)
theorem SO256.fr {m m' : yM} (h : SO256 m) (h9 : 1 ≤ m' 256 9) (h10 : m' 256 10 = m 256 10) (h12 : m' 256 12 = m 256 12) (h13 : m' 256 13 = m 256 13) (h16 : m' 256 16 = m 256 16) (e : ∀ j q, m' (276 + j) q = m (276 + j) q) (em : ∀ j q, m' (266 + j) q = m (266 + j) q) (ez : ∀ z, m' 265 z = m 265 z) : SO256 m' := by
  obtain ⟨-, g2, g3, g4⟩ := h
  unfold SO256
  rw [h10, h12, h13, h16]
  exact ⟨h9, g2.fr (fun j _ _ q _ => e j q) (fun z _ _ => ez z) (Int.le_refl _), g3.fr (fun j _ _ q => e j q) (Int.le_refl _), g4.fr (fun j _ => em j 5) (Int.le_refl _)⟩
theorem SO256.app {m m' : yM} (h : SO256 m) (h9 : m' 256 9 = m 256 9) (hb : 0 ≤ m 256 16 ∧ m 256 16 ≤ m' 256 16 ∧ 0 ≤ m 256 12 ∧ m 256 12 ≤ m' 256 12 ∧ 0 ≤ m 256 10) (h10 : m' 256 10 = m 256 10 + 1) (hF : Fr (wMt256 (m 256 16).toNat) m m') (hz : ∀ z : Nat, (z : Int) < m 256 13 → m' 265 z = m 265 z) (hR : RG 276 265 m' (m 256 16) (m' 256 16) (m 256 12) (m' 256 12) (m 256 13) (m' 256 13)) (hE : EN 276 m' (m 256 16) (m' 256 16) (m' 256 16)) (h5 : ∀ j : Nat, (j : Int) < m 256 10 → m' (266 + j) 5 = m (266 + j) 5) (h6 : m' (266 + (m 256 10).toNat) 5 ≤ m' 256 16) : SO256 m' := by
  obtain ⟨g1, g2, g3, g4⟩ := h
  refine ⟨by omega, ?_, ?_, ?_⟩
  · have k1 := g2.fr (m' := m') (c3 := m 256 12) (fun j ja jb q _ => hF _ _ (wMt256_n (by omega))) (fun z za zb => hz z zb) (Int.le_refl _)
    exact RG.app k1 hR (by omega) (by omega) (by omega)
  · have k1 := g3.fr (m' := m') (c2 := m' 256 16) (fun j ja jb q => hF _ _ (wMt256_n (by omega))) (by omega)
    exact EN.app k1 hE
  · rw [h10]
    exact ES.snoc (g4.fr h5 (by omega)) (by omega) h6
set_option maxRecDepth 100000 in
set_option maxHeartbeats 1000000 in
theorem t74a_256 {L : Nat} {xs : Nat → Int32} {d nn : Nat} {m : yM} {e : Int} (hT : Ty gT m) (he : 0 ≤ e ∧ e ≤ 320) (hE : m 5 e.toNat = 0) (ha : m 2 2 ≤ e) (hp : m 2 1 = 0) {n : Int} : ∀ (k : Nat) (g i : Int) (mi : yM), 320 - i = k → 0 ≤ i ∧ i ≤ 320 → g = 0 ∨ g = 1 → Ty gT mi → Fr wPl256 m mi → mi 2 2 ≤ e → MP 266 mi → (g = 1 → SO256 mi) → YW (gZ L xs) 74 (d + 14) 40 [some (.ref 2), some (.ref 1), some (yI n), some (.ref 256), some (yI g), some (yI i)] [] mi nn (qI (fun r m' n' => n' = nn ∧ Ty gT m' ∧ Fr wPl256 m m' ∧ (-1 ≤ r ∧ r ≤ 320) ∧ MP 266 m' ∧ (r = -1 → PS 256 m'))) := by
  intro k
  induction k using Nat.strongRecOn with
  | ind k ih =>
    intro g i mi hk hi0 hg0 hTi hFi h22 hMP hS
    have ti256_9 := hTi.atp 256 9 0 6 rfl
    have ti256_10 := hTi.atp 256 10 0 10 rfl
    have ti256_12 := hTi.atp 256 12 0 12 rfl
    have ti256_13 := hTi.atp 256 13 0 8 rfl
    have ti256_16 := hTi.atp 256 16 0 40 rfl
    have ti2_2 := hTi.atp 2 2 0 320 rfl
    refine y_iload 42 c74_40 rfl rfl ?_
    refine y_iconst 45 c74_42 rfl ?_
    refine y_icmp 139 48 c74_45 rfl rfl (yc_ge (by omega) (by omega)) (fun hb4028 => ?_) (fun hb4028 => ?_)
    · refine y_iload 141 c74_139 rfl rfl ?_
      refine y_if 154 144 c74_141 rfl rfl (yz_eq (by omega)) (fun hb4029 => ?_) (fun hb4029 => ?_)
      · refine y_aload 155 c74_154 rfl rfl rfl ?_
        refine y_getX 158 (mi 2 4) c74_155 rfl kf2_4 rfl ?_
        have tb4030 := hTi.atp 2 4 0 320 rfl
        exact y_retI c74_158 (y_fit0 _) ⟨rfl, hTi, hFi, by omega, hMP, fun h1 => by omega⟩
      · refine y_aload 145 c74_144 rfl rfl rfl ?_
        refine y_getS 148 (B := 256) c74_145 rfl kf2_1 (by rw [show mi 2 1 = 0 from by have e : mi 2 1 = m 2 1 := (hFi 2 1 rfl); omega]; rfl) ?_
        obtain ⟨hs9, hs1, hs2, hs3⟩ := hS (by omega)
        refine y_callIB 151 [.ref 256] [] c74_148 rfl rfl rfl rfl rfl (ycanO km73 ko256) (t73_256 hTi hs1) (fun rq4031 mq4031 nq4031 hq4031 => ?_)
        obtain ⟨rfl, hTq4031, hFq4031, hq4031, hGq4031⟩ := hq4031
        have hF4032 := hFi.tr hFq4031 wRs256_wPl256
        have hMP2 : MP 266 mq4031 := hMP.fr (fun k hk => hFq4031 _ _ (wRs256_n266 hk)) (fun k hk => hFq4031 _ _ (wRs256_n266 hk))
        refine y_goto 158 c74_151 rfl ?_
        have es4033 : mq4031 256 10 = mi 256 10 := (hFq4031 256 10 rfl)
        have es4034 : mq4031 256 12 = mi 256 12 := (hFq4031 256 12 rfl)
        have es4035 : mq4031 256 13 = mi 256 13 := (hFq4031 256 13 rfl)
        have es4036 : mq4031 256 16 = mi 256 16 := (hFq4031 256 16 rfl)
        refine y_retI c74_158 (y_fit0 _) ⟨rfl, hTq4031, hF4032, by omega, hMP2, fun h1 => ?_⟩
        obtain ⟨g1, g2⟩ := hGq4031 h1
        unfold PS
        rw [hFq4031 256 16 rfl, hFq4031 256 12 rfl, hFq4031 256 13 rfl, hFq4031 256 10 rfl]
        exact ⟨g1, hs2.fr' (fun j q hq => hFq4031 _ _ (wRs256_e hq)), g2, hMP2, hs3.fr (fun j hj => hFq4031 _ _ (wRs256_n266 (by omega))) (Int.le_refl _)⟩
    · refine y_iload 50 c74_48 rfl rfl ?_
      refine y_if 139 53 c74_50 rfl rfl (yz_eq (by omega)) (fun hb4037 => ?_) (fun hb4037 => ?_)
      · refine y_iload 141 c74_139 rfl rfl ?_
        refine y_if 154 144 c74_141 rfl rfl (yz_eq (by omega)) (fun hb4038 => ?_) (fun hb4038 => ?_)
        · refine y_aload 155 c74_154 rfl rfl rfl ?_
          refine y_getX 158 (mi 2 4) c74_155 rfl kf2_4 rfl ?_
          have tb4039 := hTi.atp 2 4 0 320 rfl
          exact y_retI c74_158 (y_fit0 _) ⟨rfl, hTi, hFi, by omega, hMP, fun h1 => by omega⟩
        · exfalso; omega
      · have hs9 := (hS (by omega)).1
        refine y_aload 54 c74_53 rfl rfl rfl ?_
        refine y_getX 57 (mi 2 3) c74_54 rfl kf2_3 rfl ?_
        have tb4040 := hTi.atp 2 3 0 1 rfl
        refine y_if 139 60 c74_57 rfl rfl (yz_ne (by omega)) (fun hb4041 => ?_) (fun hb4041 => ?_)
        · refine y_iload 141 c74_139 rfl rfl ?_
          refine y_if 154 144 c74_141 rfl rfl (yz_eq (by omega)) (fun hb4042 => ?_) (fun hb4042 => ?_)
          · exfalso; omega
          · refine y_aload 145 c74_144 rfl rfl rfl ?_
            refine y_getS 148 (B := 256) c74_145 rfl kf2_1 (by rw [show mi 2 1 = 0 from by have e : mi 2 1 = m 2 1 := (hFi 2 1 rfl); omega]; rfl) ?_
            obtain ⟨hs9, hs1, hs2, hs3⟩ := hS (by omega)
            refine y_callIB 151 [.ref 256] [] c74_148 rfl rfl rfl rfl rfl (ycanO km73 ko256) (t73_256 hTi hs1) (fun rq4043 mq4043 nq4043 hq4043 => ?_)
            obtain ⟨rfl, hTq4043, hFq4043, hq4043, hGq4043⟩ := hq4043
            have hF4044 := hFi.tr hFq4043 wRs256_wPl256
            have hMP2 : MP 266 mq4043 := hMP.fr (fun k hk => hFq4043 _ _ (wRs256_n266 hk)) (fun k hk => hFq4043 _ _ (wRs256_n266 hk))
            refine y_goto 158 c74_151 rfl ?_
            have es4045 : mq4043 256 10 = mi 256 10 := (hFq4043 256 10 rfl)
            have es4046 : mq4043 256 12 = mi 256 12 := (hFq4043 256 12 rfl)
            have es4047 : mq4043 256 13 = mi 256 13 := (hFq4043 256 13 rfl)
            have es4048 : mq4043 256 16 = mi 256 16 := (hFq4043 256 16 rfl)
            refine y_retI c74_158 (y_fit0 _) ⟨rfl, hTq4043, hF4044, by omega, hMP2, fun h1 => ?_⟩
            obtain ⟨g1, g2⟩ := hGq4043 h1
            unfold PS
            rw [hFq4043 256 16 rfl, hFq4043 256 12 rfl, hFq4043 256 13 rfl, hFq4043 256 10 rfl]
            exact ⟨g1, hs2.fr' (fun j q hq => hFq4043 _ _ (wRs256_e hq)), g2, hMP2, hs3.fr (fun j hj => hFq4043 _ _ (wRs256_n266 (by omega))) (Int.le_refl _)⟩
        · refine y_aload 61 c74_60 rfl rfl rfl ?_
          refine y_callP 64 [.ref 2] [] c74_61 rfl rfl rfl rfl rfl (ycanO km38 ko2) (t38 hTi he (by have e1 : mi 5 e.toNat = m 5 e.toNat := (hFi 5 e.toNat rfl); omega) (by omega)) (fun r4049 hr4049 => ?_)
          by_cases hk4050 : r4049 = 2
          · refine y_top 2 hk4050 ?_
            refine y_lsw 100 c74_64 (by decide) rfl rfl ?_
            refine y_aload 101 c74_100 rfl rfl rfl ?_
            have es4052 : mi 2 1 = m 2 1 := (hFi 2 1 rfl)
            have tb4053 := hT.atp 2 1 ((-1)) 1 rfl
            refine y_callIB 104 [.ref 2] [] c74_101 rfl rfl rfl rfl rfl (ycanO km49 ko2) (t49_256 hTi he (by have e1 : mi 5 e.toNat = m 5 e.toNat := (hFi 5 e.toNat rfl); omega) (by omega) (by omega) (by omega) (by omega)) (fun rq4051 mq4051 nq4051 hq4051 => ?_)
            obtain ⟨rfl, hTq4051, hFq4051, hq4051⟩ := hq4051
            have hF4054 := hFi.tr hFq4051 wFd256_wPl256
            refine y_istore 106 c74_104 rfl rfl ?_
            refine y_goto 133 c74_106 rfl ?_
            refine y_iinc 136 c74_133 rfl rfl rfl ?_
            refine y_goto 40 c74_136 rfl ?_
            have tb4055 := hTq4051.atp 2 2 0 320 rfl
            have es4056 : mq4051 256 9 = mi 256 9 := (hFq4051 256 9 rfl)
            have es4057 : mq4051 256 10 = mi 256 10 := (hFq4051 256 10 rfl)
            have es4058 : mq4051 256 12 = mi 256 12 := (hFq4051 256 12 rfl)
            have es4059 : mq4051 256 13 = mi 256 13 := (hFq4051 256 13 rfl)
            have es4060 : mq4051 256 16 = mi 256 16 := (hFq4051 256 16 rfl)
            refine ih (320 - (i + 1 : Int)).toNat (by omega) rq4051 (i + 1) _ (by omega) (by omega) (by omega) hTq4051 hF4054 (by omega) (hMP.fr (fun k hk => hFq4051 _ _ wFd256_n266) (fun k hk => hFq4051 _ _ wFd256_n266)) (fun h1 => ?_)
            exact (hS (by omega)).fr (by omega) (by omega) (by omega) (by omega) (by omega) (fun j q => hFq4051 _ _ wFd256_n276) (fun j q => hFq4051 _ _ wFd256_n266) (fun z => hFq4051 265 z rfl)
          by_cases hk4061 : r4049 = 3
          · refine y_top 3 hk4061 ?_
            refine y_lsw 109 c74_64 (by decide) rfl rfl ?_
            refine y_aload 110 c74_109 rfl rfl rfl ?_
            have es4063 : mi 2 1 = m 2 1 := (hFi 2 1 rfl)
            have tb4064 := hT.atp 2 1 ((-1)) 1 rfl
            refine y_callIB 113 [.ref 2] [] c74_110 rfl rfl rfl rfl rfl (ycanO km70 ko2) (t70_256 hTi he (by have e1 : mi 5 e.toNat = m 5 e.toNat := (hFi 5 e.toNat rfl); omega) (by omega) (by omega) (by omega) (by omega)) (fun rq4062 mq4062 nq4062 hq4062 => ?_)
            obtain ⟨rfl, hTq4062, hFq4062, hq4062, hZq4062, hMq4062, hGq4062⟩ := hq4062
            have hF4065 := hFi.tr hFq4062 wMt256_wPl256
            refine y_istore 115 c74_113 rfl rfl ?_
            refine y_goto 133 c74_115 rfl ?_
            refine y_iinc 136 c74_133 rfl rfl rfl ?_
            refine y_goto 40 c74_136 rfl ?_
            have tb4066 := hTq4062.atp 2 2 0 320 rfl
            have es4067 : mq4062 256 9 = mi 256 9 := (hFq4062 256 9 ((wMt256_lt (by decide)).trans rfl))
            have tb4068 := hTq4062.atp 256 10 0 10 rfl
            have tb4069 := hTq4062.atp 256 12 0 12 rfl
            have tb4070 := hTq4062.atp 256 13 0 8 rfl
            have tb4071 := hTq4062.atp 256 16 0 40 rfl
            refine ih (320 - (i + 1 : Int)).toNat (by omega) rq4062 (i + 1) _ (by omega) (by omega) (by omega) hTq4062 hF4065 (by omega) (hMq4062 hMP) (fun h1 => ?_)
            obtain ⟨g1, g2, g3, g4, g5⟩ := hGq4062 (by omega)
            exact (hS (by omega)).app (by omega) (by omega) g1 hFq4062 hZq4062 g2 g3 g4 g5
          by_cases hk4072 : r4049 = 125
          · refine y_top 125 hk4072 ?_
            refine y_lsw 118 c74_64 (by decide) rfl rfl ?_
            refine y_aload 119 c74_118 rfl rfl rfl ?_
            have es4074 : mi 2 1 = m 2 1 := (hFi 2 1 rfl)
            have tb4075 := hT.atp 2 1 ((-1)) 1 rfl
            refine y_callIB 122 [.ref 2] [] c74_119 rfl rfl rfl rfl rfl (ycanO km71 ko2) (t71_256 hTi he (by have e1 : mi 5 e.toNat = m 5 e.toNat := (hFi 5 e.toNat rfl); omega) (by omega) (by omega) (by omega) (by omega)) (fun rq4073 mq4073 nq4073 hq4073 => ?_)
            obtain ⟨rfl, hTq4073, hFq4073, hq4073⟩ := hq4073
            have hF4076 := hFi.tr hFq4073 wHd256_wPl256
            refine y_istore 124 c74_122 rfl rfl ?_
            refine y_goto 133 c74_124 rfl ?_
            refine y_iinc 136 c74_133 rfl rfl rfl ?_
            refine y_goto 40 c74_136 rfl ?_
            have tb4077 := hTq4073.atp 2 2 0 320 rfl
            have es4078 : mq4073 256 9 = mi 256 9 := (hFq4073 256 9 rfl)
            have es4079 : mq4073 256 10 = mi 256 10 := (hFq4073 256 10 rfl)
            have es4080 : mq4073 256 12 = mi 256 12 := (hFq4073 256 12 rfl)
            have es4081 : mq4073 256 13 = mi 256 13 := (hFq4073 256 13 rfl)
            have es4082 : mq4073 256 16 = mi 256 16 := (hFq4073 256 16 rfl)
            refine ih (320 - (i + 1 : Int)).toNat (by omega) rq4073 (i + 1) _ (by omega) (by omega) (by omega) hTq4073 hF4076 (by omega) (hMP.fr (fun k hk => hFq4073 _ _ wHd256_n266) (fun k hk => hFq4073 _ _ wHd256_n266)) (fun h1 => ?_)
            exact (hS (by omega)).fr (by omega) (by omega) (by omega) (by omega) (by omega) (fun j q => hFq4073 _ _ wHd256_n276) (fun j q => hFq4073 _ _ wHd256_n266) (fun z => hFq4073 265 z rfl)
          refine y_lsw 127 c74_64 (by omega) (by simp only [Op.lookupswitch.offset]; split <;> first | omega | (split <;> first | omega | (split <;> first | omega | rfl))) rfl ?_
          refine y_aload 128 c74_127 rfl rfl rfl ?_
          have es4084 : mi 2 1 = m 2 1 := (hFi 2 1 rfl)
          have tb4085 := hT.atp 2 1 ((-1)) 1 rfl
          refine y_callIB 131 [.ref 2] [] c74_128 rfl rfl rfl rfl rfl (ycanO km43 ko2) (t43 hTi) (fun rq4083 mq4083 nq4083 hq4083 => ?_)
          obtain ⟨rfl, hTq4083, hFq4083, hq4083⟩ := hq4083
          have hF4086 := hFi.tr hFq4083 wFa_wPl256
          refine y_istore 133 c74_131 rfl rfl ?_
          refine y_iinc 136 c74_133 rfl rfl rfl ?_
          refine y_goto 40 c74_136 rfl ?_
          have es4087 : mq4083 2 2 = mi 2 2 := (hFq4083 2 2 rfl)
          have es4088 : mq4083 256 9 = mi 256 9 := (hFq4083 256 9 rfl)
          have es4089 : mq4083 256 10 = mi 256 10 := (hFq4083 256 10 rfl)
          have es4090 : mq4083 256 12 = mi 256 12 := (hFq4083 256 12 rfl)
          have es4091 : mq4083 256 13 = mi 256 13 := (hFq4083 256 13 rfl)
          have es4092 : mq4083 256 16 = mi 256 16 := (hFq4083 256 16 rfl)
          refine ih (320 - (i + 1 : Int)).toNat (by omega) rq4083 (i + 1) _ (by omega) (by omega) (by omega) hTq4083 hF4086 (by omega) (hMP.fr (fun k hk => hFq4083 _ _ wFa_n266) (fun k hk => hFq4083 _ _ wFa_n266)) (fun h1 => ?_)
          exact (hS (by omega)).fr (by omega) (by omega) (by omega) (by omega) (by omega) (fun j q => hFq4083 _ _ wFa_n276) (fun j q => hFq4083 _ _ wFa_n266) (fun z => hFq4083 265 z rfl)
theorem wCn256_h {a q : Nat} (h : 256 < a) : wCn256 a q = false := by
  cases h : wCn256 a q with
  | false => rfl
  | true => simp [wCn256] at h <;> omega
theorem wTok_h {a q : Nat} (h : 7 < a) : wTok a q = false := by
  cases h : wTok a q with
  | false => rfl
  | true => simp [wTok] at h <;> omega
set_option maxRecDepth 100000 in
theorem t74h_256 {L : Nat} {xs : Nat → Int32} {d nn : Nat} {m : yM} {m0 : yM} {e : Int} (hT : Ty gT m) (he : 0 ≤ e ∧ e ≤ 320) (hE : m 5 e.toNat = 0) (ha : m 2 2 ≤ e) (hp : m 2 1 = 0) (h22 : m 2 2 = 0) (h16 : m 256 16 = 0 ∧ m 256 10 = 0) (h13 : m 256 13 = 0) {n : Int} (hF0 : Fr wPs256 m0 m) (hM : MP 266 m) : YW (gZ L xs) 74 (d + 14) 31 [some (.ref 2), some (.ref 1), some (yI n), some (.ref 256), none, none] [] m nn (qI (fun r m' n' => n' = nn ∧ Ty gT m' ∧ Fr wPs256 m0 m' ∧ (-1 ≤ r ∧ r ≤ 320) ∧ MP 266 m' ∧ (r = -1 → PS 256 m'))) := by
  have hF : Fr wPl256 m m := Fr.rf
  have tb9 := hT.atp 256 9 0 6 rfl
  refine y_aload 32 c74_31 rfl rfl rfl ?_
  have tb4094 := hT.atp 2 2 0 320 rfl
  have tb4095 := hT.atp 256 9 0 6 rfl
  have tb4096 := hT.atp 2 1 ((-1)) 1 rfl
  have tb4097 := hT.atp 2 3 0 1 rfl
  refine y_callIB 35 [.ref 2] [] c74_32 rfl rfl rfl rfl rfl (ycanO km45 ko2) (t45_256 hT he hE (by omega) (by omega)) (fun rq4093 mq4093 nq4093 hq4093 => ?_)
  obtain ⟨rfl, hTq4093, hFq4093, hq4093⟩ := hq4093
  have hF4098 := hF.tr hFq4093 wHd256_wPl256
  refine y_istore 37 c74_35 rfl rfl ?_
  refine y_iconst 38 c74_37 rfl ?_
  refine y_istore 40 c74_38 rfl rfl ?_
  have es4099 : mq4093 256 9 = m 256 9 := (hFq4093 256 9 rfl)
  have es4100 : mq4093 256 10 = m 256 10 := (hFq4093 256 10 rfl)
  have tb4101 := hT.atp 256 10 0 10 rfl
  have es4102 : mq4093 256 12 = m 256 12 := (hFq4093 256 12 rfl)
  have tb4103 := hT.atp 256 12 0 12 rfl
  have es4104 : mq4093 256 13 = m 256 13 := (hFq4093 256 13 rfl)
  have tb4105 := hT.atp 256 13 0 8 rfl
  have es4106 : mq4093 256 16 = m 256 16 := (hFq4093 256 16 rfl)
  have tb4107 := hT.atp 256 16 0 40 rfl
  have es4108 : mq4093 2 1 = m 2 1 := (hFq4093 2 1 rfl)
  have tb4109 := hTq4093.atp 2 2 0 320 rfl
  refine YW.mono (t74a_256 hT he hE ha hp 320 rq4093 0 _ (by omega) (by omega) (by omega) hTq4093 hF4098 (by omega) (hM.fr (fun k hk => hFq4093 _ _ wHd256_n266) (fun k hk => hFq4093 _ _ wHd256_n266)) (fun h1 => ⟨by omega, RG.nil (by omega) (by omega), EN.nil (by omega), ES.nil (by omega)⟩)) (fun r m2 n2 hq => ?_)
  obtain ⟨x0, rfl, rfl, k1, k2, k3, k4, k5⟩ := hq
  exact ⟨x0, rfl, rfl, k1, hF0.tr k2 wPl256_wPs256, k3, k4, k5⟩
set_option maxRecDepth 100000 in
theorem t74_256 {L : Nat} {xs : Nat → Int32} {d nn : Nat} {m : yM} {n : Int} (hT : Ty gT m) (hn : 0 ≤ n ∧ n ≤ 320) (hM : MP 266 m) : YC (gZ L xs) (d + 14) 74 [.ref 2, .ref 1, yI n, .ref 256] m nn (qI (fun r m' n' => n' = nn ∧ Ty gT m' ∧ Fr wPs256 m m' ∧ (-1 ≤ r ∧ r ≤ 320) ∧ MP 266 m' ∧ (r = -1 → PS 256 m'))) := by
  refine YC.mkB [some (.ref 2), some (.ref 1), some (yI n), some (.ref 256), none, none] kn74 rfl rfl ?_
  have hF : Fr wPs256 m m := Fr.rf
  refine y_aload 1 c74_0 rfl rfl rfl ?_
  refine y_aload 2 c74_1 rfl rfl rfl ?_
  refine y_putS 5 0 c74_2 rfl kf2_1 rfl ?_
  have hT4110 := hT.up 2 1 0 ((-1)) 1 rfl (by omega)
  have hF4111 := hF.up 2 1 0 rfl
  refine y_aload 6 c74_5 rfl rfl rfl ?_
  refine y_getS 9 (B := 256) c74_6 rfl kf2_1 (by rw [show (yup m 2 1 0) 2 1 = 0 from by have e : (yup m 2 1 0) 2 1 = 0 := rfl; omega]; rfl) ?_
  refine y_callUB 12 [.ref 256] [] c74_9 rfl rfl rfl rfl rfl (ycanO km30 ko256) (t30_256 hT4110) (fun mq4112 nq4112 hq4112 => ?_)
  obtain ⟨rfl, hTq4112, hFq4112, hq4112⟩ := hq4112
  have hF4113 := hF4111.tr hFq4112 wCn256_wPs256
  refine y_aload 13 c74_12 rfl rfl rfl ?_
  refine y_getR 16 c74_13 rfl kf2_0 ?_
  refine y_aload 17 c74_16 rfl rfl rfl ?_
  refine y_iload 18 c74_17 rfl rfl ?_
  refine y_callUB 21 [.ref 3, .ref 1, yI n] [] c74_18 rfl rfl rfl rfl rfl (ycanO km36 ko3) (t36 hTq4112 n hn) (fun mq4114 nq4114 hq4114 => ?_)
  obtain ⟨rfl, hTq4114, hFq4114, e, he0, he1, hsz, hEe⟩ := hq4114
  have hF4115 := hF4113.tr hFq4114 wTok_wPs256
  refine y_aload 22 c74_21 rfl rfl rfl ?_
  refine y_iconst 23 c74_22 rfl ?_
  refine y_putI 26 c74_23 rfl kf2_2 (y_fit0 _) ?_
  have hT4116 := hTq4114.up 2 2 0 0 320 rfl (by omega)
  have hF4117 := hF4115.up 2 2 0 rfl
  refine y_aload 27 c74_26 rfl rfl rfl ?_
  refine y_iconst 28 c74_27 rfl ?_
  refine y_putI 31 c74_28 rfl kf2_3 (y_fit1 (by omega)) ?_
  have hT4118 := hT4116.up 2 3 0 0 1 rfl (by omega)
  have hF4119 := hF4117.up 2 3 0 rfl
  have es4120 : (yup (yup mq4114 2 2 0) 2 3 0) 256 9 = mq4112 256 9 := ((yup_na (by decide)).trans ((yup_na (by decide)).trans (hFq4114 256 9 rfl)))
  have tb4121 := hTq4112.atp 256 9 0 6 rfl
  have es4122 : (yup (yup mq4114 2 2 0) 2 3 0) 256 10 = mq4112 256 10 := ((yup_na (by decide)).trans ((yup_na (by decide)).trans (hFq4114 256 10 rfl)))
  have tb4123 := hTq4112.atp 256 10 0 10 rfl
  have es4124 : (yup (yup mq4114 2 2 0) 2 3 0) 256 12 = mq4112 256 12 := ((yup_na (by decide)).trans ((yup_na (by decide)).trans (hFq4114 256 12 rfl)))
  have tb4125 := hTq4112.atp 256 12 0 12 rfl
  have es4126 : (yup (yup mq4114 2 2 0) 2 3 0) 256 13 = mq4112 256 13 := ((yup_na (by decide)).trans ((yup_na (by decide)).trans (hFq4114 256 13 rfl)))
  have tb4127 := hTq4112.atp 256 13 0 8 rfl
  have es4128 : (yup (yup mq4114 2 2 0) 2 3 0) 256 16 = mq4112 256 16 := ((yup_na (by decide)).trans ((yup_na (by decide)).trans (hFq4114 256 16 rfl)))
  have tb4129 := hTq4112.atp 256 16 0 40 rfl
  have es4130 : (yup (yup mq4114 2 2 0) 2 3 0) 2 1 = 0 := ((yup_nk (by decide)).trans ((yup_nk (by decide)).trans ((hFq4114 2 1 rfl).trans ((hFq4112 2 1 rfl).trans (yup_eq _ _ _ _)))))
  have es4131 : (yup (yup mq4114 2 2 0) 2 3 0) 2 2 = 0 := rfl
  have hE2 : (yup (yup mq4114 2 2 0) 2 3 0) 5 e.toNat = 0 := by have e1 : (yup (yup mq4114 2 2 0) 2 3 0) 5 e.toNat = _ := ((yup_na (by decide)).trans (yup_na (by decide))); omega
  have hM2 : MP 266 (yup (yup mq4114 2 2 0) 2 3 0) := (((((hM).na (by decide)).fr (fun k hk => hFq4112 _ _ (wCn256_h (by omega))) (fun k hk => hFq4112 _ _ (wCn256_h (by omega)))).fr (fun k hk => hFq4114 _ _ (wTok_h (by omega))) (fun k hk => hFq4114 _ _ (wTok_h (by omega)))).na (by decide)).na (by decide)
  exact t74h_256 hT4118 ⟨he0, he1⟩ hE2 (by omega) (by omega) (by omega) (by omega) hF4119 hM2
