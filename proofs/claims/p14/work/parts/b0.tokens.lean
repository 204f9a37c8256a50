section
/-! CONTRACTS: printed by wip/whole/gen80.py and on -/
set_option maxRecDepth 100000 in
theorem t7 {L : Nat} {xs : Nat → Int32} {d nn : Nat} {m : yM} {k c : Int} : YC (gZ L xs) d 7 [yI k, yI c] m nn (qP m nn (fun r => -2147483648 ≤ r ∧ r < 2147483648)) := by
  refine YC.mkB [some (yI k), some (yI c)] kn7 rfl rfl ?_
  refine y_iload 1 c7_0 rfl rfl ?_
  refine y_iconst 3 c7_1 rfl ?_
  refine y_imul 4 c7_3 rfl ?_
  refine y_iload 5 c7_4 rfl rfl ?_
  refine y_iconst 7 c7_5 rfl ?_
  refine y_isub 8 c7_7 rfl ?_
  refine y_iconst 9 c7_8 rfl ?_
  refine y_iadd 10 c7_9 rfl ?_
  refine y_iadd 11 c7_10 rfl ?_
  refine y_wrap (fun z1 hz1 gz1 => ?_)
  exact y_retP c7_11 (y_fit0 _) gz1
set_option maxRecDepth 100000 in
theorem t31 {L : Nat} {xs : Nat → Int32} {d nn : Nat} {m : yM} {c : Int} (hc : 0 ≤ c ∧ c ≤ 65535) : YC (gZ L xs) d 31 [yI c] m nn (qP m nn (fun r => (r = 1 ∧ 97 ≤ c ∧ c ≤ 122) ∨ (r = 0 ∧ ¬ (97 ≤ c ∧ c ≤ 122)))) := by
  refine YC.mkB [some (yI c)] kn31 rfl rfl ?_
  refine y_iload 1 c31_0 rfl rfl ?_
  refine y_iconst 3 c31_1 rfl ?_
  refine y_icmp 16 6 c31_3 rfl rfl (yc_lt (by omega) (by omega)) (fun hb2 => ?_) (fun hb2 => ?_)
  · refine y_iconst 17 c31_16 rfl ?_
    exact y_retP c31_17 (y_fit1 (by omega)) (by omega)
  · refine y_iload 7 c31_6 rfl rfl ?_
    refine y_iconst 9 c31_7 rfl ?_
    refine y_icmp 16 12 c31_9 rfl rfl (yc_gt (by omega) (by omega)) (fun hb3 => ?_) (fun hb3 => ?_)
    · refine y_iconst 17 c31_16 rfl ?_
      exact y_retP c31_17 (y_fit1 (by omega)) (by omega)
    · refine y_iconst 13 c31_12 rfl ?_
      refine y_goto 17 c31_13 rfl ?_
      exact y_retP c31_17 (y_fit1 (by omega)) (by omega)
set_option maxRecDepth 100000 in
theorem t34 {L : Nat} {xs : Nat → Int32} {d nn : Nat} {m : yM} {c : Int} (hc : 0 ≤ c ∧ c ≤ 65535) : YC (gZ L xs) d 34 [yI c] m nn (qP m nn (fun r => r = 0 ∨ r = 1)) := by
  refine YC.mkB [some (yI c)] kn34 rfl rfl ?_
  refine y_iload 1 c34_0 rfl rfl ?_
  refine y_iconst 3 c34_1 rfl ?_
  refine y_icmp 54 6 c34_3 rfl rfl (yc_eq (by omega) (by omega)) (fun hb4 => ?_) (fun hb4 => ?_)
  · refine y_iconst 55 c34_54 rfl ?_
    refine y_goto 59 c34_55 rfl ?_
    exact y_retP c34_59 (y_fit1 (by omega)) (by omega)
  · refine y_iload 7 c34_6 rfl rfl ?_
    refine y_iconst 9 c34_7 rfl ?_
    refine y_icmp 54 12 c34_9 rfl rfl (yc_eq (by omega) (by omega)) (fun hb5 => ?_) (fun hb5 => ?_)
    · refine y_iconst 55 c34_54 rfl ?_
      refine y_goto 59 c34_55 rfl ?_
      exact y_retP c34_59 (y_fit1 (by omega)) (by omega)
    · refine y_iload 13 c34_12 rfl rfl ?_
      refine y_iconst 15 c34_13 rfl ?_
      refine y_icmp 54 18 c34_15 rfl rfl (yc_eq (by omega) (by omega)) (fun hb6 => ?_) (fun hb6 => ?_)
      · refine y_iconst 55 c34_54 rfl ?_
        refine y_goto 59 c34_55 rfl ?_
        exact y_retP c34_59 (y_fit1 (by omega)) (by omega)
      · refine y_iload 19 c34_18 rfl rfl ?_
        refine y_iconst 21 c34_19 rfl ?_
        refine y_icmp 54 24 c34_21 rfl rfl (yc_eq (by omega) (by omega)) (fun hb7 => ?_) (fun hb7 => ?_)
        · refine y_iconst 55 c34_54 rfl ?_
          refine y_goto 59 c34_55 rfl ?_
          exact y_retP c34_59 (y_fit1 (by omega)) (by omega)
        · refine y_iload 25 c34_24 rfl rfl ?_
          refine y_iconst 27 c34_25 rfl ?_
          refine y_icmp 54 30 c34_27 rfl rfl (yc_eq (by omega) (by omega)) (fun hb8 => ?_) (fun hb8 => ?_)
          · refine y_iconst 55 c34_54 rfl ?_
            refine y_goto 59 c34_55 rfl ?_
            exact y_retP c34_59 (y_fit1 (by omega)) (by omega)
          · refine y_iload 31 c34_30 rfl rfl ?_
            refine y_iconst 33 c34_31 rfl ?_
            refine y_icmp 54 36 c34_33 rfl rfl (yc_eq (by omega) (by omega)) (fun hb9 => ?_) (fun hb9 => ?_)
            · refine y_iconst 55 c34_54 rfl ?_
              refine y_goto 59 c34_55 rfl ?_
              exact y_retP c34_59 (y_fit1 (by omega)) (by omega)
            · refine y_iload 37 c34_36 rfl rfl ?_
              refine y_iconst 39 c34_37 rfl ?_
              refine y_icmp 54 42 c34_39 rfl rfl (yc_eq (by omega) (by omega)) (fun hb10 => ?_) (fun hb10 => ?_)
              · refine y_iconst 55 c34_54 rfl ?_
                refine y_goto 59 c34_55 rfl ?_
                exact y_retP c34_59 (y_fit1 (by omega)) (by omega)
              · refine y_iload 43 c34_42 rfl rfl ?_
                refine y_iconst 45 c34_43 rfl ?_
                refine y_icmp 54 48 c34_45 rfl rfl (yc_eq (by omega) (by omega)) (fun hb11 => ?_) (fun hb11 => ?_)
                · refine y_iconst 55 c34_54 rfl ?_
                  refine y_goto 59 c34_55 rfl ?_
                  exact y_retP c34_59 (y_fit1 (by omega)) (by omega)
                · refine y_iload 49 c34_48 rfl rfl ?_
                  refine y_iconst 51 c34_49 rfl ?_
                  refine y_icmp 58 54 c34_51 rfl rfl (yc_ne (by omega) (by omega)) (fun hb12 => ?_) (fun hb12 => ?_)
                  · refine y_iconst 59 c34_58 rfl ?_
                    exact y_retP c34_59 (y_fit1 (by omega)) (by omega)
                  · refine y_iconst 55 c34_54 rfl ?_
                    refine y_goto 59 c34_55 rfl ?_
                    exact y_retP c34_59 (y_fit1 (by omega)) (by omega)
def wTok (a _q : Nat) : Bool := a == 3 || a == 5 || a == 6 || a == 7
set_option maxRecDepth 100000 in
theorem t32 {L : Nat} {xs : Nat → Int32} {d nn : Nat} {m : yM} {k p : Int} (hT : Ty gT m) (hs : m 3 4 ≤ 320) (hk : -2147483648 ≤ k ∧ k < 2147483648) (hp : 0 ≤ p ∧ p ≤ 320) : YC (gZ L xs) d 32 [.ref 3, yI k, yI p] m nn (qU (fun m' n' => n' = nn ∧ m' = yup (yup (yup (yup m 5 (m 3 4).toNat k) 6 (m 3 4).toNat p) 7 (m 3 4).toNat 0) 3 4 (m 3 4 + 1))) := by
  refine YC.mkB [some (.ref 3), some (yI k), some (yI p)] kn32 rfl rfl ?_
  refine y_aload 1 c32_0 rfl rfl rfl ?_
  refine y_getR 4 c32_1 rfl kf3_1 ?_
  refine y_aload 5 c32_4 rfl rfl rfl ?_
  refine y_getX 8 (m 3 4) c32_5 rfl kf3_4 rfl ?_
  have tb13 := hT.atp 3 4 0 321 rfl
  refine y_iload 9 c32_8 rfl rfl ?_
  refine y_iastore 10 c32_9 rfl ka5 (by omega) (y_nar0 _) ?_
  have hT14 := hT.up 5 ((m 3 4).toNat) k ((-2147483648)) 2147483647 rfl (by omega)
  refine y_aload 11 c32_10 rfl rfl rfl ?_
  refine y_getR 14 c32_11 rfl kf3_2 ?_
  refine y_aload 15 c32_14 rfl rfl rfl ?_
  refine y_getX 18 (m 3 4) c32_15 rfl kf3_4 rfl ?_
  refine y_iload 19 c32_18 rfl rfl ?_
  refine y_iastore 20 c32_19 rfl ka6 (by omega) (y_nar0 _) ?_
  have hT16 := hT14.up 6 ((m 3 4).toNat) p 0 320 rfl (by omega)
  refine y_aload 21 c32_20 rfl rfl rfl ?_
  refine y_getR 24 c32_21 rfl kf3_3 ?_
  refine y_aload 25 c32_24 rfl rfl rfl ?_
  refine y_getX 28 (m 3 4) c32_25 rfl kf3_4 rfl ?_
  refine y_iconst 29 c32_28 rfl ?_
  refine y_iastore 30 c32_29 rfl ka7 (by omega) (y_nar0 _) ?_
  have hT18 := hT16.up 7 ((m 3 4).toNat) 0 ((-2147483648)) 2147483647 rfl (by omega)
  refine y_aload 31 c32_30 rfl rfl rfl ?_
  refine y_dup 32 c32_31 rfl rfl ?_
  refine y_getX 35 (m 3 4) c32_32 rfl kf3_4 rfl ?_
  refine y_iconst 36 c32_35 rfl ?_
  refine y_iadd 37 c32_36 rfl ?_
  refine y_putI 40 c32_37 rfl kf3_4 (y_fit0 _) ?_
  have hT20 := hT18.up 3 4 ((m 3 4) + 1) 0 321 rfl (by omega)
  exact y_retU c32_40 ⟨rfl, rfl⟩
set_option maxRecDepth 100000 in
theorem t33 {L : Nat} {xs : Nat → Int32} {d nn : Nat} {m : yM} {c p l : Int} (hT : Ty gT m) (hc : 0 ≤ c ∧ c ≤ 65535) (hp : 0 ≤ p ∧ p ≤ 320) (hl : 1 ≤ l ∧ l ≤ 400) (h1 : l = 1 → m 3 4 ≤ 320) (h2 : l ≠ 1 → 1 ≤ m 3 4) : YC (gZ L xs) (d + 1) 33 [.ref 3, yI c, yI p, yI l] m nn (qU (fun m' n' => n' = nn ∧ Ty gT m' ∧ Fr wTok m m' ∧ ((l = 1 ∧ m' 3 4 = m 3 4 + 1) ∨ (l ≠ 1 ∧ m' 3 4 = m 3 4)))) := by
  refine YC.mkB [some (.ref 3), some (yI c), some (yI p), some (yI l), none] kn33 rfl rfl ?_
  have hF : Fr wTok m m := Fr.rf
  refine y_iload 1 c33_0 rfl rfl ?_
  refine y_iconst 2 c33_1 rfl ?_
  refine y_icmp 12 5 c33_2 rfl rfl (yc_ne (by omega) (by omega)) (fun hb22 => ?_) (fun hb22 => ?_)
  · refine y_aload 13 c33_12 rfl rfl rfl ?_
    refine y_getX 16 (m 3 4) c33_13 rfl kf3_4 rfl ?_
    have tb23 := hT.atp 3 4 0 321 rfl
    refine y_iconst 17 c33_16 rfl ?_
    refine y_isub 18 c33_17 rfl ?_
    refine y_istore 20 c33_18 rfl rfl ?_
    refine y_aload 21 c33_20 rfl rfl rfl ?_
    refine y_getR 24 c33_21 rfl kf3_3 ?_
    refine y_iload 26 c33_24 rfl rfl ?_
    refine y_aload 27 c33_26 rfl rfl rfl ?_
    refine y_getR 30 c33_27 rfl kf3_3 ?_
    refine y_iload 32 c33_30 rfl rfl ?_
    refine y_iaT 33 ((-2147483648)) 2147483647 c33_32 rfl ka7 (by omega) hT rfl (fun v24 hv24 gv24 => ?_)
    refine y_iload 34 c33_33 rfl rfl ?_
    refine y_callP 37 [yI v24, yI c] [yI ((m 3 4) - 1), .ref 7] c33_34 rfl rfl rfl rfl rfl (ycanS km7) t7 (fun r25 hr25 => ?_)
    refine y_iastore 38 c33_37 rfl ka7 (by omega) (y_nar0 _) ?_
    have hT26 := hT.up 7 (((m 3 4) - 1).toNat) r25 ((-2147483648)) 2147483647 rfl (by omega)
    have hF27 := hF.up 7 (((m 3 4) - 1).toNat) r25 rfl
    refine y_iload 39 c33_38 rfl rfl ?_
    refine y_iconst 41 c33_39 rfl ?_
    refine y_icmp 53 44 c33_41 rfl rfl (yc_le (by omega) (by omega)) (fun hb28 => ?_) (fun hb28 => ?_)
    · have es : (yup m 7 (((m 3 4) - 1).toNat) r25) 3 4 = m 3 4 := rfl
      exact y_retU c33_53 ⟨rfl, hT26, hF27, by omega⟩
    · refine y_aload 45 c33_44 rfl rfl rfl ?_
      refine y_getR 48 c33_45 rfl kf3_1 ?_
      refine y_iload 50 c33_48 rfl rfl ?_
      refine y_iconst 52 c33_50 rfl ?_
      refine y_iastore 53 c33_52 rfl ka5 (by omega) (y_nar0 _) ?_
      have hT29 := hT26.up 5 (((m 3 4) - 1).toNat) 12 ((-2147483648)) 2147483647 rfl (by omega)
      have hF30 := hF27.up 5 (((m 3 4) - 1).toNat) 12 rfl
      have es : (yup (yup m 7 (((m 3 4) - 1).toNat) r25) 5 (((m 3 4) - 1).toNat) 12) 3 4 = m 3 4 := rfl
      exact y_retU c33_53 ⟨rfl, hT29, hF30, by omega⟩
  · refine y_aload 6 c33_5 rfl rfl rfl ?_
    refine y_iconst 8 c33_6 rfl ?_
    refine y_iload 9 c33_8 rfl rfl ?_
    have eq31 : m 3 4 = m 3 4 := rfl
    have tb32 := hT.atp 3 4 0 321 rfl
    refine y_callUB 12 [.ref 3, yI 11, yI p] [] c33_9 rfl rfl rfl rfl rfl (ycanO km32 ko3) (t32 hT (by omega) (by omega) (by omega)) (fun mq31 nq31 hq31 => ?_)
    obtain ⟨rfl, rfl⟩ := hq31
    have hT33 := hT.up 5 ((m 3 4).toNat) 11 ((-2147483648)) 2147483647 rfl (by omega)
    have hF34 := hF.up 5 ((m 3 4).toNat) 11 rfl
    have hT35 := hT33.up 6 ((m 3 4).toNat) p 0 320 rfl (by omega)
    have hF36 := hF34.up 6 ((m 3 4).toNat) p rfl
    have hT37 := hT35.up 7 ((m 3 4).toNat) 0 ((-2147483648)) 2147483647 rfl (by omega)
    have hF38 := hF36.up 7 ((m 3 4).toNat) 0 rfl
    have hT39 := hT37.up 3 4 ((m 3 4) + 1) 0 321 rfl (by omega)
    have hF40 := hF38.up 3 4 ((m 3 4) + 1) rfl
    refine y_aload 13 c33_12 rfl rfl rfl ?_
    refine y_getX 16 ((m 3 4) + 1) c33_13 rfl kf3_4 rfl ?_
    refine y_iconst 17 c33_16 rfl ?_
    refine y_isub 18 c33_17 rfl ?_
    refine y_istore 20 c33_18 rfl rfl ?_
    refine y_aload 21 c33_20 rfl rfl rfl ?_
    refine y_getR 24 c33_21 rfl kf3_3 ?_
    refine y_iload 26 c33_24 rfl rfl ?_
    refine y_aload 27 c33_26 rfl rfl rfl ?_
    refine y_getR 30 c33_27 rfl kf3_3 ?_
    refine y_iload 32 c33_30 rfl rfl ?_
    refine y_iaT 33 ((-2147483648)) 2147483647 c33_32 rfl ka7 (by omega) hT39 rfl (fun v41 hv41 gv41 => ?_)
    refine y_iload 34 c33_33 rfl rfl ?_
    refine y_callP 37 [yI v41, yI c] [yI (((m 3 4) + 1) - 1), .ref 7] c33_34 rfl rfl rfl rfl rfl (ycanS km7) t7 (fun r42 hr42 => ?_)
    refine y_iastore 38 c33_37 rfl ka7 (by omega) (y_nar0 _) ?_
    have hT43 := hT39.up 7 ((((m 3 4) + 1) - 1).toNat) r42 ((-2147483648)) 2147483647 rfl (by omega)
    have hF44 := hF40.up 7 ((((m 3 4) + 1) - 1).toNat) r42 rfl
    refine y_iload 39 c33_38 rfl rfl ?_
    refine y_iconst 41 c33_39 rfl ?_
    refine y_icmp 53 44 c33_41 rfl rfl (yc_le (by omega) (by omega)) (fun hb45 => ?_) (fun hb45 => ?_)
    · have es : (yup (yup (yup (yup (yup m 5 ((m 3 4).toNat) 11) 6 ((m 3 4).toNat) p) 7 ((m 3 4).toNat) 0) 3 4 ((m 3 4) + 1)) 7 ((((m 3 4) + 1) - 1).toNat) r42) 3 4 = (m 3 4) + 1 := rfl
      exact y_retU c33_53 ⟨rfl, hT43, hF44, by omega⟩
    · exfalso; omega
def wKin (a _q : Nat) : Bool := a == 5
set_option maxRecDepth 100000 in
theorem t35b {L : Nat} {xs : Nat → Int32} {d nn : Nat} {m : yM} (hT : Ty gT m) (i : Int) (hi : 0 ≤ i ∧ i < m 3 4) (ho : (∀ (mi : yM) (x2 : Option Value), Ty gT mi → Fr wKin m mi → (∀ z, m 5 z = 0 → mi 5 z = 0) → YW (gZ L xs) 35 d 2 [some (.ref 3), some (yI (i + 1)), x2] [] mi nn (qU (fun m' n' => n' = nn ∧ Ty gT m' ∧ Fr wKin m m' ∧ ∀ z, m 5 z = 0 → m' 5 z = 0)))) : ∀ (k : Nat) (j : Int) (mi : yM), 11 - j = k → 1 ≤ j ∧ j ≤ 11 → Ty gT mi → Fr wKin m mi → (∀ z, m 5 z = 0 → mi 5 z = 0) → YW (gZ L xs) 35 d 12 [some (.ref 3), some (yI i), some (yI j)] [] mi nn (qU (fun m' n' => n' = nn ∧ Ty gT m' ∧ Fr wKin m m' ∧ ∀ z, m 5 z = 0 → m' 5 z = 0)) := by
  intro k
  induction k using Nat.strongRecOn with
  | ind k ih =>
    intro j mi hk hj hTi hFi hz
    have tb := hT.atp 3 4 0 321 rfl
    refine y_iload 13 c35_12 rfl rfl ?_
    refine y_aload 14 c35_13 rfl rfl rfl ?_
    refine y_getR 17 c35_14 rfl kf3_0 ?_
    refine y_alen 18 c35_17 rfl ka4 ?_
    refine y_icmp 60 21 c35_18 rfl rfl (yc_ge (by omega) (by omega)) (fun hb46 => ?_) (fun hb46 => ?_)
    · refine y_iinc 63 c35_60 rfl rfl rfl ?_
      refine y_goto 2 c35_63 rfl ?_
      exact ho _ _ hTi hFi hz
    · refine y_aload 22 c35_21 rfl rfl rfl ?_
      refine y_getR 25 c35_22 rfl kf3_1 ?_
      refine y_iload 26 c35_25 rfl rfl ?_
      refine y_iaT 27 ((-2147483648)) 2147483647 c35_26 rfl ka5 (by omega) hTi rfl (fun v47 hv47 gv47 => ?_)
      refine y_iconst 29 c35_27 rfl ?_
      refine y_icmp 60 32 c35_29 rfl rfl (yc_ne (by omega) (by omega)) (fun hb48 => ?_) (fun hb48 => ?_)
      · refine y_iinc 63 c35_60 rfl rfl rfl ?_
        refine y_goto 2 c35_63 rfl ?_
        exact ho _ _ hTi hFi hz
      · refine y_aload 33 c35_32 rfl rfl rfl ?_
        refine y_getR 36 c35_33 rfl kf3_0 ?_
        refine y_iload 37 c35_36 rfl rfl ?_
        refine y_iaT 38 ((-2147483648)) 2147483647 c35_37 rfl ka4 (by omega) hTi rfl (fun v49 hv49 gv49 => ?_)
        refine y_aload 39 c35_38 rfl rfl rfl ?_
        refine y_getR 42 c35_39 rfl kf3_3 ?_
        refine y_iload 43 c35_42 rfl rfl ?_
        refine y_iaT 44 ((-2147483648)) 2147483647 c35_43 rfl ka7 (by omega) hTi rfl (fun v50 hv50 gv50 => ?_)
        refine y_icmp 54 47 c35_44 rfl rfl (yc_ne (by omega) (by omega)) (fun hb51 => ?_) (fun hb51 => ?_)
        · refine y_iinc 57 c35_54 rfl rfl rfl ?_
          refine y_goto 12 c35_57 rfl ?_
          exact ih (11 - (j + 1) : Int).toNat (by omega) (j + 1)  _ (by omega) (by omega) hTi hFi hz
        · refine y_aload 48 c35_47 rfl rfl rfl ?_
          refine y_getR 51 c35_48 rfl kf3_1 ?_
          refine y_iload 52 c35_51 rfl rfl ?_
          refine y_iload 53 c35_52 rfl rfl ?_
          refine y_iastore 54 c35_53 rfl ka5 (by omega) (y_nar0 _) ?_
          have hT52 := hTi.up 5 i.toNat j ((-2147483648)) 2147483647 rfl (by omega)
          have hF53 := hFi.up 5 i.toNat j rfl
          refine y_iinc 57 c35_54 rfl rfl rfl ?_
          refine y_goto 12 c35_57 rfl ?_
          exact ih (11 - (j + 1) : Int).toNat (by omega) (j + 1)  _ (by omega) (by omega) hT52 hF53 (fun z hz0 => by
          by_cases e : z = i.toNat
          · subst e
            have := hz _ hz0
            omega
          · rw [yup_nk e]; exact hz z hz0)
set_option maxRecDepth 100000 in
theorem t35a {L : Nat} {xs : Nat → Int32} {d nn : Nat} {m : yM} (hT : Ty gT m) : ∀ (k : Nat) (i : Int) (x2 : Option Value) (mi : yM), m 3 4 - i = k → 0 ≤ i ∧ i ≤ m 3 4 → Ty gT mi → Fr wKin m mi → (∀ z, m 5 z = 0 → mi 5 z = 0) → YW (gZ L xs) 35 d 2 [some (.ref 3), some (yI i), x2] [] mi nn (qU (fun m' n' => n' = nn ∧ Ty gT m' ∧ Fr wKin m m' ∧ ∀ z, m 5 z = 0 → m' 5 z = 0)) := by
  intro k
  induction k using Nat.strongRecOn with
  | ind k ih =>
    intro i x2 mi hk hi hTi hFi hz
    have tb := hT.atp 3 4 0 321 rfl
    refine y_iload 3 c35_2 rfl rfl ?_
    refine y_aload 4 c35_3 rfl rfl rfl ?_
    refine y_getX 7 (m 3 4) c35_4 rfl kf3_4 (hFi 3 4 rfl) ?_
    refine y_icmp 66 10 c35_7 rfl rfl (yc_ge (by omega) (by omega)) (fun hb54 => ?_) (fun hb54 => ?_)
    · exact y_retU c35_66 ⟨rfl, hTi, hFi, hz⟩
    · refine y_iconst 11 c35_10 rfl ?_
      refine y_istore 12 c35_11 rfl rfl ?_
      exact t35b hT i (by omega) (fun mj x3 h1 h2 h3 => ih (m 3 4 - (i + 1)).toNat (by omega) (i + 1) x3 mj (by omega) (by omega) h1 h2 h3) 10 1 mi (by omega) (by omega) hTi hFi hz
set_option maxRecDepth 100000 in
theorem t35 {L : Nat} {xs : Nat → Int32} {d nn : Nat} {m : yM} (hT : Ty gT m) : YC (gZ L xs) d 35 [.ref 3] m nn (qU (fun m' n' => n' = nn ∧ Ty gT m' ∧ Fr wKin m m' ∧ ∀ z, m 5 z = 0 → m' 5 z = 0)) := by
  refine YC.mkB [some (.ref 3), none, none] kn35 rfl rfl ?_
  refine y_iconst 1 c35_0 rfl ?_
  refine y_istore 2 c35_1 rfl rfl ?_
  have tb := hT.atp 3 4 0 321 rfl
  exact t35a hT (m 3 4 - 0).toNat 0 none m (by omega) (by omega) hT Fr.rf (fun z h => h)
theorem wKin_Tok : ∀ a q, wKin a q = true → wTok a q = true := by
  intro a q h
  simp [wKin] at h
  simp [wTok, h]
set_option maxRecDepth 100000 in
theorem t36a {L : Nat} {xs : Nat → Int32} {d nn : Nat} {m : yM} (hT : Ty gT m) (n : Int) (hn : 0 ≤ n ∧ n ≤ 320) : ∀ (k : Nat) (e : Int) (l : Int) (i : Int) (x6 : Option Value) (mi : yM), n - i = k → 0 ≤ i ∧ i ≤ n → 0 ≤ e ∧ e ≤ 320 → 0 ≤ l ∧ l ≤ i → Ty gT mi → Fr wTok m mi → mi 3 4 ≤ i ∧ (1 ≤ l → 1 ≤ mi 3 4) → YW (gZ L xs) 36 (d + 2) 13 [some (.ref 3), some (.ref 1), some (yI n), some (yI e), some (yI l), some (yI i), x6] [] mi nn (qU (fun m' n' => n' = nn ∧ Ty gT m' ∧ Fr wTok m m' ∧ ∃ e : Int, 0 ≤ e ∧ e ≤ 320 ∧ m' 3 4 = e + 1 ∧ m' 5 e.toNat = 0)) := by
  intro k
  induction k using Nat.strongRecOn with
  | ind k ih =>
    intro e l i x6 mi hk hi he hl hTi hFi hs
    refine y_iload 15 c36_13 rfl rfl ?_
    refine y_iload 16 c36_15 rfl rfl ?_
    refine y_icmp 102 19 c36_16 rfl rfl (yc_ge (by omega) (by omega)) (fun hb55 => ?_) (fun hb55 => ?_)
    · refine y_aload 103 c36_102 rfl rfl rfl ?_
      refine y_iconst 104 c36_103 rfl ?_
      refine y_iload 105 c36_104 rfl rfl ?_
      have eq56 : mi 3 4 = mi 3 4 := rfl
      have tb57 := hTi.atp 3 4 0 321 rfl
      refine y_callUB 108 [.ref 3, yI 0, yI e] [] c36_105 rfl rfl rfl rfl rfl (ycanO km32 ko3) (t32 hTi (by omega) (by omega) (by omega)) (fun mq56 nq56 hq56 => ?_)
      obtain ⟨rfl, rfl⟩ := hq56
      have hT58 := hTi.up 5 ((mi 3 4).toNat) 0 ((-2147483648)) 2147483647 rfl (by omega)
      have hF59 := hFi.up 5 ((mi 3 4).toNat) 0 rfl
      have hT60 := hT58.up 6 ((mi 3 4).toNat) e 0 320 rfl (by omega)
      have hF61 := hF59.up 6 ((mi 3 4).toNat) e rfl
      have hT62 := hT60.up 7 ((mi 3 4).toNat) 0 ((-2147483648)) 2147483647 rfl (by omega)
      have hF63 := hF61.up 7 ((mi 3 4).toNat) 0 rfl
      have hT64 := hT62.up 3 4 ((mi 3 4) + 1) 0 321 rfl (by omega)
      have hF65 := hF63.up 3 4 ((mi 3 4) + 1) rfl
      refine y_aload 109 c36_108 rfl rfl rfl ?_
      refine y_callUB 112 [.ref 3] [] c36_109 rfl rfl rfl rfl rfl (ycanO km35 ko3) (t35 hT64) (fun mq66 nq66 hq66 => ?_)
      obtain ⟨rfl, hTq66, hFq66, hq66⟩ := hq66
      have hF67 := hF65.tr hFq66 wKin_Tok
      exact y_retU c36_112 ⟨rfl, hTq66, hF67, mi 3 4, by omega, by omega, (hFq66 3 4 rfl).trans (by simp [yup]), hq66 _ (by simp [yup])⟩
    · refine y_aload 20 c36_19 rfl rfl rfl ?_
      refine y_iload 22 c36_20 rfl rfl ?_
      refine y_iaT 23 0 65535 c36_22 rfl ka1 (by omega) hTi rfl (fun v68 hv68 gv68 => ?_)
      refine y_istore 25 c36_23 rfl rfl ?_
      refine y_iload 27 c36_25 rfl rfl ?_
      refine y_callP 30 [yI v68] [] c36_27 rfl rfl rfl rfl rfl (ycanS km31) (t31 (by omega)) (fun r69 hr69 => ?_)
      refine y_if 49 33 c36_30 rfl rfl (yz_eq (by omega)) (fun hb70 => ?_) (fun hb70 => ?_)
      · refine y_iconst 50 c36_49 rfl ?_
        refine y_istore 52 c36_50 rfl rfl ?_
        refine y_iload 54 c36_52 rfl rfl ?_
        refine y_iconst 56 c36_54 rfl ?_
        refine y_icmp 80 59 c36_56 rfl rfl (yc_eq (by omega) (by omega)) (fun hb71 => ?_) (fun hb71 => ?_)
        · refine y_iload 82 c36_80 rfl rfl ?_
          refine y_iconst 84 c36_82 rfl ?_
          refine y_icmp 91 87 c36_84 rfl rfl (yc_ne (by omega) (by omega)) (fun hb72 => ?_) (fun hb72 => ?_)
          · exfalso; omega
          · refine y_iload 88 c36_87 rfl rfl ?_
            refine y_goto 95 c36_88 rfl ?_
            refine y_istore 96 c36_95 rfl rfl ?_
            refine y_iinc 99 c36_96 rfl rfl rfl ?_
            refine y_goto 13 c36_99 rfl ?_
            exact ih (n - (i + 1) : Int).toNat (by omega) e 0 (i + 1) _  _ (by omega) (by omega) (by omega) (by omega) hTi hFi (by have e : mi 3 4 = mi 3 4 := rfl; omega)
        · refine y_aload 60 c36_59 rfl rfl rfl ?_
          refine y_iload 62 c36_60 rfl rfl ?_
          refine y_callP 65 [yI v68] [.ref 3] c36_62 rfl rfl rfl rfl rfl (ycanS km34) (t34 (by omega)) (fun r73 hr73 => ?_)
          refine y_if 73 68 c36_65 rfl rfl (yz_eq (by omega)) (fun hb74 => ?_) (fun hb74 => ?_)
          · refine y_iconst 75 c36_73 rfl ?_
            refine y_iload 77 c36_75 rfl rfl ?_
            have eq75 : mi 3 4 = mi 3 4 := rfl
            have tb76 := hTi.atp 3 4 0 321 rfl
            refine y_callUB 80 [.ref 3, yI 12, yI i] [] c36_77 rfl rfl rfl rfl rfl (ycanO km32 ko3) (t32 hTi (by omega) (by omega) (by omega)) (fun mq75 nq75 hq75 => ?_)
            obtain ⟨rfl, rfl⟩ := hq75
            have hT77 := hTi.up 5 ((mi 3 4).toNat) 12 ((-2147483648)) 2147483647 rfl (by omega)
            have hF78 := hFi.up 5 ((mi 3 4).toNat) 12 rfl
            have hT79 := hT77.up 6 ((mi 3 4).toNat) i 0 320 rfl (by omega)
            have hF80 := hF78.up 6 ((mi 3 4).toNat) i rfl
            have hT81 := hT79.up 7 ((mi 3 4).toNat) 0 ((-2147483648)) 2147483647 rfl (by omega)
            have hF82 := hF80.up 7 ((mi 3 4).toNat) 0 rfl
            have hT83 := hT81.up 3 4 ((mi 3 4) + 1) 0 321 rfl (by omega)
            have hF84 := hF82.up 3 4 ((mi 3 4) + 1) rfl
            refine y_iload 82 c36_80 rfl rfl ?_
            refine y_iconst 84 c36_82 rfl ?_
            refine y_icmp 91 87 c36_84 rfl rfl (yc_ne (by omega) (by omega)) (fun hb85 => ?_) (fun hb85 => ?_)
            · refine y_iload 93 c36_91 rfl rfl ?_
              refine y_iconst 94 c36_93 rfl ?_
              refine y_iadd 95 c36_94 rfl ?_
              refine y_istore 96 c36_95 rfl rfl ?_
              refine y_iinc 99 c36_96 rfl rfl rfl ?_
              refine y_goto 13 c36_99 rfl ?_
              exact ih (n - (i + 1) : Int).toNat (by omega) (i + 1) 0 (i + 1) _  _ (by omega) (by omega) (by omega) (by omega) hT83 hF84 (by have e : (yup (yup (yup (yup mi 5 ((mi 3 4).toNat) 12) 6 ((mi 3 4).toNat) i) 7 ((mi 3 4).toNat) 0) 3 4 ((mi 3 4) + 1)) 3 4 = (mi 3 4) + 1 := rfl; omega)
            · refine y_iload 88 c36_87 rfl rfl ?_
              refine y_goto 95 c36_88 rfl ?_
              refine y_istore 96 c36_95 rfl rfl ?_
              refine y_iinc 99 c36_96 rfl rfl rfl ?_
              refine y_goto 13 c36_99 rfl ?_
              exact ih (n - (i + 1) : Int).toNat (by omega) e 0 (i + 1) _  _ (by omega) (by omega) (by omega) (by omega) hT83 hF84 (by have e : (yup (yup (yup (yup mi 5 ((mi 3 4).toNat) 12) 6 ((mi 3 4).toNat) i) 7 ((mi 3 4).toNat) 0) 3 4 ((mi 3 4) + 1)) 3 4 = (mi 3 4) + 1 := rfl; omega)
          · refine y_iload 70 c36_68 rfl rfl ?_
            refine y_goto 75 c36_70 rfl ?_
            refine y_iload 77 c36_75 rfl rfl ?_
            have eq86 : mi 3 4 = mi 3 4 := rfl
            have tb87 := hTi.atp 3 4 0 321 rfl
            refine y_callUB 80 [.ref 3, yI v68, yI i] [] c36_77 rfl rfl rfl rfl rfl (ycanO km32 ko3) (t32 hTi (by omega) (by omega) (by omega)) (fun mq86 nq86 hq86 => ?_)
            obtain ⟨rfl, rfl⟩ := hq86
            have hT88 := hTi.up 5 ((mi 3 4).toNat) v68 ((-2147483648)) 2147483647 rfl (by omega)
            have hF89 := hFi.up 5 ((mi 3 4).toNat) v68 rfl
            have hT90 := hT88.up 6 ((mi 3 4).toNat) i 0 320 rfl (by omega)
            have hF91 := hF89.up 6 ((mi 3 4).toNat) i rfl
            have hT92 := hT90.up 7 ((mi 3 4).toNat) 0 ((-2147483648)) 2147483647 rfl (by omega)
            have hF93 := hF91.up 7 ((mi 3 4).toNat) 0 rfl
            have hT94 := hT92.up 3 4 ((mi 3 4) + 1) 0 321 rfl (by omega)
            have hF95 := hF93.up 3 4 ((mi 3 4) + 1) rfl
            refine y_iload 82 c36_80 rfl rfl ?_
            refine y_iconst 84 c36_82 rfl ?_
            refine y_icmp 91 87 c36_84 rfl rfl (yc_ne (by omega) (by omega)) (fun hb96 => ?_) (fun hb96 => ?_)
            · refine y_iload 93 c36_91 rfl rfl ?_
              refine y_iconst 94 c36_93 rfl ?_
              refine y_iadd 95 c36_94 rfl ?_
              refine y_istore 96 c36_95 rfl rfl ?_
              refine y_iinc 99 c36_96 rfl rfl rfl ?_
              refine y_goto 13 c36_99 rfl ?_
              exact ih (n - (i + 1) : Int).toNat (by omega) (i + 1) 0 (i + 1) _  _ (by omega) (by omega) (by omega) (by omega) hT94 hF95 (by have e : (yup (yup (yup (yup mi 5 ((mi 3 4).toNat) v68) 6 ((mi 3 4).toNat) i) 7 ((mi 3 4).toNat) 0) 3 4 ((mi 3 4) + 1)) 3 4 = (mi 3 4) + 1 := rfl; omega)
            · refine y_iload 88 c36_87 rfl rfl ?_
              refine y_goto 95 c36_88 rfl ?_
              refine y_istore 96 c36_95 rfl rfl ?_
              refine y_iinc 99 c36_96 rfl rfl rfl ?_
              refine y_goto 13 c36_99 rfl ?_
              exact ih (n - (i + 1) : Int).toNat (by omega) e 0 (i + 1) _  _ (by omega) (by omega) (by omega) (by omega) hT94 hF95 (by have e : (yup (yup (yup (yup mi 5 ((mi 3 4).toNat) v68) 6 ((mi 3 4).toNat) i) 7 ((mi 3 4).toNat) 0) 3 4 ((mi 3 4) + 1)) 3 4 = (mi 3 4) + 1 := rfl; omega)
      · refine y_iinc 36 c36_33 rfl rfl rfl ?_
        refine y_aload 37 c36_36 rfl rfl rfl ?_
        refine y_iload 39 c36_37 rfl rfl ?_
        refine y_iload 41 c36_39 rfl rfl ?_
        refine y_iload 43 c36_41 rfl rfl ?_
        have eq97 : mi 3 4 = mi 3 4 := rfl
        have tb98 := hTi.atp 3 4 0 321 rfl
        refine y_callUB 46 [.ref 3, yI v68, yI i, yI (l + 1)] [] c36_43 rfl rfl rfl rfl rfl (ycanO km33 ko3) (t33 hTi (by omega) (by omega) (by omega) (by omega) (by omega)) (fun mq97 nq97 hq97 => ?_)
        obtain ⟨rfl, hTq97, hFq97, hq97⟩ := hq97
        have hF99 := hFi.tr hFq97 (fun _ _ e => e)
        refine y_goto 80 c36_46 rfl ?_
        refine y_iload 82 c36_80 rfl rfl ?_
        refine y_iconst 84 c36_82 rfl ?_
        refine y_icmp 91 87 c36_84 rfl rfl (yc_ne (by omega) (by omega)) (fun hb100 => ?_) (fun hb100 => ?_)
        · refine y_iload 93 c36_91 rfl rfl ?_
          refine y_iconst 94 c36_93 rfl ?_
          refine y_iadd 95 c36_94 rfl ?_
          refine y_istore 96 c36_95 rfl rfl ?_
          refine y_iinc 99 c36_96 rfl rfl rfl ?_
          refine y_goto 13 c36_99 rfl ?_
          exact ih (n - (i + 1) : Int).toNat (by omega) (i + 1) (l + 1) (i + 1) _  _ (by omega) (by omega) (by omega) (by omega) hTq97 hF99 (by have e : mq97 3 4 = mq97 3 4 := rfl; omega)
        · refine y_iload 88 c36_87 rfl rfl ?_
          refine y_goto 95 c36_88 rfl ?_
          refine y_istore 96 c36_95 rfl rfl ?_
          refine y_iinc 99 c36_96 rfl rfl rfl ?_
          refine y_goto 13 c36_99 rfl ?_
          exact ih (n - (i + 1) : Int).toNat (by omega) e (l + 1) (i + 1) _  _ (by omega) (by omega) (by omega) (by omega) hTq97 hF99 (by have e : mq97 3 4 = mq97 3 4 := rfl; omega)
set_option maxRecDepth 100000 in
theorem t36 {L : Nat} {xs : Nat → Int32} {d nn : Nat} {m : yM} (hT : Ty gT m) (n : Int) (hn : 0 ≤ n ∧ n ≤ 320) : YC (gZ L xs) (d + 2) 36 [.ref 3, .ref 1, yI n] m nn (qU (fun m' n' => n' = nn ∧ Ty gT m' ∧ Fr wTok m m' ∧ ∃ e : Int, 0 ≤ e ∧ e ≤ 320 ∧ m' 3 4 = e + 1 ∧ m' 5 e.toNat = 0)) := by
  refine YC.mkB [some (.ref 3), some (.ref 1), some (yI n), none, none, none, none] kn36 rfl rfl ?_
  have hF : Fr wTok m m := Fr.rf
  refine y_aload 1 c36_0 rfl rfl rfl ?_
  refine y_iconst 2 c36_1 rfl ?_
  refine y_putI 5 c36_2 rfl kf3_4 (y_fit0 _) ?_
  have hT101 := hT.up 3 4 0 0 321 rfl (by omega)
  have hF102 := hF.up 3 4 0 rfl
  refine y_iconst 6 c36_5 rfl ?_
  refine y_istore 7 c36_6 rfl rfl ?_
  refine y_iconst 8 c36_7 rfl ?_
  refine y_istore 10 c36_8 rfl rfl ?_
  refine y_iconst 11 c36_10 rfl ?_
  refine y_istore 13 c36_11 rfl rfl ?_
  exact t36a hT n hn (n - 0 : Int).toNat 0 0 0 _  _ (by omega) (by omega) (by omega) (by omega) hT101 hF102 (by have e : (yup m 3 4 0) 3 4 = 0 := rfl; omega)
end
section
/-! CONTRACTS: printed by wip/whole/gen80.py and on -/
set_option maxRecDepth 100000 in
theorem t40a {L : Nat} {xs : Nat → Int32} {d nn : Nat} {m : yM} {R ln : Nat} {e v : Int} (hT : Ty gT m) (hR : yarr gSh 414 R = some (0, ln)) (hR2 : ∀ q, gT R q = (-2147483648, 2147483647)) (he : 0 ≤ e ∧ e ≤ ln) (hln : ln ≤ 1000) (hv : -2147483648 ≤ v ∧ v < 2147483648) : ∀ (k : Nat) (i : Int), e - i = k → 0 ≤ i ∧ i ≤ e → YW (gZ L xs) 40 d 2 [some (.ref R), some (yI e), some (yI v), some (yI i)] [] m nn (qP m nn (fun r => -1 ≤ r ∧ r < e)) := by
  intro k
  induction k using Nat.strongRecOn with
  | ind k ih =>
    intro i hk hi
    refine y_iload 3 c40_2 rfl rfl ?_
    refine y_iload 4 c40_3 rfl rfl ?_
    refine y_icmp 22 7 c40_4 rfl rfl (yc_ge (by omega) (by omega)) (fun hb103 => ?_) (fun hb103 => ?_)
    · refine y_iconst 23 c40_22 rfl ?_
      exact y_retP c40_23 (y_fit0 _) (by omega)
    · refine y_aload 8 c40_7 rfl rfl rfl ?_
      refine y_iload 9 c40_8 rfl rfl ?_
      refine y_iaT 10 ((-2147483648)) 2147483647 c40_9 rfl hR (by omega) hT (hR2 _) (fun v104 hv104 gv104 => ?_)
      refine y_iload 11 c40_10 rfl rfl ?_
      refine y_icmp 16 14 c40_11 rfl rfl (yc_ne (by omega) (by omega)) (fun hb105 => ?_) (fun hb105 => ?_)
      · refine y_iinc 19 c40_16 rfl rfl rfl ?_
        refine y_goto 2 c40_19 rfl ?_
        exact ih (e - (i + 1) : Int).toNat (by omega) (i + 1)   (by omega) (by omega)
      · refine y_iload 15 c40_14 rfl rfl ?_
        exact y_retP c40_15 (y_fit0 _) (by omega)
set_option maxRecDepth 100000 in
theorem t40 {L : Nat} {xs : Nat → Int32} {d nn : Nat} {m : yM} {R ln : Nat} {e v : Int} (hT : Ty gT m) (hR : yarr gSh 414 R = some (0, ln)) (hR2 : ∀ q, gT R q = (-2147483648, 2147483647)) (he : 0 ≤ e ∧ e ≤ ln) (hln : ln ≤ 1000) (hv : -2147483648 ≤ v ∧ v < 2147483648) : YC (gZ L xs) d 40 [.ref R, yI e, yI v] m nn (qP m nn (fun r => -1 ≤ r ∧ r < e)) := by
  refine YC.mkB [some (.ref R), some (yI e), some (yI v), none] kn40 rfl rfl ?_
  refine y_iconst 1 c40_0 rfl ?_
  refine y_istore 2 c40_1 rfl rfl ?_
  exact t40a hT hR hR2 he hln hv (e - 0 : Int).toNat 0   (by omega) (by omega)
def wPa256 (a q : Nat) : Bool := (a == 2 && (q == 2 || q == 3 || q == 4)) || decide (256 ≤ a ∧ a < 316)
theorem wPa256_m {k q : Nat} (h : k < 10) : wPa256 (266 + k) q = true := by
  simp [wPa256]
  omega
theorem wPa256_s {k q : Nat} (h : k < 40) : wPa256 (276 + k) q = true := by
  simp [wPa256]
  omega
def wCl256 (a q : Nat) : Bool := (a == 256 && q == 9) || a == 257 || a == 258 || a == 259
theorem wCl256_P : ∀ a q, wCl256 a q = true → wPa256 a q = true := by
  intro a q h
  simp [wCl256] at h
  simp [wPa256]
  omega
def wFi256 (a q : Nat) : Bool := (a == 256 && q == 11) || a == 260 || a == 259
theorem wFi256_P : ∀ a q, wFi256 a q = true → wPa256 a q = true := by
  intro a q h
  simp [wFi256] at h
  simp [wPa256]
  omega
def wVa256 (a q : Nat) : Bool := (a == 256 && q == 15) || a == 261
theorem wVa256_P : ∀ a q, wVa256 a q = true → wPa256 a q = true := by
  intro a q h
  simp [wVa256] at h
  simp [wPa256]
  omega
def wMe256 (a q : Nat) : Bool := (a == 256 && (q == 10 || q == 15)) || a == 261 || decide (266 ≤ a ∧ a < 276)
theorem wMe256_266 {k q : Nat} (h : k < 10) : wMe256 (266 + k) q = true := by
  simp [wMe256]
  omega
theorem wMe256_P : ∀ a q, wMe256 a q = true → wPa256 a q = true := by
  intro a q h
  simp [wMe256] at h
  simp [wPa256]
  omega
def wCn256 (a q : Nat) : Bool := a == 256 && (decide (9 ≤ q) && decide (q ≤ 16))
theorem wCn256_P : ∀ a q, wCn256 a q = true → wPa256 a q = true := by
  intro a q h
  simp [wCn256] at h
  simp [wPa256]
  omega
set_option maxRecDepth 100000 in
theorem t30_256 {L : Nat} {xs : Nat → Int32} {d nn : Nat} {m : yM} (hT : Ty gT m) : YC (gZ L xs) d 30 [.ref 256] m nn (qU (fun m' n' => n' = nn ∧ Ty gT m' ∧ Fr wCn256 m m' ∧ m' 256 9 = 0 ∧ m' 256 10 = 0 ∧ m' 256 11 = 0 ∧ m' 256 12 = 0 ∧ m' 256 13 = 0 ∧ m' 256 14 = 1 ∧ m' 256 15 = 0 ∧ m' 256 16 = 0)) := by
  refine YC.mkB [some (.ref 256)] kn30 rfl rfl ?_
  have hF : Fr wCn256 m m := Fr.rf
  refine y_aload 1 c30_0 rfl rfl rfl ?_
  refine y_iconst 2 c30_1 rfl ?_
  refine y_putI 5 c30_2 rfl kf256_9 (y_fit0 _) ?_
  have hT106 := hT.up 256 9 0 0 6 rfl (by omega)
  have hF107 := hF.up 256 9 0 rfl
  refine y_aload 6 c30_5 rfl rfl rfl ?_
  refine y_iconst 7 c30_6 rfl ?_
  refine y_putI 10 c30_7 rfl kf256_10 (y_fit0 _) ?_
  have hT108 := hT106.up 256 10 0 0 10 rfl (by omega)
  have hF109 := hF107.up 256 10 0 rfl
  refine y_aload 11 c30_10 rfl rfl rfl ?_
  refine y_iconst 12 c30_11 rfl ?_
  refine y_putI 15 c30_12 rfl kf256_11 (y_fit0 _) ?_
  have hT110 := hT108.up 256 11 0 0 8 rfl (by omega)
  have hF111 := hF109.up 256 11 0 rfl
  refine y_aload 16 c30_15 rfl rfl rfl ?_
  refine y_iconst 17 c30_16 rfl ?_
  refine y_putI 20 c30_17 rfl kf256_12 (y_fit0 _) ?_
  have hT112 := hT110.up 256 12 0 0 12 rfl (by omega)
  have hF113 := hF111.up 256 12 0 rfl
  refine y_aload 21 c30_20 rfl rfl rfl ?_
  refine y_iconst 22 c30_21 rfl ?_
  refine y_putI 25 c30_22 rfl kf256_13 (y_fit0 _) ?_
  have hT114 := hT112.up 256 13 0 0 8 rfl (by omega)
  have hF115 := hF113.up 256 13 0 rfl
  refine y_aload 26 c30_25 rfl rfl rfl ?_
  refine y_iconst 27 c30_26 rfl ?_
  refine y_putI 30 c30_27 rfl kf256_14 (y_fit0 _) ?_
  have hT116 := hT114.up 256 14 1 0 12 rfl (by omega)
  have hF117 := hF115.up 256 14 1 rfl
  refine y_aload 31 c30_30 rfl rfl rfl ?_
  refine y_iconst 32 c30_31 rfl ?_
  refine y_putI 35 c30_32 rfl kf256_15 (y_fit0 _) ?_
  have hT118 := hT116.up 256 15 0 0 48 rfl (by omega)
  have hF119 := hF117.up 256 15 0 rfl
  refine y_aload 36 c30_35 rfl rfl rfl ?_
  refine y_iconst 37 c30_36 rfl ?_
  refine y_putI 40 c30_37 rfl kf256_16 (y_fit0 _) ?_
  have hT120 := hT118.up 256 16 0 0 40 rfl (by omega)
  have hF121 := hF119.up 256 16 0 rfl
  exact y_retU c30_40 ⟨rfl, hT120, hF121, ⟨rfl, rfl, rfl, rfl, rfl, rfl, rfl, rfl⟩⟩
set_option maxRecDepth 100000 in
theorem t41_256 {L : Nat} {xs : Nat → Int32} {d nn : Nat} {m : yM} {v : Int} (hT : Ty gT m) (hv : -2147483648 ≤ v ∧ v < 2147483648) : YC (gZ L xs) (d + 1) 41 [.ref 256, yI v] m nn (qP m nn (fun r => -1 ≤ r ∧ r < m 256 9)) := by
  refine YC.mkB [some (.ref 256), some (yI v)] kn41 rfl rfl ?_
  refine y_aload 1 c41_0 rfl rfl rfl ?_
  refine y_getR 4 c41_1 rfl kf256_0 ?_
  refine y_aload 5 c41_4 rfl rfl rfl ?_
  refine y_getX 8 (m 256 9) c41_5 rfl kf256_9 rfl ?_
  have tb122 := hT.atp 256 9 0 6 rfl
  refine y_iload 9 c41_8 rfl rfl ?_
  refine y_callP 12 [.ref 257, yI (m 256 9), yI v] [] c41_9 rfl rfl rfl rfl rfl (ycanS km40) (t40 hT ka257 (fun _ => rfl) (by omega) (by decide) (by omega)) (fun r123 hr123 => ?_)
  exact y_retP c41_12 (y_fit0 _) (by omega)
set_option maxRecDepth 100000 in
theorem t46_256 {L : Nat} {xs : Nat → Int32} {d nn : Nat} {m : yM} {v : Int} (hT : Ty gT m) (hv : -2147483648 ≤ v ∧ v < 2147483648) : YC (gZ L xs) (d + 1) 46 [.ref 256, yI v] m nn (qP m nn (fun r => -1 ≤ r ∧ r < m 256 11)) := by
  refine YC.mkB [some (.ref 256), some (yI v)] kn46 rfl rfl ?_
  refine y_aload 1 c46_0 rfl rfl rfl ?_
  refine y_getR 4 c46_1 rfl kf256_3 ?_
  refine y_aload 5 c46_4 rfl rfl rfl ?_
  refine y_getX 8 (m 256 11) c46_5 rfl kf256_11 rfl ?_
  have tb124 := hT.atp 256 11 0 8 rfl
  refine y_iload 9 c46_8 rfl rfl ?_
  refine y_callP 12 [.ref 260, yI (m 256 11), yI v] [] c46_9 rfl rfl rfl rfl rfl (ycanS km40) (t40 hT ka260 (fun _ => rfl) (by omega) (by decide) (by omega)) (fun r125 hr125 => ?_)
  exact y_retP c46_12 (y_fit0 _) (by omega)
set_option maxRecDepth 100000 in
theorem t42_256 {L : Nat} {xs : Nat → Int32} {d nn : Nat} {m : yM} {v : Int} (hT : Ty gT m) (hv : -2147483648 ≤ v ∧ v < 2147483648) : YC (gZ L xs) (d + 2) 42 [.ref 256, yI v] m nn (qI (fun r m' n' => n' = nn ∧ Ty gT m' ∧ Fr wCl256 m m' ∧ ((r = 0 ∧ m' 256 9 = m 256 9) ∨ (r = 1 ∧ m' 256 9 = m 256 9 + 1)))) := by
  refine YC.mkB [some (.ref 256), some (yI v)] kn42 rfl rfl ?_
  have hF : Fr wCl256 m m := Fr.rf
  refine y_aload 1 c42_0 rfl rfl rfl ?_
  refine y_getX 4 (m 256 9) c42_1 rfl kf256_9 rfl ?_
  have tb126 := hT.atp 256 9 0 6 rfl
  refine y_iconst 6 c42_4 rfl ?_
  refine y_icmp 18 9 c42_6 rfl rfl (yc_eq (by omega) (by omega)) (fun hb127 => ?_) (fun hb127 => ?_)
  · refine y_iconst 19 c42_18 rfl ?_
    exact y_retI c42_19 (y_fit1 (by omega)) ⟨rfl, hT, hF, by omega⟩
  · refine y_aload 10 c42_9 rfl rfl rfl ?_
    refine y_iload 11 c42_10 rfl rfl ?_
    refine y_callP 14 [.ref 256, yI v] [] c42_11 rfl rfl rfl rfl rfl (ycanO km41 ko256) (t41_256 hT (by omega)) (fun r128 hr128 => ?_)
    refine y_iconst 15 c42_14 rfl ?_
    refine y_icmp 20 18 c42_15 rfl rfl (yc_eq (by omega) (by omega)) (fun hb129 => ?_) (fun hb129 => ?_)
    · refine y_aload 21 c42_20 rfl rfl rfl ?_
      refine y_getR 24 c42_21 rfl kf256_0 ?_
      refine y_aload 25 c42_24 rfl rfl rfl ?_
      refine y_getX 28 (m 256 9) c42_25 rfl kf256_9 rfl ?_
      refine y_iload 29 c42_28 rfl rfl ?_
      refine y_iastore 30 c42_29 rfl ka257 (by omega) (y_nar0 _) ?_
      have hT130 := hT.up 257 ((m 256 9).toNat) v ((-2147483648)) 2147483647 rfl (by omega)
      have hF131 := hF.up 257 ((m 256 9).toNat) v rfl
      refine y_aload 31 c42_30 rfl rfl rfl ?_
      refine y_getR 34 c42_31 rfl kf256_1 ?_
      refine y_aload 35 c42_34 rfl rfl rfl ?_
      refine y_getX 38 (m 256 9) c42_35 rfl kf256_9 rfl ?_
      refine y_iconst 39 c42_38 rfl ?_
      refine y_iastore 40 c42_39 rfl ka258 (by omega) (y_nar0 _) ?_
      have hT132 := hT130.up 258 ((m 256 9).toNat) ((-1)) ((-1)) 5 rfl (by omega)
      have hF133 := hF131.up 258 ((m 256 9).toNat) ((-1)) rfl
      refine y_aload 41 c42_40 rfl rfl rfl ?_
      refine y_getR 44 c42_41 rfl kf256_2 ?_
      refine y_aload 45 c42_44 rfl rfl rfl ?_
      refine y_getX 48 (m 256 9) c42_45 rfl kf256_9 rfl ?_
      refine y_iconst 49 c42_48 rfl ?_
      refine y_iastore 50 c42_49 rfl ka259 (by omega) (y_nar0 _) ?_
      have hT134 := hT132.up 259 ((m 256 9).toNat) 0 ((-2147483648)) 2147483647 rfl (by omega)
      have hF135 := hF133.up 259 ((m 256 9).toNat) 0 rfl
      refine y_aload 51 c42_50 rfl rfl rfl ?_
      refine y_dup 52 c42_51 rfl rfl ?_
      refine y_getX 55 (m 256 9) c42_52 rfl kf256_9 rfl ?_
      refine y_iconst 56 c42_55 rfl ?_
      refine y_iadd 57 c42_56 rfl ?_
      refine y_putI 60 c42_57 rfl kf256_9 (y_fit0 _) ?_
      have hT136 := hT134.up 256 9 ((m 256 9) + 1) 0 6 rfl (by omega)
      have hF137 := hF135.up 256 9 ((m 256 9) + 1) rfl
      refine y_iconst 61 c42_60 rfl ?_
      have es138 : (yup (yup (yup (yup m 257 ((m 256 9).toNat) v) 258 ((m 256 9).toNat) ((-1))) 259 ((m 256 9).toNat) 0) 256 9 ((m 256 9) + 1)) 256 9 = (m 256 9) + 1 := rfl
      exact y_retI c42_61 (y_fit1 (by omega)) ⟨rfl, hT136, hF137, by omega⟩
    · refine y_iconst 19 c42_18 rfl ?_
      exact y_retI c42_19 (y_fit1 (by omega)) ⟨rfl, hT, hF, by omega⟩
set_option maxRecDepth 100000 in
theorem t44_256 {L : Nat} {xs : Nat → Int32} {d nn : Nat} {m : yM} {v : Int} (hT : Ty gT m) (hv : -2147483648 ≤ v ∧ v < 2147483648) (hc : 1 ≤ m 256 9) : YC (gZ L xs) (d + 2) 44 [.ref 256, yI v] m nn (qI (fun r m' n' => n' = nn ∧ Ty gT m' ∧ Fr wCl256 m m' ∧ m' 256 9 = m 256 9 ∧ (r = 0 ∨ r = 1))) := by
  refine YC.mkB [some (.ref 256), some (yI v), none, none] kn44 rfl rfl ?_
  have hF : Fr wCl256 m m := Fr.rf
  refine y_aload 1 c44_0 rfl rfl rfl ?_
  refine y_getX 4 (m 256 9) c44_1 rfl kf256_9 rfl ?_
  have tb139 := hT.atp 256 9 0 6 rfl
  refine y_iconst 5 c44_4 rfl ?_
  refine y_isub 6 c44_5 rfl ?_
  refine y_istore 7 c44_6 rfl rfl ?_
  refine y_aload 8 c44_7 rfl rfl rfl ?_
  refine y_iload 9 c44_8 rfl rfl ?_
  refine y_callP 12 [.ref 256, yI v] [] c44_9 rfl rfl rfl rfl rfl (ycanO km41 ko256) (t41_256 hT (by omega)) (fun r140 hr140 => ?_)
  refine y_istore 13 c44_12 rfl rfl ?_
  refine y_iload 14 c44_13 rfl rfl ?_
  refine y_iconst 15 c44_14 rfl ?_
  refine y_icmp 23 18 c44_15 rfl rfl (yc_eq (by omega) (by omega)) (fun hb141 => ?_) (fun hb141 => ?_)
  · refine y_iconst 24 c44_23 rfl ?_
    exact y_retI c44_24 (y_fit1 (by omega)) ⟨rfl, hT, hF, by omega⟩
  · refine y_iload 19 c44_18 rfl rfl ?_
    refine y_iload 20 c44_19 rfl rfl ?_
    refine y_icmp 25 23 c44_20 rfl rfl (yc_ne (by omega) (by omega)) (fun hb142 => ?_) (fun hb142 => ?_)
    · refine y_aload 26 c44_25 rfl rfl rfl ?_
      refine y_getR 29 c44_26 rfl kf256_1 ?_
      refine y_iload 30 c44_29 rfl rfl ?_
      refine y_iload 31 c44_30 rfl rfl ?_
      refine y_iastore 32 c44_31 rfl ka258 (by omega) (y_nar0 _) ?_
      have hT143 := hT.up 258 (((m 256 9) - 1).toNat) r140 ((-1)) 5 rfl (by omega)
      have hF144 := hF.up 258 (((m 256 9) - 1).toNat) r140 rfl
      refine y_aload 33 c44_32 rfl rfl rfl ?_
      refine y_getR 36 c44_33 rfl kf256_2 ?_
      refine y_iload 37 c44_36 rfl rfl ?_
      refine y_aload 38 c44_37 rfl rfl rfl ?_
      refine y_getR 41 c44_38 rfl kf256_2 ?_
      refine y_iload 42 c44_41 rfl rfl ?_
      refine y_iaT 43 ((-2147483648)) 2147483647 c44_42 rfl ka259 (by omega) hT143 rfl (fun v145 hv145 gv145 => ?_)
      refine y_iastore 44 c44_43 rfl ka259 (by omega) (y_nar0 _) ?_
      have hT146 := hT143.up 259 (((m 256 9) - 1).toNat) v145 ((-2147483648)) 2147483647 rfl (by omega)
      have hF147 := hF144.up 259 (((m 256 9) - 1).toNat) v145 rfl
      refine y_iconst 45 c44_44 rfl ?_
      have es148 : (yup (yup m 258 (((m 256 9) - 1).toNat) r140) 259 (((m 256 9) - 1).toNat) v145) 256 9 = m 256 9 := rfl
      exact y_retI c44_45 (y_fit1 (by omega)) ⟨rfl, hT146, hF147, by omega⟩
    · refine y_iconst 24 c44_23 rfl ?_
      exact y_retI c44_24 (y_fit1 (by omega)) ⟨rfl, hT, hF, by omega⟩
set_option maxRecDepth 100000 in
theorem t47_256 {L : Nat} {xs : Nat → Int32} {d nn : Nat} {m : yM} {c f : Int} (hT : Ty gT m) (hc : 0 ≤ c ∧ c ≤ 5) (hf : -1 ≤ f ∧ f ≤ 11) : YC (gZ L xs) d 47 [.ref 256, yI c, yI f] m nn (qP m nn (fun r => (r = 0 ∨ r = 1) ∧ (r = 1 → f ≠ -1))) := by
  refine YC.mkB [some (.ref 256), some (yI c), some (yI f)] kn47 rfl rfl ?_
  refine y_iload 1 c47_0 rfl rfl ?_
  refine y_iconst 2 c47_1 rfl ?_
  refine y_icmp 23 5 c47_2 rfl rfl (yc_eq (by omega) (by omega)) (fun hb149 => ?_) (fun hb149 => ?_)
  · refine y_iconst 24 c47_23 rfl ?_
    exact y_retP c47_24 (y_fit1 (by omega)) (by omega)
  · refine y_aload 6 c47_5 rfl rfl rfl ?_
    refine y_getR 9 c47_6 rfl kf256_2 ?_
    refine y_iload 10 c47_9 rfl rfl ?_
    refine y_iaT 11 ((-2147483648)) 2147483647 c47_10 rfl ka259 (by omega) hT rfl (fun v150 hv150 gv150 => ?_)
    refine y_iload 12 c47_11 rfl rfl ?_
    refine y_ishr 13 c47_12 rfl ?_
    refine y_nam (fun b151 hb151 => ?_)
    have gb151 : -2147483648 ≤ b151 ∧ b151 < 2147483648 := by rw [hb151]; exact i32r _
    refine y_iconst 14 c47_13 rfl ?_
    refine y_iand 15 c47_14 rfl ?_
    refine y_nam (fun b152 hb152 => ?_)
    have gb152 : -2147483648 ≤ b152 ∧ b152 < 2147483648 := by rw [hb152]; exact i32r _
    refine y_iconst 16 c47_15 rfl ?_
    refine y_icmp 23 19 c47_16 rfl rfl (yc_ne (by omega) (by omega)) (fun hb153 => ?_) (fun hb153 => ?_)
    · refine y_iconst 24 c47_23 rfl ?_
      exact y_retP c47_24 (y_fit1 (by omega)) (by omega)
    · refine y_iconst 20 c47_19 rfl ?_
      refine y_goto 24 c47_20 rfl ?_
      exact y_retP c47_24 (y_fit1 (by omega)) (by omega)
set_option maxRecDepth 100000 in
theorem t48_256 {L : Nat} {xs : Nat → Int32} {d nn : Nat} {m : yM} {v : Int} (hT : Ty gT m) (hv : -2147483648 ≤ v ∧ v < 2147483648) (hc : 1 ≤ m 256 9) : YC (gZ L xs) (d + 2) 48 [.ref 256, yI v] m nn (qI (fun r m' n' => n' = nn ∧ Ty gT m' ∧ Fr wFi256 m m' ∧ (r = 0 ∨ r = 1))) := by
  refine YC.mkB [some (.ref 256), some (yI v), none, none] kn48 rfl rfl ?_
  have hF : Fr wFi256 m m := Fr.rf
  refine y_aload 1 c48_0 rfl rfl rfl ?_
  refine y_getX 4 (m 256 9) c48_1 rfl kf256_9 rfl ?_
  have tb154 := hT.atp 256 9 0 6 rfl
  refine y_iconst 5 c48_4 rfl ?_
  refine y_isub 6 c48_5 rfl ?_
  refine y_istore 7 c48_6 rfl rfl ?_
  refine y_aload 8 c48_7 rfl rfl rfl ?_
  refine y_iload 9 c48_8 rfl rfl ?_
  have tb155 := hT.atp 256 11 0 8 rfl
  refine y_callP 12 [.ref 256, yI v] [] c48_9 rfl rfl rfl rfl rfl (ycanO km46 ko256) (t46_256 hT (by omega)) (fun r156 hr156 => ?_)
  refine y_istore 13 c48_12 rfl rfl ?_
  refine y_iload 14 c48_13 rfl rfl ?_
  refine y_iconst 15 c48_14 rfl ?_
  refine y_icmp 54 18 c48_15 rfl rfl (yc_ne (by omega) (by omega)) (fun hb157 => ?_) (fun hb157 => ?_)
  · refine y_aload 55 c48_54 rfl rfl rfl ?_
    refine y_iload 56 c48_55 rfl rfl ?_
    refine y_iload 57 c48_56 rfl rfl ?_
    refine y_callP 60 [.ref 256, yI ((m 256 9) - 1), yI r156] [] c48_57 rfl rfl rfl rfl rfl (ycanO km47 ko256) (t47_256 hT (by omega) (by omega)) (fun r158 hr158 => ?_)
    refine y_if 65 63 c48_60 rfl rfl (yz_eq (by omega)) (fun hb159 => ?_) (fun hb159 => ?_)
    · refine y_aload 66 c48_65 rfl rfl rfl ?_
      refine y_getR 69 c48_66 rfl kf256_2 ?_
      refine y_iload 70 c48_69 rfl rfl ?_
      refine y_dup2 71 c48_70 rfl ⟨rfl, rfl⟩ ?_
      refine y_iaT 72 ((-2147483648)) 2147483647 c48_71 rfl ka259 (by omega) hT rfl (fun v160 hv160 gv160 => ?_)
      refine y_iconst 73 c48_72 rfl ?_
      refine y_iload 74 c48_73 rfl rfl ?_
      refine y_ishl 75 c48_74 rfl ?_
      refine y_nam (fun b161 hb161 => ?_)
      have gb161 : -2147483648 ≤ b161 ∧ b161 < 2147483648 := by rw [hb161]; exact i32r _
      refine y_ior 76 c48_75 rfl ?_
      refine y_nam (fun b162 hb162 => ?_)
      have gb162 : -2147483648 ≤ b162 ∧ b162 < 2147483648 := by rw [hb162]; exact i32r _
      refine y_iastore 77 c48_76 rfl ka259 (by omega) (y_nar0 _) ?_
      have hT163 := hT.up 259 (((m 256 9) - 1).toNat) b162 ((-2147483648)) 2147483647 rfl (by omega)
      have hF164 := hF.up 259 (((m 256 9) - 1).toNat) b162 rfl
      refine y_iconst 78 c48_77 rfl ?_
      exact y_retI c48_78 (y_fit1 (by omega)) ⟨rfl, hT163, hF164, by omega⟩
    · refine y_iconst 64 c48_63 rfl ?_
      exact y_retI c48_64 (y_fit1 (by omega)) ⟨rfl, hT, hF, by omega⟩
  · refine y_aload 19 c48_18 rfl rfl rfl ?_
    refine y_getX 22 (m 256 11) c48_19 rfl kf256_11 rfl ?_
    refine y_iconst 24 c48_22 rfl ?_
    refine y_icmp 29 27 c48_24 rfl rfl (yc_ne (by omega) (by omega)) (fun hb165 => ?_) (fun hb165 => ?_)
    · refine y_aload 30 c48_29 rfl rfl rfl ?_
      refine y_getX 33 (m 256 11) c48_30 rfl kf256_11 rfl ?_
      refine y_istore 34 c48_33 rfl rfl ?_
      refine y_aload 35 c48_34 rfl rfl rfl ?_
      refine y_getR 38 c48_35 rfl kf256_3 ?_
      refine y_aload 39 c48_38 rfl rfl rfl ?_
      refine y_getX 42 (m 256 11) c48_39 rfl kf256_11 rfl ?_
      refine y_iload 43 c48_42 rfl rfl ?_
      refine y_iastore 44 c48_43 rfl ka260 (by omega) (y_nar0 _) ?_
      have hT166 := hT.up 260 ((m 256 11).toNat) v ((-2147483648)) 2147483647 rfl (by omega)
      have hF167 := hF.up 260 ((m 256 11).toNat) v rfl
      refine y_aload 45 c48_44 rfl rfl rfl ?_
      refine y_dup 46 c48_45 rfl rfl ?_
      refine y_getX 49 (m 256 11) c48_46 rfl kf256_11 rfl ?_
      refine y_iconst 50 c48_49 rfl ?_
      refine y_iadd 51 c48_50 rfl ?_
      refine y_putI 54 c48_51 rfl kf256_11 (y_fit0 _) ?_
      have hT168 := hT166.up 256 11 ((m 256 11) + 1) 0 8 rfl (by omega)
      have hF169 := hF167.up 256 11 ((m 256 11) + 1) rfl
      refine y_aload 55 c48_54 rfl rfl rfl ?_
      refine y_iload 56 c48_55 rfl rfl ?_
      refine y_iload 57 c48_56 rfl rfl ?_
      refine y_callP 60 [.ref 256, yI ((m 256 9) - 1), yI (m 256 11)] [] c48_57 rfl rfl rfl rfl rfl (ycanO km47 ko256) (t47_256 hT168 (by omega) (by omega)) (fun r170 hr170 => ?_)
      refine y_if 65 63 c48_60 rfl rfl (yz_eq (by omega)) (fun hb171 => ?_) (fun hb171 => ?_)
      · refine y_aload 66 c48_65 rfl rfl rfl ?_
        refine y_getR 69 c48_66 rfl kf256_2 ?_
        refine y_iload 70 c48_69 rfl rfl ?_
        refine y_dup2 71 c48_70 rfl ⟨rfl, rfl⟩ ?_
        refine y_iaT 72 ((-2147483648)) 2147483647 c48_71 rfl ka259 (by omega) hT168 rfl (fun v172 hv172 gv172 => ?_)
        refine y_iconst 73 c48_72 rfl ?_
        refine y_iload 74 c48_73 rfl rfl ?_
        refine y_ishl 75 c48_74 rfl ?_
        refine y_nam (fun b173 hb173 => ?_)
        have gb173 : -2147483648 ≤ b173 ∧ b173 < 2147483648 := by rw [hb173]; exact i32r _
        refine y_ior 76 c48_75 rfl ?_
        refine y_nam (fun b174 hb174 => ?_)
        have gb174 : -2147483648 ≤ b174 ∧ b174 < 2147483648 := by rw [hb174]; exact i32r _
        refine y_iastore 77 c48_76 rfl ka259 (by omega) (y_nar0 _) ?_
        have hT175 := hT168.up 259 (((m 256 9) - 1).toNat) b174 ((-2147483648)) 2147483647 rfl (by omega)
        have hF176 := hF169.up 259 (((m 256 9) - 1).toNat) b174 rfl
        refine y_iconst 78 c48_77 rfl ?_
        exact y_retI c48_78 (y_fit1 (by omega)) ⟨rfl, hT175, hF176, by omega⟩
      · refine y_iconst 64 c48_63 rfl ?_
        exact y_retI c48_64 (y_fit1 (by omega)) ⟨rfl, hT168, hF169, by omega⟩
    · refine y_iconst 28 c48_27 rfl ?_
      exact y_retI c48_28 (y_fit1 (by omega)) ⟨rfl, hT, hF, by omega⟩
set_option maxRecDepth 100000 in
theorem t50a_256 {L : Nat} {xs : Nat → Int32} {d nn : Nat} {m : yM} {c v : Int} (hT : Ty gT m) (hc : -2147483648 ≤ c ∧ c < 2147483648) (hv : -2147483648 ≤ v ∧ v < 2147483648) : ∀ (k : Nat) (i : Int), m 256 10 - i = k → 0 ≤ i ∧ i ≤ m 256 10 → YW (gZ L xs) 50 d 2 [some (.ref 256), some (yI c), some (yI v), some (yI i)] [] m nn (qP m nn (fun r => -1 ≤ r ∧ r < m 256 10)) := by
  intro k
  induction k using Nat.strongRecOn with
  | ind k ih =>
    intro i hk hi
    have tb := hT.atp 256 10 0 10 rfl
    refine y_iload 3 c50_2 rfl rfl ?_
    refine y_aload 4 c50_3 rfl rfl rfl ?_
    refine y_getX 7 (m 256 10) c50_4 rfl kf256_10 rfl ?_
    refine y_icmp 44 10 c50_7 rfl rfl (yc_ge (by omega) (by omega)) (fun hb177 => ?_) (fun hb177 => ?_)
    · refine y_iconst 45 c50_44 rfl ?_
      exact y_retP c50_45 (y_fit0 _) (by omega)
    · refine y_aload 11 c50_10 rfl rfl rfl ?_
      refine y_getR 14 c50_11 rfl kf256_5 ?_
      refine y_iload 15 c50_14 rfl rfl ?_
      refine y_aaload 16 c50_15 rfl kr262 (by omega) ?_
      refine y_getT 19 0 5 c50_16 rfl (ff266_1 (by omega)) hT (ft266_1 (by omega)) (fun v178 hv178 gv178 => ?_)
      refine y_iload 20 c50_19 rfl rfl ?_
      refine y_icmp 38 23 c50_20 rfl rfl (yc_ne (by omega) (by omega)) (fun hb179 => ?_) (fun hb179 => ?_)
      · refine y_iinc 41 c50_38 rfl rfl rfl ?_
        refine y_goto 2 c50_41 rfl ?_
        exact ih (m 256 10 - (i + 1) : Int).toNat (by omega) (i + 1)   (by omega) (by omega)
      · refine y_aload 24 c50_23 rfl rfl rfl ?_
        refine y_getR 27 c50_24 rfl kf256_5 ?_
        refine y_iload 28 c50_27 rfl rfl ?_
        refine y_aaload 29 c50_28 rfl kr262 (by omega) ?_
        refine y_getT 32 ((-2147483648)) 2147483647 c50_29 rfl (ff266_0 (by omega)) hT (ft266_0 (by omega)) (fun v180 hv180 gv180 => ?_)
        refine y_iload 33 c50_32 rfl rfl ?_
        refine y_icmp 38 36 c50_33 rfl rfl (yc_ne (by omega) (by omega)) (fun hb181 => ?_) (fun hb181 => ?_)
        · refine y_iinc 41 c50_38 rfl rfl rfl ?_
          refine y_goto 2 c50_41 rfl ?_
          exact ih (m 256 10 - (i + 1) : Int).toNat (by omega) (i + 1)   (by omega) (by omega)
        · refine y_iload 37 c50_36 rfl rfl ?_
          exact y_retP c50_37 (y_fit0 _) (by omega)
set_option maxRecDepth 100000 in
theorem t50_256 {L : Nat} {xs : Nat → Int32} {d nn : Nat} {m : yM} {c v : Int} (hT : Ty gT m) (hc : -2147483648 ≤ c ∧ c < 2147483648) (hv : -2147483648 ≤ v ∧ v < 2147483648) : YC (gZ L xs) d 50 [.ref 256, yI c, yI v] m nn (qP m nn (fun r => -1 ≤ r ∧ r < m 256 10)) := by
  refine YC.mkB [some (.ref 256), some (yI c), some (yI v), none] kn50 rfl rfl ?_
  refine y_iconst 1 c50_0 rfl ?_
  refine y_istore 2 c50_1 rfl rfl ?_
  have tb := hT.atp 256 10 0 10 rfl
  exact t50a_256 hT hc hv (m 256 10 - 0 : Int).toNat 0   (by omega) (by omega)
def wPa316 (a q : Nat) : Bool := (a == 2 && (q == 2 || q == 3 || q == 4)) || decide (316 ≤ a ∧ a < 376)
theorem wPa316_m {k q : Nat} (h : k < 10) : wPa316 (326 + k) q = true := by
  simp [wPa316]
  omega
theorem wPa316_s {k q : Nat} (h : k < 40) : wPa316 (336 + k) q = true := by
  simp [wPa316]
  omega
def wCl316 (a q : Nat) : Bool := (a == 316 && q == 9) || a == 317 || a == 318 || a == 319
theorem wCl316_P : ∀ a q, wCl316 a q = true → wPa316 a q = true := by
  intro a q h
  simp [wCl316] at h
  simp [wPa316]
  omega
def wFi316 (a q : Nat) : Bool := (a == 316 && q == 11) || a == 320 || a == 319
theorem wFi316_P : ∀ a q, wFi316 a q = true → wPa316 a q = true := by
  intro a q h
  simp [wFi316] at h
  simp [wPa316]
  omega
def wVa316 (a q : Nat) : Bool := (a == 316 && q == 15) || a == 321
theorem wVa316_P : ∀ a q, wVa316 a q = true → wPa316 a q = true := by
  intro a q h
  simp [wVa316] at h
  simp [wPa316]
  omega
def wMe316 (a q : Nat) : Bool := (a == 316 && (q == 10 || q == 15)) || a == 321 || decide (326 ≤ a ∧ a < 336)
theorem wMe316_326 {k q : Nat} (h : k < 10) : wMe316 (326 + k) q = true := by
  simp [wMe316]
  omega
theorem wMe316_P : ∀ a q, wMe316 a q = true → wPa316 a q = true := by
  intro a q h
  simp [wMe316] at h
  simp [wPa316]
  omega
def wCn316 (a q : Nat) : Bool := a == 316 && (decide (9 ≤ q) && decide (q ≤ 16))
theorem wCn316_P : ∀ a q, wCn316 a q = true → wPa316 a q = true := by
  intro a q h
  simp [wCn316] at h
  simp [wPa316]
  omega
set_option maxRecDepth 100000 in
theorem t30_316 {L : Nat} {xs : Nat → Int32} {d nn : Nat} {m : yM} (hT : Ty gT m) : YC (gZ L xs) d 30 [.ref 316] m nn (qU (fun m' n' => n' = nn ∧ Ty gT m' ∧ Fr wCn316 m m' ∧ m' 316 9 = 0 ∧ m' 316 10 = 0 ∧ m' 316 11 = 0 ∧ m' 316 12 = 0 ∧ m' 316 13 = 0 ∧ m' 316 14 = 1 ∧ m' 316 15 = 0 ∧ m' 316 16 = 0)) := by
  refine YC.mkB [some (.ref 316)] kn30 rfl rfl ?_
  have hF : Fr wCn316 m m := Fr.rf
  refine y_aload 1 c30_0 rfl rfl rfl ?_
  refine y_iconst 2 c30_1 rfl ?_
  refine y_putI 5 c30_2 rfl kf316_9 (y_fit0 _) ?_
  have hT182 := hT.up 316 9 0 0 6 rfl (by omega)
  have hF183 := hF.up 316 9 0 rfl
  refine y_aload 6 c30_5 rfl rfl rfl ?_
  refine y_iconst 7 c30_6 rfl ?_
  refine y_putI 10 c30_7 rfl kf316_10 (y_fit0 _) ?_
  have hT184 := hT182.up 316 10 0 0 10 rfl (by omega)
  have hF185 := hF183.up 316 10 0 rfl
  refine y_aload 11 c30_10 rfl rfl rfl ?_
  refine y_iconst 12 c30_11 rfl ?_
  refine y_putI 15 c30_12 rfl kf316_11 (y_fit0 _) ?_
  have hT186 := hT184.up 316 11 0 0 8 rfl (by omega)
  have hF187 := hF185.up 316 11 0 rfl
  refine y_aload 16 c30_15 rfl rfl rfl ?_
  refine y_iconst 17 c30_16 rfl ?_
  refine y_putI 20 c30_17 rfl kf316_12 (y_fit0 _) ?_
  have hT188 := hT186.up 316 12 0 0 12 rfl (by omega)
  have hF189 := hF187.up 316 12 0 rfl
  refine y_aload 21 c30_20 rfl rfl rfl ?_
  refine y_iconst 22 c30_21 rfl ?_
  refine y_putI 25 c30_22 rfl kf316_13 (y_fit0 _) ?_
  have hT190 := hT188.up 316 13 0 0 8 rfl (by omega)
  have hF191 := hF189.up 316 13 0 rfl
  refine y_aload 26 c30_25 rfl rfl rfl ?_
  refine y_iconst 27 c30_26 rfl ?_
  refine y_putI 30 c30_27 rfl kf316_14 (y_fit0 _) ?_
  have hT192 := hT190.up 316 14 1 0 12 rfl (by omega)
  have hF193 := hF191.up 316 14 1 rfl
  refine y_aload 31 c30_30 rfl rfl rfl ?_
  refine y_iconst 32 c30_31 rfl ?_
  refine y_putI 35 c30_32 rfl kf316_15 (y_fit0 _) ?_
  have hT194 := hT192.up 316 15 0 0 48 rfl (by omega)
  have hF195 := hF193.up 316 15 0 rfl
  refine y_aload 36 c30_35 rfl rfl rfl ?_
  refine y_iconst 37 c30_36 rfl ?_
  refine y_putI 40 c30_37 rfl kf316_16 (y_fit0 _) ?_
  have hT196 := hT194.up 316 16 0 0 40 rfl (by omega)
  have hF197 := hF195.up 316 16 0 rfl
  exact y_retU c30_40 ⟨rfl, hT196, hF197, ⟨rfl, rfl, rfl, rfl, rfl, rfl, rfl, rfl⟩⟩
set_option maxRecDepth 100000 in
theorem t41_316 {L : Nat} {xs : Nat → Int32} {d nn : Nat} {m : yM} {v : Int} (hT : Ty gT m) (hv : -2147483648 ≤ v ∧ v < 2147483648) : YC (gZ L xs) (d + 1) 41 [.ref 316, yI v] m nn (qP m nn (fun r => -1 ≤ r ∧ r < m 316 9)) := by
  refine YC.mkB [some (.ref 316), some (yI v)] kn41 rfl rfl ?_
  refine y_aload 1 c41_0 rfl rfl rfl ?_
  refine y_getR 4 c41_1 rfl kf316_0 ?_
  refine y_aload 5 c41_4 rfl rfl rfl ?_
  refine y_getX 8 (m 316 9) c41_5 rfl kf316_9 rfl ?_
  have tb198 := hT.atp 316 9 0 6 rfl
  refine y_iload 9 c41_8 rfl rfl ?_
  refine y_callP 12 [.ref 317, yI (m 316 9), yI v] [] c41_9 rfl rfl rfl rfl rfl (ycanS km40) (t40 hT ka317 (fun _ => rfl) (by omega) (by decide) (by omega)) (fun r199 hr199 => ?_)
  exact y_retP c41_12 (y_fit0 _) (by omega)
set_option maxRecDepth 100000 in
theorem t46_316 {L : Nat} {xs : Nat → Int32} {d nn : Nat} {m : yM} {v : Int} (hT : Ty gT m) (hv : -2147483648 ≤ v ∧ v < 2147483648) : YC (gZ L xs) (d + 1) 46 [.ref 316, yI v] m nn (qP m nn (fun r => -1 ≤ r ∧ r < m 316 11)) := by
  refine YC.mkB [some (.ref 316), some (yI v)] kn46 rfl rfl ?_
  refine y_aload 1 c46_0 rfl rfl rfl ?_
  refine y_getR 4 c46_1 rfl kf316_3 ?_
  refine y_aload 5 c46_4 rfl rfl rfl ?_
  refine y_getX 8 (m 316 11) c46_5 rfl kf316_11 rfl ?_
  have tb200 := hT.atp 316 11 0 8 rfl
  refine y_iload 9 c46_8 rfl rfl ?_
  refine y_callP 12 [.ref 320, yI (m 316 11), yI v] [] c46_9 rfl rfl rfl rfl rfl (ycanS km40) (t40 hT ka320 (fun _ => rfl) (by omega) (by decide) (by omega)) (fun r201 hr201 => ?_)
  exact y_retP c46_12 (y_fit0 _) (by omega)
set_option maxRecDepth 100000 in
theorem t42_316 {L : Nat} {xs : Nat → Int32} {d nn : Nat} {m : yM} {v : Int} (hT : Ty gT m) (hv : -2147483648 ≤ v ∧ v < 2147483648) : YC (gZ L xs) (d + 2) 42 [.ref 316, yI v] m nn (qI (fun r m' n' => n' = nn ∧ Ty gT m' ∧ Fr wCl316 m m' ∧ ((r = 0 ∧ m' 316 9 = m 316 9) ∨ (r = 1 ∧ m' 316 9 = m 316 9 + 1)))) := by
  refine YC.mkB [some (.ref 316), some (yI v)] kn42 rfl rfl ?_
  have hF : Fr wCl316 m m := Fr.rf
  refine y_aload 1 c42_0 rfl rfl rfl ?_
  refine y_getX 4 (m 316 9) c42_1 rfl kf316_9 rfl ?_
  have tb202 := hT.atp 316 9 0 6 rfl
  refine y_iconst 6 c42_4 rfl ?_
  refine y_icmp 18 9 c42_6 rfl rfl (yc_eq (by omega) (by omega)) (fun hb203 => ?_) (fun hb203 => ?_)
  · refine y_iconst 19 c42_18 rfl ?_
    exact y_retI c42_19 (y_fit1 (by omega)) ⟨rfl, hT, hF, by omega⟩
  · refine y_aload 10 c42_9 rfl rfl rfl ?_
    refine y_iload 11 c42_10 rfl rfl ?_
    refine y_callP 14 [.ref 316, yI v] [] c42_11 rfl rfl rfl rfl rfl (ycanO km41 ko316) (t41_316 hT (by omega)) (fun r204 hr204 => ?_)
    refine y_iconst 15 c42_14 rfl ?_
    refine y_icmp 20 18 c42_15 rfl rfl (yc_eq (by omega) (by omega)) (fun hb205 => ?_) (fun hb205 => ?_)
    · refine y_aload 21 c42_20 rfl rfl rfl ?_
      refine y_getR 24 c42_21 rfl kf316_0 ?_
      refine y_aload 25 c42_24 rfl rfl rfl ?_
      refine y_getX 28 (m 316 9) c42_25 rfl kf316_9 rfl ?_
      refine y_iload 29 c42_28 rfl rfl ?_
      refine y_iastore 30 c42_29 rfl ka317 (by omega) (y_nar0 _) ?_
      have hT206 := hT.up 317 ((m 316 9).toNat) v ((-2147483648)) 2147483647 rfl (by omega)
      have hF207 := hF.up 317 ((m 316 9).toNat) v rfl
      refine y_aload 31 c42_30 rfl rfl rfl ?_
      refine y_getR 34 c42_31 rfl kf316_1 ?_
      refine y_aload 35 c42_34 rfl rfl rfl ?_
      refine y_getX 38 (m 316 9) c42_35 rfl kf316_9 rfl ?_
      refine y_iconst 39 c42_38 rfl ?_
      refine y_iastore 40 c42_39 rfl ka318 (by omega) (y_nar0 _) ?_
      have hT208 := hT206.up 318 ((m 316 9).toNat) ((-1)) ((-1)) 5 rfl (by omega)
      have hF209 := hF207.up 318 ((m 316 9).toNat) ((-1)) rfl
      refine y_aload 41 c42_40 rfl rfl rfl ?_
      refine y_getR 44 c42_41 rfl kf316_2 ?_
      refine y_aload 45 c42_44 rfl rfl rfl ?_
      refine y_getX 48 (m 316 9) c42_45 rfl kf316_9 rfl ?_
      refine y_iconst 49 c42_48 rfl ?_
      refine y_iastore 50 c42_49 rfl ka319 (by omega) (y_nar0 _) ?_
      have hT210 := hT208.up 319 ((m 316 9).toNat) 0 ((-2147483648)) 2147483647 rfl (by omega)
      have hF211 := hF209.up 319 ((m 316 9).toNat) 0 rfl
      refine y_aload 51 c42_50 rfl rfl rfl ?_
      refine y_dup 52 c42_51 rfl rfl ?_
      refine y_getX 55 (m 316 9) c42_52 rfl kf316_9 rfl ?_
      refine y_iconst 56 c42_55 rfl ?_
      refine y_iadd 57 c42_56 rfl ?_
      refine y_putI 60 c42_57 rfl kf316_9 (y_fit0 _) ?_
      have hT212 := hT210.up 316 9 ((m 316 9) + 1) 0 6 rfl (by omega)
      have hF213 := hF211.up 316 9 ((m 316 9) + 1) rfl
      refine y_iconst 61 c42_60 rfl ?_
      have es214 : (yup (yup (yup (yup m 317 ((m 316 9).toNat) v) 318 ((m 316 9).toNat) ((-1))) 319 ((m 316 9).toNat) 0) 316 9 ((m 316 9) + 1)) 316 9 = (m 316 9) + 1 := rfl
      exact y_retI c42_61 (y_fit1 (by omega)) ⟨rfl, hT212, hF213, by omega⟩
    · refine y_iconst 19 c42_18 rfl ?_
      exact y_retI c42_19 (y_fit1 (by omega)) ⟨rfl, hT, hF, by omega⟩
set_option maxRecDepth 100000 in
theorem t44_316 {L : Nat} {xs : Nat → Int32} {d nn : Nat} {m : yM} {v : Int} (hT : Ty gT m) (hv : -2147483648 ≤ v ∧ v < 2147483648) (hc : 1 ≤ m 316 9) : YC (gZ L xs) (d + 2) 44 [.ref 316, yI v] m nn (qI (fun r m' n' => n' = nn ∧ Ty gT m' ∧ Fr wCl316 m m' ∧ m' 316 9 = m 316 9 ∧ (r = 0 ∨ r = 1))) := by
  refine YC.mkB [some (.ref 316), some (yI v), none, none] kn44 rfl rfl ?_
  have hF : Fr wCl316 m m := Fr.rf
  refine y_aload 1 c44_0 rfl rfl rfl ?_
  refine y_getX 4 (m 316 9) c44_1 rfl kf316_9 rfl ?_
  have tb215 := hT.atp 316 9 0 6 rfl
  refine y_iconst 5 c44_4 rfl ?_
  refine y_isub 6 c44_5 rfl ?_
  refine y_istore 7 c44_6 rfl rfl ?_
  refine y_aload 8 c44_7 rfl rfl rfl ?_
  refine y_iload 9 c44_8 rfl rfl ?_
  refine y_callP 12 [.ref 316, yI v] [] c44_9 rfl rfl rfl rfl rfl (ycanO km41 ko316) (t41_316 hT (by omega)) (fun r216 hr216 => ?_)
  refine y_istore 13 c44_12 rfl rfl ?_
  refine y_iload 14 c44_13 rfl rfl ?_
  refine y_iconst 15 c44_14 rfl ?_
  refine y_icmp 23 18 c44_15 rfl rfl (yc_eq (by omega) (by omega)) (fun hb217 => ?_) (fun hb217 => ?_)
  · refine y_iconst 24 c44_23 rfl ?_
    exact y_retI c44_24 (y_fit1 (by omega)) ⟨rfl, hT, hF, by omega⟩
  · refine y_iload 19 c44_18 rfl rfl ?_
    refine y_iload 20 c44_19 rfl rfl ?_
    refine y_icmp 25 23 c44_20 rfl rfl (yc_ne (by omega) (by omega)) (fun hb218 => ?_) (fun hb218 => ?_)
    · refine y_aload 26 c44_25 rfl rfl rfl ?_
      refine y_getR 29 c44_26 rfl kf316_1 ?_
      refine y_iload 30 c44_29 rfl rfl ?_
      refine y_iload 31 c44_30 rfl rfl ?_
      refine y_iastore 32 c44_31 rfl ka318 (by omega) (y_nar0 _) ?_
      have hT219 := hT.up 318 (((m 316 9) - 1).toNat) r216 ((-1)) 5 rfl (by omega)
      have hF220 := hF.up 318 (((m 316 9) - 1).toNat) r216 rfl
      refine y_aload 33 c44_32 rfl rfl rfl ?_
      refine y_getR 36 c44_33 rfl kf316_2 ?_
      refine y_iload 37 c44_36 rfl rfl ?_
      refine y_aload 38 c44_37 rfl rfl rfl ?_
      refine y_getR 41 c44_38 rfl kf316_2 ?_
      refine y_iload 42 c44_41 rfl rfl ?_
      refine y_iaT 43 ((-2147483648)) 2147483647 c44_42 rfl ka319 (by omega) hT219 rfl (fun v221 hv221 gv221 => ?_)
      refine y_iastore 44 c44_43 rfl ka319 (by omega) (y_nar0 _) ?_
      have hT222 := hT219.up 319 (((m 316 9) - 1).toNat) v221 ((-2147483648)) 2147483647 rfl (by omega)
      have hF223 := hF220.up 319 (((m 316 9) - 1).toNat) v221 rfl
      refine y_iconst 45 c44_44 rfl ?_
      have es224 : (yup (yup m 318 (((m 316 9) - 1).toNat) r216) 319 (((m 316 9) - 1).toNat) v221) 316 9 = m 316 9 := rfl
      exact y_retI c44_45 (y_fit1 (by omega)) ⟨rfl, hT222, hF223, by omega⟩
    · refine y_iconst 24 c44_23 rfl ?_
      exact y_retI c44_24 (y_fit1 (by omega)) ⟨rfl, hT, hF, by omega⟩
set_option maxRecDepth 100000 in
theorem t47_316 {L : Nat} {xs : Nat → Int32} {d nn : Nat} {m : yM} {c f : Int} (hT : Ty gT m) (hc : 0 ≤ c ∧ c ≤ 5) (hf : -1 ≤ f ∧ f ≤ 11) : YC (gZ L xs) d 47 [.ref 316, yI c, yI f] m nn (qP m nn (fun r => (r = 0 ∨ r = 1) ∧ (r = 1 → f ≠ -1))) := by
  refine YC.mkB [some (.ref 316), some (yI c), some (yI f)] kn47 rfl rfl ?_
  refine y_iload 1 c47_0 rfl rfl ?_
  refine y_iconst 2 c47_1 rfl ?_
  refine y_icmp 23 5 c47_2 rfl rfl (yc_eq (by omega) (by omega)) (fun hb225 => ?_) (fun hb225 => ?_)
  · refine y_iconst 24 c47_23 rfl ?_
    exact y_retP c47_24 (y_fit1 (by omega)) (by omega)
  · refine y_aload 6 c47_5 rfl rfl rfl ?_
    refine y_getR 9 c47_6 rfl kf316_2 ?_
    refine y_iload 10 c47_9 rfl rfl ?_
    refine y_iaT 11 ((-2147483648)) 2147483647 c47_10 rfl ka319 (by omega) hT rfl (fun v226 hv226 gv226 => ?_)
    refine y_iload 12 c47_11 rfl rfl ?_
    refine y_ishr 13 c47_12 rfl ?_
    refine y_nam (fun b227 hb227 => ?_)
    have gb227 : -2147483648 ≤ b227 ∧ b227 < 2147483648 := by rw [hb227]; exact i32r _
    refine y_iconst 14 c47_13 rfl ?_
    refine y_iand 15 c47_14 rfl ?_
    refine y_nam (fun b228 hb228 => ?_)
    have gb228 : -2147483648 ≤ b228 ∧ b228 < 2147483648 := by rw [hb228]; exact i32r _
    refine y_iconst 16 c47_15 rfl ?_
    refine y_icmp 23 19 c47_16 rfl rfl (yc_ne (by omega) (by omega)) (fun hb229 => ?_) (fun hb229 => ?_)
    · refine y_iconst 24 c47_23 rfl ?_
      exact y_retP c47_24 (y_fit1 (by omega)) (by omega)
    · refine y_iconst 20 c47_19 rfl ?_
      refine y_goto 24 c47_20 rfl ?_
      exact y_retP c47_24 (y_fit1 (by omega)) (by omega)
set_option maxRecDepth 100000 in
theorem t48_316 {L : Nat} {xs : Nat → Int32} {d nn : Nat} {m : yM} {v : Int} (hT : Ty gT m) (hv : -2147483648 ≤ v ∧ v < 2147483648) (hc : 1 ≤ m 316 9) : YC (gZ L xs) (d + 2) 48 [.ref 316, yI v] m nn (qI (fun r m' n' => n' = nn ∧ Ty gT m' ∧ Fr wFi316 m m' ∧ (r = 0 ∨ r = 1))) := by
  refine YC.mkB [some (.ref 316), some (yI v), none, none] kn48 rfl rfl ?_
  have hF : Fr wFi316 m m := Fr.rf
  refine y_aload 1 c48_0 rfl rfl rfl ?_
  refine y_getX 4 (m 316 9) c48_1 rfl kf316_9 rfl ?_
  have tb230 := hT.atp 316 9 0 6 rfl
  refine y_iconst 5 c48_4 rfl ?_
  refine y_isub 6 c48_5 rfl ?_
  refine y_istore 7 c48_6 rfl rfl ?_
  refine y_aload 8 c48_7 rfl rfl rfl ?_
  refine y_iload 9 c48_8 rfl rfl ?_
  have tb231 := hT.atp 316 11 0 8 rfl
  refine y_callP 12 [.ref 316, yI v] [] c48_9 rfl rfl rfl rfl rfl (ycanO km46 ko316) (t46_316 hT (by omega)) (fun r232 hr232 => ?_)
  refine y_istore 13 c48_12 rfl rfl ?_
  refine y_iload 14 c48_13 rfl rfl ?_
  refine y_iconst 15 c48_14 rfl ?_
  refine y_icmp 54 18 c48_15 rfl rfl (yc_ne (by omega) (by omega)) (fun hb233 => ?_) (fun hb233 => ?_)
  · refine y_aload 55 c48_54 rfl rfl rfl ?_
    refine y_iload 56 c48_55 rfl rfl ?_
    refine y_iload 57 c48_56 rfl rfl ?_
    refine y_callP 60 [.ref 316, yI ((m 316 9) - 1), yI r232] [] c48_57 rfl rfl rfl rfl rfl (ycanO km47 ko316) (t47_316 hT (by omega) (by omega)) (fun r234 hr234 => ?_)
    refine y_if 65 63 c48_60 rfl rfl (yz_eq (by omega)) (fun hb235 => ?_) (fun hb235 => ?_)
    · refine y_aload 66 c48_65 rfl rfl rfl ?_
      refine y_getR 69 c48_66 rfl kf316_2 ?_
      refine y_iload 70 c48_69 rfl rfl ?_
      refine y_dup2 71 c48_70 rfl ⟨rfl, rfl⟩ ?_
      refine y_iaT 72 ((-2147483648)) 2147483647 c48_71 rfl ka319 (by omega) hT rfl (fun v236 hv236 gv236 => ?_)
      refine y_iconst 73 c48_72 rfl ?_
      refine y_iload 74 c48_73 rfl rfl ?_
      refine y_ishl 75 c48_74 rfl ?_
      refine y_nam (fun b237 hb237 => ?_)
      have gb237 : -2147483648 ≤ b237 ∧ b237 < 2147483648 := by rw [hb237]; exact i32r _
      refine y_ior 76 c48_75 rfl ?_
      refine y_nam (fun b238 hb238 => ?_)
      have gb238 : -2147483648 ≤ b238 ∧ b238 < 2147483648 := by rw [hb238]; exact i32r _
      refine y_iastore 77 c48_76 rfl ka319 (by omega) (y_nar0 _) ?_
      have hT239 := hT.up 319 (((m 316 9) - 1).toNat) b238 ((-2147483648)) 2147483647 rfl (by omega)
      have hF240 := hF.up 319 (((m 316 9) - 1).toNat) b238 rfl
      refine y_iconst 78 c48_77 rfl ?_
      exact y_retI c48_78 (y_fit1 (by omega)) ⟨rfl, hT239, hF240, by omega⟩
    · refine y_iconst 64 c48_63 rfl ?_
      exact y_retI c48_64 (y_fit1 (by omega)) ⟨rfl, hT, hF, by omega⟩
  · refine y_aload 19 c48_18 rfl rfl rfl ?_
    refine y_getX 22 (m 316 11) c48_19 rfl kf316_11 rfl ?_
    refine y_iconst 24 c48_22 rfl ?_
    refine y_icmp 29 27 c48_24 rfl rfl (yc_ne (by omega) (by omega)) (fun hb241 => ?_) (fun hb241 => ?_)
    · refine y_aload 30 c48_29 rfl rfl rfl ?_
      refine y_getX 33 (m 316 11) c48_30 rfl kf316_11 rfl ?_
      refine y_istore 34 c48_33 rfl rfl ?_
      refine y_aload 35 c48_34 rfl rfl rfl ?_
      refine y_getR 38 c48_35 rfl kf316_3 ?_
      refine y_aload 39 c48_38 rfl rfl rfl ?_
      refine y_getX 42 (m 316 11) c48_39 rfl kf316_11 rfl ?_
      refine y_iload 43 c48_42 rfl rfl ?_
      refine y_iastore 44 c48_43 rfl ka320 (by omega) (y_nar0 _) ?_
      have hT242 := hT.up 320 ((m 316 11).toNat) v ((-2147483648)) 2147483647 rfl (by omega)
      have hF243 := hF.up 320 ((m 316 11).toNat) v rfl
      refine y_aload 45 c48_44 rfl rfl rfl ?_
      refine y_dup 46 c48_45 rfl rfl ?_
      refine y_getX 49 (m 316 11) c48_46 rfl kf316_11 rfl ?_
      refine y_iconst 50 c48_49 rfl ?_
      refine y_iadd 51 c48_50 rfl ?_
      refine y_putI 54 c48_51 rfl kf316_11 (y_fit0 _) ?_
      have hT244 := hT242.up 316 11 ((m 316 11) + 1) 0 8 rfl (by omega)
      have hF245 := hF243.up 316 11 ((m 316 11) + 1) rfl
      refine y_aload 55 c48_54 rfl rfl rfl ?_
      refine y_iload 56 c48_55 rfl rfl ?_
      refine y_iload 57 c48_56 rfl rfl ?_
      refine y_callP 60 [.ref 316, yI ((m 316 9) - 1), yI (m 316 11)] [] c48_57 rfl rfl rfl rfl rfl (ycanO km47 ko316) (t47_316 hT244 (by omega) (by omega)) (fun r246 hr246 => ?_)
      refine y_if 65 63 c48_60 rfl rfl (yz_eq (by omega)) (fun hb247 => ?_) (fun hb247 => ?_)
      · refine y_aload 66 c48_65 rfl rfl rfl ?_
        refine y_getR 69 c48_66 rfl kf316_2 ?_
        refine y_iload 70 c48_69 rfl rfl ?_
        refine y_dup2 71 c48_70 rfl ⟨rfl, rfl⟩ ?_
        refine y_iaT 72 ((-2147483648)) 2147483647 c48_71 rfl ka319 (by omega) hT244 rfl (fun v248 hv248 gv248 => ?_)
        refine y_iconst 73 c48_72 rfl ?_
        refine y_iload 74 c48_73 rfl rfl ?_
        refine y_ishl 75 c48_74 rfl ?_
        refine y_nam (fun b249 hb249 => ?_)
        have gb249 : -2147483648 ≤ b249 ∧ b249 < 2147483648 := by rw [hb249]; exact i32r _
        refine y_ior 76 c48_75 rfl ?_
        refine y_nam (fun b250 hb250 => ?_)
        have gb250 : -2147483648 ≤ b250 ∧ b250 < 2147483648 := by rw [hb250]; exact i32r _
        refine y_iastore 77 c48_76 rfl ka319 (by omega) (y_nar0 _) ?_
        have hT251 := hT244.up 319 (((m 316 9) - 1).toNat) b250 ((-2147483648)) 2147483647 rfl (by omega)
        have hF252 := hF245.up 319 (((m 316 9) - 1).toNat) b250 rfl
        refine y_iconst 78 c48_77 rfl ?_
        exact y_retI c48_78 (y_fit1 (by omega)) ⟨rfl, hT251, hF252, by omega⟩
      · refine y_iconst 64 c48_63 rfl ?_
        exact y_retI c48_64 (y_fit1 (by omega)) ⟨rfl, hT244, hF245, by omega⟩
    · refine y_iconst 28 c48_27 rfl ?_
      exact y_retI c48_28 (y_fit1 (by omega)) ⟨rfl, hT, hF, by omega⟩
set_option maxRecDepth 100000 in
theorem t50a_316 {L : Nat} {xs : Nat → Int32} {d nn : Nat} {m : yM} {c v : Int} (hT : Ty gT m) (hc : -2147483648 ≤ c ∧ c < 2147483648) (hv : -2147483648 ≤ v ∧ v < 2147483648) : ∀ (k : Nat) (i : Int), m 316 10 - i = k → 0 ≤ i ∧ i ≤ m 316 10 → YW (gZ L xs) 50 d 2 [some (.ref 316), some (yI c), some (yI v), some (yI i)] [] m nn (qP m nn (fun r => -1 ≤ r ∧ r < m 316 10)) := by
  intro k
  induction k using Nat.strongRecOn with
  | ind k ih =>
    intro i hk hi
    have tb := hT.atp 316 10 0 10 rfl
    refine y_iload 3 c50_2 rfl rfl ?_
    refine y_aload 4 c50_3 rfl rfl rfl ?_
    refine y_getX 7 (m 316 10) c50_4 rfl kf316_10 rfl ?_
    refine y_icmp 44 10 c50_7 rfl rfl (yc_ge (by omega) (by omega)) (fun hb253 => ?_) (fun hb253 => ?_)
    · refine y_iconst 45 c50_44 rfl ?_
      exact y_retP c50_45 (y_fit0 _) (by omega)
    · refine y_aload 11 c50_10 rfl rfl rfl ?_
      refine y_getR 14 c50_11 rfl kf316_5 ?_
      refine y_iload 15 c50_14 rfl rfl ?_
      refine y_aaload 16 c50_15 rfl kr322 (by omega) ?_
      refine y_getT 19 0 5 c50_16 rfl (ff326_1 (by omega)) hT (ft326_1 (by omega)) (fun v254 hv254 gv254 => ?_)
      refine y_iload 20 c50_19 rfl rfl ?_
      refine y_icmp 38 23 c50_20 rfl rfl (yc_ne (by omega) (by omega)) (fun hb255 => ?_) (fun hb255 => ?_)
      · refine y_iinc 41 c50_38 rfl rfl rfl ?_
        refine y_goto 2 c50_41 rfl ?_
        exact ih (m 316 10 - (i + 1) : Int).toNat (by omega) (i + 1)   (by omega) (by omega)
      · refine y_aload 24 c50_23 rfl rfl rfl ?_
        refine y_getR 27 c50_24 rfl kf316_5 ?_
        refine y_iload 28 c50_27 rfl rfl ?_
        refine y_aaload 29 c50_28 rfl kr322 (by omega) ?_
        refine y_getT 32 ((-2147483648)) 2147483647 c50_29 rfl (ff326_0 (by omega)) hT (ft326_0 (by omega)) (fun v256 hv256 gv256 => ?_)
        refine y_iload 33 c50_32 rfl rfl ?_
        refine y_icmp 38 36 c50_33 rfl rfl (yc_ne (by omega) (by omega)) (fun hb257 => ?_) (fun hb257 => ?_)
        · refine y_iinc 41 c50_38 rfl rfl rfl ?_
          refine y_goto 2 c50_41 rfl ?_
          exact ih (m 316 10 - (i + 1) : Int).toNat (by omega) (i + 1)   (by omega) (by omega)
        · refine y_iload 37 c50_36 rfl rfl ?_
          exact y_retP c50_37 (y_fit0 _) (by omega)
set_option maxRecDepth 100000 in
theorem t50_316 {L : Nat} {xs : Nat → Int32} {d nn : Nat} {m : yM} {c v : Int} (hT : Ty gT m) (hc : -2147483648 ≤ c ∧ c < 2147483648) (hv : -2147483648 ≤ v ∧ v < 2147483648) : YC (gZ L xs) d 50 [.ref 316, yI c, yI v] m nn (qP m nn (fun r => -1 ≤ r ∧ r < m 316 10)) := by
  refine YC.mkB [some (.ref 316), some (yI c), some (yI v), none] kn50 rfl rfl ?_
  refine y_iconst 1 c50_0 rfl ?_
  refine y_istore 2 c50_1 rfl rfl ?_
  have tb := hT.atp 316 10 0 10 rfl
  exact t50a_316 hT hc hv (m 316 10 - 0 : Int).toNat 0   (by omega) (by omega)
end
section
/-! CONTRACTS: printed by wip/whole/gen80.py and on -/
set_option maxRecDepth 100000 in
theorem t51_256 {L : Nat} {xs : Nat → Int32} {d nn : Nat} {m : yM} {v : Int} (hT : Ty gT m) (hv : -2147483648 ≤ v ∧ v < 2147483648) (hc : 1 ≤ m 256 9) : YC (gZ L xs) (d + 1) 51 [.ref 256, yI v] m nn (qI (fun r m' n' => n' = nn ∧ Ty gT m' ∧ Fr wMe256 m m' ∧ ((r = 0 ∧ m' = m) ∨ (r = 1 ∧ m' 256 10 = m 256 10 + 1 ∧ m' 256 15 = m 256 15 + 2 ∧ m' (266 + (m 256 10).toNat) 2 = m 256 15 ∧ m' (266 + (m 256 10).toNat) 3 = 0 ∧ (MP 266 m → MP 266 m') ∧ ∀ j, m' (266 + j) 5 = m (266 + j) 5)))) := by
  refine YC.mkB [some (.ref 256), some (yI v), none, none] kn51 rfl rfl ?_
  have hF : Fr wMe256 m m := Fr.rf
  refine y_aload 1 c51_0 rfl rfl rfl ?_
  refine y_getX 4 (m 256 9) c51_1 rfl kf256_9 rfl ?_
  have tb258 := hT.atp 256 9 0 6 rfl
  refine y_iconst 5 c51_4 rfl ?_
  refine y_isub 6 c51_5 rfl ?_
  refine y_istore 7 c51_6 rfl rfl ?_
  refine y_aload 8 c51_7 rfl rfl rfl ?_
  refine y_getX 11 (m 256 10) c51_8 rfl kf256_10 rfl ?_
  have tb259 := hT.atp 256 10 0 10 rfl
  refine y_iconst 13 c51_11 rfl ?_
  refine y_icmp 37 16 c51_13 rfl rfl (yc_eq (by omega) (by omega)) (fun hb260 => ?_) (fun hb260 => ?_)
  · refine y_iconst 38 c51_37 rfl ?_
    exact y_retI c51_38 (y_fit1 (by omega)) ⟨rfl, hT, hF, Or.inl ⟨rfl, rfl⟩⟩
  · refine y_aload 17 c51_16 rfl rfl rfl ?_
    refine y_getX 20 (m 256 15) c51_17 rfl kf256_15 rfl ?_
    have tb261 := hT.atp 256 15 0 48 rfl
    refine y_iconst 21 c51_20 rfl ?_
    refine y_iadd 22 c51_21 rfl ?_
    refine y_iconst 24 c51_22 rfl ?_
    refine y_icmp 37 27 c51_24 rfl rfl (yc_gt (by omega) (by omega)) (fun hb262 => ?_) (fun hb262 => ?_)
    · refine y_iconst 38 c51_37 rfl ?_
      exact y_retI c51_38 (y_fit1 (by omega)) ⟨rfl, hT, hF, Or.inl ⟨rfl, rfl⟩⟩
    · refine y_aload 28 c51_27 rfl rfl rfl ?_
      refine y_iload 29 c51_28 rfl rfl ?_
      refine y_iload 30 c51_29 rfl rfl ?_
      refine y_callP 33 [.ref 256, yI ((m 256 9) - 1), yI v] [] c51_30 rfl rfl rfl rfl rfl (ycanO km50 ko256) (t50_256 hT (by omega) (by omega)) (fun r263 hr263 => ?_)
      refine y_iconst 34 c51_33 rfl ?_
      refine y_icmp 39 37 c51_34 rfl rfl (yc_eq (by omega) (by omega)) (fun hb264 => ?_) (fun hb264 => ?_)
      · refine y_aload 40 c51_39 rfl rfl rfl ?_
        refine y_getR 43 c51_40 rfl kf256_5 ?_
        refine y_aload 44 c51_43 rfl rfl rfl ?_
        refine y_getX 47 (m 256 10) c51_44 rfl kf256_10 rfl ?_
        refine y_aaload 48 c51_47 rfl kr262 (by omega) ?_
        refine y_astore 49 c51_48 rfl rfl rfl ?_
        refine y_aload 50 c51_49 rfl rfl rfl ?_
        refine y_iload 51 c51_50 rfl rfl ?_
        refine y_putI 54 c51_51 rfl (ff266_0 (by omega)) (y_fit0 _) ?_
        have hT265 := hT.up (266 + (m 256 10).toNat) 0 v ((-2147483648)) 2147483647 (ft266_0 (by omega)) (by omega)
        have hF266 := hF.up (266 + (m 256 10).toNat) 0 v (wMe256_266 (by omega))
        refine y_aload 55 c51_54 rfl rfl rfl ?_
        refine y_iload 56 c51_55 rfl rfl ?_
        refine y_putI 59 c51_56 rfl (ff266_1 (by omega)) (y_fit0 _) ?_
        have hT267 := hT265.up (266 + (m 256 10).toNat) 1 ((m 256 9) - 1) 0 5 (ft266_1 (by omega)) (by omega)
        have hF268 := hF266.up (266 + (m 256 10).toNat) 1 ((m 256 9) - 1) (wMe256_266 (by omega))
        refine y_aload 60 c51_59 rfl rfl rfl ?_
        refine y_aload 61 c51_60 rfl rfl rfl ?_
        refine y_getX 64 (m 256 15) c51_61 rfl kf256_15 ((yup_na (by omega)).trans (yup_na (by omega))) ?_
        refine y_putI 67 c51_64 rfl (ff266_2 (by omega)) (y_fit0 _) ?_
        have hT269 := hT267.up (266 + (m 256 10).toNat) 2 (m 256 15) 0 46 (ft266_2 (by omega)) (by omega)
        have hF270 := hF268.up (266 + (m 256 10).toNat) 2 (m 256 15) (wMe256_266 (by omega))
        refine y_aload 68 c51_67 rfl rfl rfl ?_
        refine y_iconst 69 c51_68 rfl ?_
        refine y_putI 72 c51_69 rfl (ff266_3 (by omega)) (y_fit0 _) ?_
        have hT271 := hT269.up (266 + (m 256 10).toNat) 3 0 0 2 (ft266_3 (by omega)) (by omega)
        have hF272 := hF270.up (266 + (m 256 10).toNat) 3 0 (wMe256_266 (by omega))
        refine y_aload 73 c51_72 rfl rfl rfl ?_
        refine y_dup 74 c51_73 rfl rfl ?_
        refine y_getX 77 (m 256 10) c51_74 rfl kf256_10 ((yup_na (by omega)).trans ((yup_na (by omega)).trans ((yup_na (by omega)).trans (yup_na (by omega))))) ?_
        refine y_iconst 78 c51_77 rfl ?_
        refine y_iadd 79 c51_78 rfl ?_
        refine y_putI 82 c51_79 rfl kf256_10 (y_fit0 _) ?_
        have hT273 := hT271.up 256 10 ((m 256 10) + 1) 0 10 rfl (by omega)
        have hF274 := hF272.up 256 10 ((m 256 10) + 1) rfl
        refine y_aload 83 c51_82 rfl rfl rfl ?_
        refine y_getR 86 c51_83 rfl kf256_4 ?_
        refine y_aload 87 c51_86 rfl rfl rfl ?_
        refine y_getX 90 (m 256 15) c51_87 rfl kf256_15 ((yup_nk (by decide)).trans ((yup_na (by omega)).trans ((yup_na (by omega)).trans ((yup_na (by omega)).trans (yup_na (by omega)))))) ?_
        refine y_iconst 91 c51_90 rfl ?_
        refine y_iastore 92 c51_91 rfl ka261 (by omega) (y_nar0 _) ?_
        have hT275 := hT273.up 261 ((m 256 15).toNat) 0 ((-2147483648)) 2147483647 rfl (by omega)
        have hF276 := hF274.up 261 ((m 256 15).toNat) 0 rfl
        refine y_aload 93 c51_92 rfl rfl rfl ?_
        refine y_getR 96 c51_93 rfl kf256_4 ?_
        refine y_aload 97 c51_96 rfl rfl rfl ?_
        refine y_getX 100 (m 256 15) c51_97 rfl kf256_15 ((yup_na (by decide)).trans ((yup_nk (by decide)).trans ((yup_na (by omega)).trans ((yup_na (by omega)).trans ((yup_na (by omega)).trans (yup_na (by omega))))))) ?_
        refine y_iconst 101 c51_100 rfl ?_
        refine y_iadd 102 c51_101 rfl ?_
        refine y_iconst 103 c51_102 rfl ?_
        refine y_iastore 104 c51_103 rfl ka261 (by omega) (y_nar0 _) ?_
        have hT277 := hT275.up 261 (((m 256 15) + 1).toNat) 0 ((-2147483648)) 2147483647 rfl (by omega)
        have hF278 := hF276.up 261 (((m 256 15) + 1).toNat) 0 rfl
        refine y_aload 105 c51_104 rfl rfl rfl ?_
        refine y_dup 106 c51_105 rfl rfl ?_
        refine y_getX 109 (m 256 15) c51_106 rfl kf256_15 ((yup_na (by decide)).trans ((yup_na (by decide)).trans ((yup_nk (by decide)).trans ((yup_na (by omega)).trans ((yup_na (by omega)).trans ((yup_na (by omega)).trans (yup_na (by omega)))))))) ?_
        refine y_iconst 110 c51_109 rfl ?_
        refine y_iadd 111 c51_110 rfl ?_
        refine y_putI 114 c51_111 rfl kf256_15 (y_fit0 _) ?_
        have hT279 := hT277.up 256 15 ((m 256 15) + 2) 0 48 rfl (by omega)
        have hF280 := hF278.up 256 15 ((m 256 15) + 2) rfl
        refine y_iconst 115 c51_114 rfl ?_
        have es281 : (yup (yup (yup (yup (yup (yup (yup (yup m (266 + (m 256 10).toNat) 0 v) (266 + (m 256 10).toNat) 1 ((m 256 9) - 1)) (266 + (m 256 10).toNat) 2 (m 256 15)) (266 + (m 256 10).toNat) 3 0) 256 10 ((m 256 10) + 1)) 261 ((m 256 15).toNat) 0) 261 (((m 256 15) + 1).toNat) 0) 256 15 ((m 256 15) + 2)) 256 10 = (m 256 10) + 1 := rfl
        have es282 : (yup (yup (yup (yup (yup (yup (yup (yup m (266 + (m 256 10).toNat) 0 v) (266 + (m 256 10).toNat) 1 ((m 256 9) - 1)) (266 + (m 256 10).toNat) 2 (m 256 15)) (266 + (m 256 10).toNat) 3 0) 256 10 ((m 256 10) + 1)) 261 ((m 256 15).toNat) 0) 261 (((m 256 15) + 1).toNat) 0) 256 15 ((m 256 15) + 2)) 256 15 = (m 256 15) + 2 := rfl
        refine y_retI c51_115 (y_fit1 (by omega)) ⟨rfl, hT279, hF280, Or.inr ⟨rfl, by omega, by omega, by repeat (first | rw [yup_eq] | rw [yup_na (by omega)] | rw [yup_nk (by omega)]), by repeat (first | rw [yup_eq] | rw [yup_na (by omega)] | rw [yup_nk (by omega)]), fun hM j hj => ?_, fun j => by repeat (first | rw [yup_eq] | rw [yup_na (by omega)] | rw [yup_nk (by omega)])⟩⟩
        have h0 := hM j hj
        by_cases e : j = (m 256 10).toNat
        · subst e
          have e2 : (yup (yup (yup (yup (yup (yup (yup (yup m (266 + (m 256 10).toNat) 0 v) (266 + (m 256 10).toNat) 1 ((m 256 9) - 1)) (266 + (m 256 10).toNat) 2 (m 256 15)) (266 + (m 256 10).toNat) 3 0) 256 10 ((m 256 10) + 1)) 261 ((m 256 15).toNat) 0) 261 (((m 256 15) + 1).toNat) 0) 256 15 ((m 256 15) + 2)) (266 + (m 256 10).toNat) 2 = m 256 15 := by repeat (first | rw [yup_eq] | rw [yup_na (by omega)] | rw [yup_nk (by omega)])
          have e3 : (yup (yup (yup (yup (yup (yup (yup (yup m (266 + (m 256 10).toNat) 0 v) (266 + (m 256 10).toNat) 1 ((m 256 9) - 1)) (266 + (m 256 10).toNat) 2 (m 256 15)) (266 + (m 256 10).toNat) 3 0) 256 10 ((m 256 10) + 1)) 261 ((m 256 15).toNat) 0) 261 (((m 256 15) + 1).toNat) 0) 256 15 ((m 256 15) + 2)) (266 + (m 256 10).toNat) 3 = 0 := by repeat (first | rw [yup_eq] | rw [yup_na (by omega)] | rw [yup_nk (by omega)])
          omega
        · have e2 : (yup (yup (yup (yup (yup (yup (yup (yup m (266 + (m 256 10).toNat) 0 v) (266 + (m 256 10).toNat) 1 ((m 256 9) - 1)) (266 + (m 256 10).toNat) 2 (m 256 15)) (266 + (m 256 10).toNat) 3 0) 256 10 ((m 256 10) + 1)) 261 ((m 256 15).toNat) 0) 261 (((m 256 15) + 1).toNat) 0) 256 15 ((m 256 15) + 2)) (266 + j) 2 = m (266 + j) 2 := by repeat (first | rw [yup_eq] | rw [yup_na (by omega)] | rw [yup_nk (by omega)])
          have e3 : (yup (yup (yup (yup (yup (yup (yup (yup m (266 + (m 256 10).toNat) 0 v) (266 + (m 256 10).toNat) 1 ((m 256 9) - 1)) (266 + (m 256 10).toNat) 2 (m 256 15)) (266 + (m 256 10).toNat) 3 0) 256 10 ((m 256 10) + 1)) 261 ((m 256 15).toNat) 0) 261 (((m 256 15) + 1).toNat) 0) 256 15 ((m 256 15) + 2)) (266 + j) 3 = m (266 + j) 3 := by repeat (first | rw [yup_eq] | rw [yup_na (by omega)] | rw [yup_nk (by omega)])
          omega
      · refine y_iconst 38 c51_37 rfl ?_
        exact y_retI c51_38 (y_fit1 (by omega)) ⟨rfl, hT, hF, Or.inl ⟨rfl, rfl⟩⟩
set_option maxRecDepth 100000 in
theorem t52a_256 {L : Nat} {xs : Nat → Int32} {d nn : Nat} {m : yM} {v : Int} (hT : Ty gT m) (hv : -2147483648 ≤ v ∧ v < 2147483648) (hm : 1 ≤ m 256 10) : ∀ (k : Nat) (i : Int), 48 - i = k → 0 ≤ i ∧ i ≤ 48 → YW (gZ L xs) 52 d 15 [some (.ref 256), some (yI v), some (yI i)] [] m nn (qI (fun r m' n' => n' = nn ∧ Ty gT m' ∧ Fr wVa256 m m' ∧ ((m' 256 15 = m 256 15 ∧ -1 ≤ r ∧ r < m 256 15) ∨ (m' 256 15 = m 256 15 + 1 ∧ r = m 256 15)))) := by
  intro k
  induction k using Nat.strongRecOn with
  | ind k ih =>
    intro i hk hi
    have hF : Fr wVa256 m m := Fr.rf
    refine y_iload 16 c52_15 rfl rfl ?_
    refine y_aload 17 c52_16 rfl rfl rfl ?_
    refine y_getX 20 (m 256 15) c52_17 rfl kf256_15 rfl ?_
    have tb283 := hT.atp 256 15 0 48 rfl
    refine y_icmp 41 23 c52_20 rfl rfl (yc_ge (by omega) (by omega)) (fun hb284 => ?_) (fun hb284 => ?_)
    · refine y_aload 42 c52_41 rfl rfl rfl ?_
      refine y_getX 45 (m 256 15) c52_42 rfl kf256_15 rfl ?_
      refine y_iconst 47 c52_45 rfl ?_
      refine y_icmp 52 50 c52_47 rfl rfl (yc_ne (by omega) (by omega)) (fun hb285 => ?_) (fun hb285 => ?_)
      · refine y_aload 53 c52_52 rfl rfl rfl ?_
        refine y_getR 56 c52_53 rfl kf256_4 ?_
        refine y_aload 57 c52_56 rfl rfl rfl ?_
        refine y_getX 60 (m 256 15) c52_57 rfl kf256_15 rfl ?_
        refine y_iload 61 c52_60 rfl rfl ?_
        refine y_iastore 62 c52_61 rfl ka261 (by omega) (y_nar0 _) ?_
        have hT286 := hT.up 261 ((m 256 15).toNat) v ((-2147483648)) 2147483647 rfl (by omega)
        have hF287 := hF.up 261 ((m 256 15).toNat) v rfl
        refine y_aload 63 c52_62 rfl rfl rfl ?_
        refine y_dup 64 c52_63 rfl rfl ?_
        refine y_getX 67 (m 256 15) c52_64 rfl kf256_15 rfl ?_
        refine y_iconst 68 c52_67 rfl ?_
        refine y_iadd 69 c52_68 rfl ?_
        refine y_putI 72 c52_69 rfl kf256_15 (y_fit0 _) ?_
        have hT288 := hT286.up 256 15 ((m 256 15) + 1) 0 48 rfl (by omega)
        have hF289 := hF287.up 256 15 ((m 256 15) + 1) rfl
        refine y_aload 73 c52_72 rfl rfl rfl ?_
        refine y_getX 76 ((m 256 15) + 1) c52_73 rfl kf256_15 rfl ?_
        refine y_iconst 77 c52_76 rfl ?_
        refine y_isub 78 c52_77 rfl ?_
        have es290 : (yup (yup m 261 ((m 256 15).toNat) v) 256 15 ((m 256 15) + 1)) 256 15 = (m 256 15) + 1 := rfl
        exact y_retI c52_78 (y_fit0 _) ⟨rfl, hT288, hF289, by omega⟩
      · refine y_iconst 51 c52_50 rfl ?_
        exact y_retI c52_51 (y_fit0 _) ⟨rfl, hT, hF, by omega⟩
    · refine y_aload 24 c52_23 rfl rfl rfl ?_
      refine y_getR 27 c52_24 rfl kf256_4 ?_
      refine y_iload 28 c52_27 rfl rfl ?_
      refine y_iaT 29 ((-2147483648)) 2147483647 c52_28 rfl ka261 (by omega) hT rfl (fun v291 hv291 gv291 => ?_)
      refine y_iload 30 c52_29 rfl rfl ?_
      refine y_icmp 35 33 c52_30 rfl rfl (yc_ne (by omega) (by omega)) (fun hb292 => ?_) (fun hb292 => ?_)
      · refine y_iinc 38 c52_35 rfl rfl rfl ?_
        refine y_goto 15 c52_38 rfl ?_
        exact ih (48 - (i + 1) : Int).toNat (by omega) (i + 1)   (by omega) (by omega)
      · refine y_iload 34 c52_33 rfl rfl ?_
        exact y_retI c52_34 (y_fit0 _) ⟨rfl, hT, hF, by omega⟩
set_option maxRecDepth 100000 in
theorem t52_256 {L : Nat} {xs : Nat → Int32} {d nn : Nat} {m : yM} {v : Int} (hT : Ty gT m) (hv : -2147483648 ≤ v ∧ v < 2147483648) (hm : 1 ≤ m 256 10) : YC (gZ L xs) d 52 [.ref 256, yI v] m nn (qI (fun r m' n' => n' = nn ∧ Ty gT m' ∧ Fr wVa256 m m' ∧ ((m' 256 15 = m 256 15 ∧ -1 ≤ r ∧ r < m 256 15) ∨ (m' 256 15 = m 256 15 + 1 ∧ r = m 256 15)))) := by
  refine YC.mkB [some (.ref 256), some (yI v), none] kn52 rfl rfl ?_
  refine y_aload 1 c52_0 rfl rfl rfl ?_
  refine y_getR 4 c52_1 rfl kf256_5 ?_
  refine y_aload 5 c52_4 rfl rfl rfl ?_
  refine y_getX 8 (m 256 10) c52_5 rfl kf256_10 rfl ?_
  have tb293 := hT.atp 256 10 0 10 rfl
  refine y_iconst 9 c52_8 rfl ?_
  refine y_isub 10 c52_9 rfl ?_
  refine y_aaload 11 c52_10 rfl kr262 (by omega) ?_
  refine y_getT 14 0 46 c52_11 rfl (ff266_2 (by omega)) hT (ft266_2 (by omega)) (fun v294 hv294 gv294 => ?_)
  refine y_istore 15 c52_14 rfl rfl ?_
  exact t52a_256 hT hv hm (48 - v294 : Int).toNat v294   (by omega) (by omega)
def wPm256 (a q : Nat) : Bool := (a == 256 && q == 15) || a == 261 || (decide (266 ≤ a ∧ a < 276) && q == 3)
theorem wPm256_m {k : Nat} (h : k < 10) : wPm256 (266 + k) 3 = true := by
  simp [wPm256]
  omega
theorem wPm256_P : ∀ a q, wPm256 a q = true → wPa256 a q = true := by
  intro a q h
  simp [wPm256] at h
  simp [wPa256]
  omega
theorem wVa256_Pm : ∀ a q, wVa256 a q = true → wPm256 a q = true := by
  intro a q h
  simp [wVa256] at h
  simp [wPm256]
  omega
theorem wVa256_no {k q : Nat} : wVa256 (266 + k) q = false := by
  simp [wVa256]
  omega
set_option maxRecDepth 100000 in
theorem t53_256 {L : Nat} {xs : Nat → Int32} {d nn : Nat} {m : yM} {v : Int} (hT : Ty gT m) (hv : -2147483648 ≤ v ∧ v < 2147483648) (hm : 1 ≤ m 256 10) (hp : m (266 + (m 256 10 - 1).toNat) 3 ≤ 1) (hr : m (266 + (m 256 10 - 1).toNat) 2 + 2 + m (266 + (m 256 10 - 1).toNat) 3 = m 256 15) : YC (gZ L xs) (d + 1) 53 [.ref 256, yI v] m nn (qI (fun r m' n' => n' = nn ∧ Ty gT m' ∧ Fr wPm256 m m' ∧ ((r = 0 ∧ ∀ a q, 262 ≤ a → m' a q = m a q) ∨ (r = 1 ∧ m' 256 15 = m 256 15 + 1 ∧ m' (266 + (m 256 10 - 1).toNat) 3 = m (266 + (m 256 10 - 1).toNat) 3 + 1 ∧ (MP 266 m → MP 266 m'))))) := by
  have tb10 := hT.atp 256 10 0 10 rfl
  refine YC.mkB [some (.ref 256), some (yI v), none] kn53 rfl rfl ?_
  have hF : Fr wPm256 m m := Fr.rf
  refine y_aload 1 c53_0 rfl rfl rfl ?_
  refine y_getX 4 (m 256 15) c53_1 rfl kf256_15 rfl ?_
  have tb295 := hT.atp 256 15 0 48 rfl
  refine y_istore 5 c53_4 rfl rfl ?_
  refine y_aload 6 c53_5 rfl rfl rfl ?_
  refine y_iload 7 c53_6 rfl rfl ?_
  have tb297 := hT.atp 256 10 0 10 rfl
  refine y_callIB 10 [.ref 256, yI v] [] c53_7 rfl rfl rfl rfl rfl (ycanO km52 ko256) (t52_256 hT (by omega) (by omega)) (fun rq296 mq296 nq296 hq296 => ?_)
  obtain ⟨rfl, hTq296, hFq296, hq296⟩ := hq296
  have hF298 := hF.tr hFq296 wVa256_Pm
  refine y_pop 11 c53_10 rfl rfl ?_
  refine y_aload 12 c53_11 rfl rfl rfl ?_
  refine y_getX 15 (mq296 256 15) c53_12 rfl kf256_15 rfl ?_
  have tb299 := hTq296.atp 256 15 0 48 rfl
  refine y_iload 16 c53_15 rfl rfl ?_
  refine y_icmp 21 19 c53_16 rfl rfl (yc_ne (by omega) (by omega)) (fun hb300 => ?_) (fun hb300 => ?_)
  · refine y_aload 22 c53_21 rfl rfl rfl ?_
    refine y_getR 25 c53_22 rfl kf256_5 ?_
    refine y_aload 26 c53_25 rfl rfl rfl ?_
    refine y_getX 29 (m 256 10) c53_26 rfl kf256_10 (hFq296 256 10 rfl) ?_
    refine y_iconst 30 c53_29 rfl ?_
    refine y_isub 31 c53_30 rfl ?_
    refine y_aaload 32 c53_31 rfl kr262 (by omega) ?_
    have hk3 := hFq296 (266 + (m 256 10 - 1).toNat) 3 wVa256_no
    have hk2 := hFq296 (266 + (m 256 10 - 1).toNat) 2 wVa256_no
    have hj : (m 256 10 - 1).toNat < 10 := by omega
    refine y_dup 33 c53_32 rfl rfl ?_
    refine y_getT 36 0 2 c53_33 rfl (ff266_3 (by omega)) hTq296 (ft266_3 (by omega)) (fun v301 hv301 gv301 => ?_)
    refine y_iconst 37 c53_36 rfl ?_
    refine y_iadd 38 c53_37 rfl ?_
    refine y_putI 41 c53_38 rfl (ff266_3 (by omega)) (y_fit0 _) ?_
    have hT302 := hTq296.up (266 + ((m 256 10) - 1).toNat) 3 (v301 + 1) 0 2 (ft266_3 (by omega)) (by omega)
    have hF303 := hF298.up (266 + ((m 256 10) - 1).toNat) 3 (v301 + 1) (wPm256_m (by omega))
    refine y_iconst 42 c53_41 rfl ?_
    have es304 : (yup mq296 (266 + ((m 256 10) - 1).toNat) 3 (v301 + 1)) 256 15 = mq296 256 15 := (yup_na (by omega))
    refine y_retI c53_42 (y_fit1 (by omega)) ⟨rfl, hT302, hF303, Or.inr ⟨rfl, by omega, by rw [yup_eq]; omega, fun hM j hj => ?_⟩⟩
    have h0 := hM j hj
    have h3 := hFq296 (266 + j) 3 wVa256_no
    have h2 := hFq296 (266 + j) 2 wVa256_no
    by_cases e : j = (m 256 10 - 1).toNat
    · subst e
      rw [yup_nk (by decide), yup_eq]
      omega
    · rw [yup_nk (by decide), yup_na (by omega)]
      omega
  · refine y_iconst 20 c53_19 rfl ?_
    exact y_retI c53_20 (y_fit1 (by omega)) ⟨rfl, hTq296, hF298, Or.inl ⟨rfl, fun a q ha => hFq296 a q (by simp [wVa256]; omega)⟩⟩
set_option maxRecDepth 100000 in
theorem t51_316 {L : Nat} {xs : Nat → Int32} {d nn : Nat} {m : yM} {v : Int} (hT : Ty gT m) (hv : -2147483648 ≤ v ∧ v < 2147483648) (hc : 1 ≤ m 316 9) : YC (gZ L xs) (d + 1) 51 [.ref 316, yI v] m nn (qI (fun r m' n' => n' = nn ∧ Ty gT m' ∧ Fr wMe316 m m' ∧ ((r = 0 ∧ m' = m) ∨ (r = 1 ∧ m' 316 10 = m 316 10 + 1 ∧ m' 316 15 = m 316 15 + 2 ∧ m' (326 + (m 316 10).toNat) 2 = m 316 15 ∧ m' (326 + (m 316 10).toNat) 3 = 0 ∧ (MP 326 m → MP 326 m') ∧ ∀ j, m' (326 + j) 5 = m (326 + j) 5)))) := by
  refine YC.mkB [some (.ref 316), some (yI v), none, none] kn51 rfl rfl ?_
  have hF : Fr wMe316 m m := Fr.rf
  refine y_aload 1 c51_0 rfl rfl rfl ?_
  refine y_getX 4 (m 316 9) c51_1 rfl kf316_9 rfl ?_
  have tb305 := hT.atp 316 9 0 6 rfl
  refine y_iconst 5 c51_4 rfl ?_
  refine y_isub 6 c51_5 rfl ?_
  refine y_istore 7 c51_6 rfl rfl ?_
  refine y_aload 8 c51_7 rfl rfl rfl ?_
  refine y_getX 11 (m 316 10) c51_8 rfl kf316_10 rfl ?_
  have tb306 := hT.atp 316 10 0 10 rfl
  refine y_iconst 13 c51_11 rfl ?_
  refine y_icmp 37 16 c51_13 rfl rfl (yc_eq (by omega) (by omega)) (fun hb307 => ?_) (fun hb307 => ?_)
  · refine y_iconst 38 c51_37 rfl ?_
    exact y_retI c51_38 (y_fit1 (by omega)) ⟨rfl, hT, hF, Or.inl ⟨rfl, rfl⟩⟩
  · refine y_aload 17 c51_16 rfl rfl rfl ?_
    refine y_getX 20 (m 316 15) c51_17 rfl kf316_15 rfl ?_
    have tb308 := hT.atp 316 15 0 48 rfl
    refine y_iconst 21 c51_20 rfl ?_
    refine y_iadd 22 c51_21 rfl ?_
    refine y_iconst 24 c51_22 rfl ?_
    refine y_icmp 37 27 c51_24 rfl rfl (yc_gt (by omega) (by omega)) (fun hb309 => ?_) (fun hb309 => ?_)
    · refine y_iconst 38 c51_37 rfl ?_
      exact y_retI c51_38 (y_fit1 (by omega)) ⟨rfl, hT, hF, Or.inl ⟨rfl, rfl⟩⟩
    · refine y_aload 28 c51_27 rfl rfl rfl ?_
      refine y_iload 29 c51_28 rfl rfl ?_
      refine y_iload 30 c51_29 rfl rfl ?_
      refine y_callP 33 [.ref 316, yI ((m 316 9) - 1), yI v] [] c51_30 rfl rfl rfl rfl rfl (ycanO km50 ko316) (t50_316 hT (by omega) (by omega)) (fun r310 hr310 => ?_)
      refine y_iconst 34 c51_33 rfl ?_
      refine y_icmp 39 37 c51_34 rfl rfl (yc_eq (by omega) (by omega)) (fun hb311 => ?_) (fun hb311 => ?_)
      · refine y_aload 40 c51_39 rfl rfl rfl ?_
        refine y_getR 43 c51_40 rfl kf316_5 ?_
        refine y_aload 44 c51_43 rfl rfl rfl ?_
        refine y_getX 47 (m 316 10) c51_44 rfl kf316_10 rfl ?_
        refine y_aaload 48 c51_47 rfl kr322 (by omega) ?_
        refine y_astore 49 c51_48 rfl rfl rfl ?_
        refine y_aload 50 c51_49 rfl rfl rfl ?_
        refine y_iload 51 c51_50 rfl rfl ?_
        refine y_putI 54 c51_51 rfl (ff326_0 (by omega)) (y_fit0 _) ?_
        have hT312 := hT.up (326 + (m 316 10).toNat) 0 v ((-2147483648)) 2147483647 (ft326_0 (by omega)) (by omega)
        have hF313 := hF.up (326 + (m 316 10).toNat) 0 v (wMe316_326 (by omega))
        refine y_aload 55 c51_54 rfl rfl rfl ?_
        refine y_iload 56 c51_55 rfl rfl ?_
        refine y_putI 59 c51_56 rfl (ff326_1 (by omega)) (y_fit0 _) ?_
        have hT314 := hT312.up (326 + (m 316 10).toNat) 1 ((m 316 9) - 1) 0 5 (ft326_1 (by omega)) (by omega)
        have hF315 := hF313.up (326 + (m 316 10).toNat) 1 ((m 316 9) - 1) (wMe316_326 (by omega))
        refine y_aload 60 c51_59 rfl rfl rfl ?_
        refine y_aload 61 c51_60 rfl rfl rfl ?_
        refine y_getX 64 (m 316 15) c51_61 rfl kf316_15 ((yup_na (by omega)).trans (yup_na (by omega))) ?_
        refine y_putI 67 c51_64 rfl (ff326_2 (by omega)) (y_fit0 _) ?_
        have hT316 := hT314.up (326 + (m 316 10).toNat) 2 (m 316 15) 0 46 (ft326_2 (by omega)) (by omega)
        have hF317 := hF315.up (326 + (m 316 10).toNat) 2 (m 316 15) (wMe316_326 (by omega))
        refine y_aload 68 c51_67 rfl rfl rfl ?_
        refine y_iconst 69 c51_68 rfl ?_
        refine y_putI 72 c51_69 rfl (ff326_3 (by omega)) (y_fit0 _) ?_
        have hT318 := hT316.up (326 + (m 316 10).toNat) 3 0 0 2 (ft326_3 (by omega)) (by omega)
        have hF319 := hF317.up (326 + (m 316 10).toNat) 3 0 (wMe316_326 (by omega))
        refine y_aload 73 c51_72 rfl rfl rfl ?_
        refine y_dup 74 c51_73 rfl rfl ?_
        refine y_getX 77 (m 316 10) c51_74 rfl kf316_10 ((yup_na (by omega)).trans ((yup_na (by omega)).trans ((yup_na (by omega)).trans (yup_na (by omega))))) ?_
        refine y_iconst 78 c51_77 rfl ?_
        refine y_iadd 79 c51_78 rfl ?_
        refine y_putI 82 c51_79 rfl kf316_10 (y_fit0 _) ?_
        have hT320 := hT318.up 316 10 ((m 316 10) + 1) 0 10 rfl (by omega)
        have hF321 := hF319.up 316 10 ((m 316 10) + 1) rfl
        refine y_aload 83 c51_82 rfl rfl rfl ?_
        refine y_getR 86 c51_83 rfl kf316_4 ?_
        refine y_aload 87 c51_86 rfl rfl rfl ?_
        refine y_getX 90 (m 316 15) c51_87 rfl kf316_15 ((yup_nk (by decide)).trans ((yup_na (by omega)).trans ((yup_na (by omega)).trans ((yup_na (by omega)).trans (yup_na (by omega)))))) ?_
        refine y_iconst 91 c51_90 rfl ?_
        refine y_iastore 92 c51_91 rfl ka321 (by omega) (y_nar0 _) ?_
        have hT322 := hT320.up 321 ((m 316 15).toNat) 0 ((-2147483648)) 2147483647 rfl (by omega)
        have hF323 := hF321.up 321 ((m 316 15).toNat) 0 rfl
        refine y_aload 93 c51_92 rfl rfl rfl ?_
        refine y_getR 96 c51_93 rfl kf316_4 ?_
        refine y_aload 97 c51_96 rfl rfl rfl ?_
        refine y_getX 100 (m 316 15) c51_97 rfl kf316_15 ((yup_na (by decide)).trans ((yup_nk (by decide)).trans ((yup_na (by omega)).trans ((yup_na (by omega)).trans ((yup_na (by omega)).trans (yup_na (by omega))))))) ?_
        refine y_iconst 101 c51_100 rfl ?_
        refine y_iadd 102 c51_101 rfl ?_
        refine y_iconst 103 c51_102 rfl ?_
        refine y_iastore 104 c51_103 rfl ka321 (by omega) (y_nar0 _) ?_
        have hT324 := hT322.up 321 (((m 316 15) + 1).toNat) 0 ((-2147483648)) 2147483647 rfl (by omega)
        have hF325 := hF323.up 321 (((m 316 15) + 1).toNat) 0 rfl
        refine y_aload 105 c51_104 rfl rfl rfl ?_
        refine y_dup 106 c51_105 rfl rfl ?_
        refine y_getX 109 (m 316 15) c51_106 rfl kf316_15 ((yup_na (by decide)).trans ((yup_na (by decide)).trans ((yup_nk (by decide)).trans ((yup_na (by omega)).trans ((yup_na (by omega)).trans ((yup_na (by omega)).trans (yup_na (by omega)))))))) ?_
        refine y_iconst 110 c51_109 rfl ?_
        refine y_iadd 111 c51_110 rfl ?_
        refine y_putI 114 c51_111 rfl kf316_15 (y_fit0 _) ?_
        have hT326 := hT324.up 316 15 ((m 316 15) + 2) 0 48 rfl (by omega)
        have hF327 := hF325.up 316 15 ((m 316 15) + 2) rfl
        refine y_iconst 115 c51_114 rfl ?_
        have es328 : (yup (yup (yup (yup (yup (yup (yup (yup m (326 + (m 316 10).toNat) 0 v) (326 + (m 316 10).toNat) 1 ((m 316 9) - 1)) (326 + (m 316 10).toNat) 2 (m 316 15)) (326 + (m 316 10).toNat) 3 0) 316 10 ((m 316 10) + 1)) 321 ((m 316 15).toNat) 0) 321 (((m 316 15) + 1).toNat) 0) 316 15 ((m 316 15) + 2)) 316 10 = (m 316 10) + 1 := rfl
        have es329 : (yup (yup (yup (yup (yup (yup (yup (yup m (326 + (m 316 10).toNat) 0 v) (326 + (m 316 10).toNat) 1 ((m 316 9) - 1)) (326 + (m 316 10).toNat) 2 (m 316 15)) (326 + (m 316 10).toNat) 3 0) 316 10 ((m 316 10) + 1)) 321 ((m 316 15).toNat) 0) 321 (((m 316 15) + 1).toNat) 0) 316 15 ((m 316 15) + 2)) 316 15 = (m 316 15) + 2 := rfl
        refine y_retI c51_115 (y_fit1 (by omega)) ⟨rfl, hT326, hF327, Or.inr ⟨rfl, by omega, by omega, by repeat (first | rw [yup_eq] | rw [yup_na (by omega)] | rw [yup_nk (by omega)]), by repeat (first | rw [yup_eq] | rw [yup_na (by omega)] | rw [yup_nk (by omega)]), fun hM j hj => ?_, fun j => by repeat (first | rw [yup_eq] | rw [yup_na (by omega)] | rw [yup_nk (by omega)])⟩⟩
        have h0 := hM j hj
        by_cases e : j = (m 316 10).toNat
        · subst e
          have e2 : (yup (yup (yup (yup (yup (yup (yup (yup m (326 + (m 316 10).toNat) 0 v) (326 + (m 316 10).toNat) 1 ((m 316 9) - 1)) (326 + (m 316 10).toNat) 2 (m 316 15)) (326 + (m 316 10).toNat) 3 0) 316 10 ((m 316 10) + 1)) 321 ((m 316 15).toNat) 0) 321 (((m 316 15) + 1).toNat) 0) 316 15 ((m 316 15) + 2)) (326 + (m 316 10).toNat) 2 = m 316 15 := by repeat (first | rw [yup_eq] | rw [yup_na (by omega)] | rw [yup_nk (by omega)])
          have e3 : (yup (yup (yup (yup (yup (yup (yup (yup m (326 + (m 316 10).toNat) 0 v) (326 + (m 316 10).toNat) 1 ((m 316 9) - 1)) (326 + (m 316 10).toNat) 2 (m 316 15)) (326 + (m 316 10).toNat) 3 0) 316 10 ((m 316 10) + 1)) 321 ((m 316 15).toNat) 0) 321 (((m 316 15) + 1).toNat) 0) 316 15 ((m 316 15) + 2)) (326 + (m 316 10).toNat) 3 = 0 := by repeat (first | rw [yup_eq] | rw [yup_na (by omega)] | rw [yup_nk (by omega)])
          omega
        · have e2 : (yup (yup (yup (yup (yup (yup (yup (yup m (326 + (m 316 10).toNat) 0 v) (326 + (m 316 10).toNat) 1 ((m 316 9) - 1)) (326 + (m 316 10).toNat) 2 (m 316 15)) (326 + (m 316 10).toNat) 3 0) 316 10 ((m 316 10) + 1)) 321 ((m 316 15).toNat) 0) 321 (((m 316 15) + 1).toNat) 0) 316 15 ((m 316 15) + 2)) (326 + j) 2 = m (326 + j) 2 := by repeat (first | rw [yup_eq] | rw [yup_na (by omega)] | rw [yup_nk (by omega)])
          have e3 : (yup (yup (yup (yup (yup (yup (yup (yup m (326 + (m 316 10).toNat) 0 v) (326 + (m 316 10).toNat) 1 ((m 316 9) - 1)) (326 + (m 316 10).toNat) 2 (m 316 15)) (326 + (m 316 10).toNat) 3 0) 316 10 ((m 316 10) + 1)) 321 ((m 316 15).toNat) 0) 321 (((m 316 15) + 1).toNat) 0) 316 15 ((m 316 15) + 2)) (326 + j) 3 = m (326 + j) 3 := by repeat (first | rw [yup_eq] | rw [yup_na (by omega)] | rw [yup_nk (by omega)])
          omega
      · refine y_iconst 38 c51_37 rfl ?_
        exact y_retI c51_38 (y_fit1 (by omega)) ⟨rfl, hT, hF, Or.inl ⟨rfl, rfl⟩⟩
set_option maxRecDepth 100000 in
theorem t52a_316 {L : Nat} {xs : Nat → Int32} {d nn : Nat} {m : yM} {v : Int} (hT : Ty gT m) (hv : -2147483648 ≤ v ∧ v < 2147483648) (hm : 1 ≤ m 316 10) : ∀ (k : Nat) (i : Int), 48 - i = k → 0 ≤ i ∧ i ≤ 48 → YW (gZ L xs) 52 d 15 [some (.ref 316), some (yI v), some (yI i)] [] m nn (qI (fun r m' n' => n' = nn ∧ Ty gT m' ∧ Fr wVa316 m m' ∧ ((m' 316 15 = m 316 15 ∧ -1 ≤ r ∧ r < m 316 15) ∨ (m' 316 15 = m 316 15 + 1 ∧ r = m 316 15)))) := by
  intro k
  induction k using Nat.strongRecOn with
  | ind k ih =>
    intro i hk hi
    have hF : Fr wVa316 m m := Fr.rf
    refine y_iload 16 c52_15 rfl rfl ?_
    refine y_aload 17 c52_16 rfl rfl rfl ?_
    refine y_getX 20 (m 316 15) c52_17 rfl kf316_15 rfl ?_
    have tb330 := hT.atp 316 15 0 48 rfl
    refine y_icmp 41 23 c52_20 rfl rfl (yc_ge (by omega) (by omega)) (fun hb331 => ?_) (fun hb331 => ?_)
    · refine y_aload 42 c52_41 rfl rfl rfl ?_
      refine y_getX 45 (m 316 15) c52_42 rfl kf316_15 rfl ?_
      refine y_iconst 47 c52_45 rfl ?_
      refine y_icmp 52 50 c52_47 rfl rfl (yc_ne (by omega) (by omega)) (fun hb332 => ?_) (fun hb332 => ?_)
      · refine y_aload 53 c52_52 rfl rfl rfl ?_
        refine y_getR 56 c52_53 rfl kf316_4 ?_
        refine y_aload 57 c52_56 rfl rfl rfl ?_
        refine y_getX 60 (m 316 15) c52_57 rfl kf316_15 rfl ?_
        refine y_iload 61 c52_60 rfl rfl ?_
        refine y_iastore 62 c52_61 rfl ka321 (by omega) (y_nar0 _) ?_
        have hT333 := hT.up 321 ((m 316 15).toNat) v ((-2147483648)) 2147483647 rfl (by omega)
        have hF334 := hF.up 321 ((m 316 15).toNat) v rfl
        refine y_aload 63 c52_62 rfl rfl rfl ?_
        refine y_dup 64 c52_63 rfl rfl ?_
        refine y_getX 67 (m 316 15) c52_64 rfl kf316_15 rfl ?_
        refine y_iconst 68 c52_67 rfl ?_
        refine y_iadd 69 c52_68 rfl ?_
        refine y_putI 72 c52_69 rfl kf316_15 (y_fit0 _) ?_
        have hT335 := hT333.up 316 15 ((m 316 15) + 1) 0 48 rfl (by omega)
        have hF336 := hF334.up 316 15 ((m 316 15) + 1) rfl
        refine y_aload 73 c52_72 rfl rfl rfl ?_
        refine y_getX 76 ((m 316 15) + 1) c52_73 rfl kf316_15 rfl ?_
        refine y_iconst 77 c52_76 rfl ?_
        refine y_isub 78 c52_77 rfl ?_
        have es337 : (yup (yup m 321 ((m 316 15).toNat) v) 316 15 ((m 316 15) + 1)) 316 15 = (m 316 15) + 1 := rfl
        exact y_retI c52_78 (y_fit0 _) ⟨rfl, hT335, hF336, by omega⟩
      · refine y_iconst 51 c52_50 rfl ?_
        exact y_retI c52_51 (y_fit0 _) ⟨rfl, hT, hF, by omega⟩
    · refine y_aload 24 c52_23 rfl rfl rfl ?_
      refine y_getR 27 c52_24 rfl kf316_4 ?_
      refine y_iload 28 c52_27 rfl rfl ?_
      refine y_iaT 29 ((-2147483648)) 2147483647 c52_28 rfl ka321 (by omega) hT rfl (fun v338 hv338 gv338 => ?_)
      refine y_iload 30 c52_29 rfl rfl ?_
      refine y_icmp 35 33 c52_30 rfl rfl (yc_ne (by omega) (by omega)) (fun hb339 => ?_) (fun hb339 => ?_)
      · refine y_iinc 38 c52_35 rfl rfl rfl ?_
        refine y_goto 15 c52_38 rfl ?_
        exact ih (48 - (i + 1) : Int).toNat (by omega) (i + 1)   (by omega) (by omega)
      · refine y_iload 34 c52_33 rfl rfl ?_
        exact y_retI c52_34 (y_fit0 _) ⟨rfl, hT, hF, by omega⟩
set_option maxRecDepth 100000 in
theorem t52_316 {L : Nat} {xs : Nat → Int32} {d nn : Nat} {m : yM} {v : Int} (hT : Ty gT m) (hv : -2147483648 ≤ v ∧ v < 2147483648) (hm : 1 ≤ m 316 10) : YC (gZ L xs) d 52 [.ref 316, yI v] m nn (qI (fun r m' n' => n' = nn ∧ Ty gT m' ∧ Fr wVa316 m m' ∧ ((m' 316 15 = m 316 15 ∧ -1 ≤ r ∧ r < m 316 15) ∨ (m' 316 15 = m 316 15 + 1 ∧ r = m 316 15)))) := by
  refine YC.mkB [some (.ref 316), some (yI v), none] kn52 rfl rfl ?_
  refine y_aload 1 c52_0 rfl rfl rfl ?_
  refine y_getR 4 c52_1 rfl kf316_5 ?_
  refine y_aload 5 c52_4 rfl rfl rfl ?_
  refine y_getX 8 (m 316 10) c52_5 rfl kf316_10 rfl ?_
  have tb340 := hT.atp 316 10 0 10 rfl
  refine y_iconst 9 c52_8 rfl ?_
  refine y_isub 10 c52_9 rfl ?_
  refine y_aaload 11 c52_10 rfl kr322 (by omega) ?_
  refine y_getT 14 0 46 c52_11 rfl (ff326_2 (by omega)) hT (ft326_2 (by omega)) (fun v341 hv341 gv341 => ?_)
  refine y_istore 15 c52_14 rfl rfl ?_
  exact t52a_316 hT hv hm (48 - v341 : Int).toNat v341   (by omega) (by omega)
def wPm316 (a q : Nat) : Bool := (a == 316 && q == 15) || a == 321 || (decide (326 ≤ a ∧ a < 336) && q == 3)
theorem wPm316_m {k : Nat} (h : k < 10) : wPm316 (326 + k) 3 = true := by
  simp [wPm316]
  omega
theorem wPm316_P : ∀ a q, wPm316 a q = true → wPa316 a q = true := by
  intro a q h
  simp [wPm316] at h
  simp [wPa316]
  omega
theorem wVa316_Pm : ∀ a q, wVa316 a q = true → wPm316 a q = true := by
  intro a q h
  simp [wVa316] at h
  simp [wPm316]
  omega
theorem wVa316_no {k q : Nat} : wVa316 (326 + k) q = false := by
  simp [wVa316]
  omega
set_option maxRecDepth 100000 in
theorem t53_316 {L : Nat} {xs : Nat → Int32} {d nn : Nat} {m : yM} {v : Int} (hT : Ty gT m) (hv : -2147483648 ≤ v ∧ v < 2147483648) (hm : 1 ≤ m 316 10) (hp : m (326 + (m 316 10 - 1).toNat) 3 ≤ 1) (hr : m (326 + (m 316 10 - 1).toNat) 2 + 2 + m (326 + (m 316 10 - 1).toNat) 3 = m 316 15) : YC (gZ L xs) (d + 1) 53 [.ref 316, yI v] m nn (qI (fun r m' n' => n' = nn ∧ Ty gT m' ∧ Fr wPm316 m m' ∧ ((r = 0 ∧ ∀ a q, 322 ≤ a → m' a q = m a q) ∨ (r = 1 ∧ m' 316 15 = m 316 15 + 1 ∧ m' (326 + (m 316 10 - 1).toNat) 3 = m (326 + (m 316 10 - 1).toNat) 3 + 1 ∧ (MP 326 m → MP 326 m'))))) := by
  have tb10 := hT.atp 316 10 0 10 rfl
  refine YC.mkB [some (.ref 316), some (yI v), none] kn53 rfl rfl ?_
  have hF : Fr wPm316 m m := Fr.rf
  refine y_aload 1 c53_0 rfl rfl rfl ?_
  refine y_getX 4 (m 316 15) c53_1 rfl kf316_15 rfl ?_
  have tb342 := hT.atp 316 15 0 48 rfl
  refine y_istore 5 c53_4 rfl rfl ?_
  refine y_aload 6 c53_5 rfl rfl rfl ?_
  refine y_iload 7 c53_6 rfl rfl ?_
  have tb344 := hT.atp 316 10 0 10 rfl
  refine y_callIB 10 [.ref 316, yI v] [] c53_7 rfl rfl rfl rfl rfl (ycanO km52 ko316) (t52_316 hT (by omega) (by omega)) (fun rq343 mq343 nq343 hq343 => ?_)
  obtain ⟨rfl, hTq343, hFq343, hq343⟩ := hq343
  have hF345 := hF.tr hFq343 wVa316_Pm
  refine y_pop 11 c53_10 rfl rfl ?_
  refine y_aload 12 c53_11 rfl rfl rfl ?_
  refine y_getX 15 (mq343 316 15) c53_12 rfl kf316_15 rfl ?_
  have tb346 := hTq343.atp 316 15 0 48 rfl
  refine y_iload 16 c53_15 rfl rfl ?_
  refine y_icmp 21 19 c53_16 rfl rfl (yc_ne (by omega) (by omega)) (fun hb347 => ?_) (fun hb347 => ?_)
  · refine y_aload 22 c53_21 rfl rfl rfl ?_
    refine y_getR 25 c53_22 rfl kf316_5 ?_
    refine y_aload 26 c53_25 rfl rfl rfl ?_
    refine y_getX 29 (m 316 10) c53_26 rfl kf316_10 (hFq343 316 10 rfl) ?_
    refine y_iconst 30 c53_29 rfl ?_
    refine y_isub 31 c53_30 rfl ?_
    refine y_aaload 32 c53_31 rfl kr322 (by omega) ?_
    have hk3 := hFq343 (326 + (m 316 10 - 1).toNat) 3 wVa316_no
    have hk2 := hFq343 (326 + (m 316 10 - 1).toNat) 2 wVa316_no
    have hj : (m 316 10 - 1).toNat < 10 := by omega
    refine y_dup 33 c53_32 rfl rfl ?_
    refine y_getT 36 0 2 c53_33 rfl (ff326_3 (by omega)) hTq343 (ft326_3 (by omega)) (fun v348 hv348 gv348 => ?_)
    refine y_iconst 37 c53_36 rfl ?_
    refine y_iadd 38 c53_37 rfl ?_
    refine y_putI 41 c53_38 rfl (ff326_3 (by omega)) (y_fit0 _) ?_
    have hT349 := hTq343.up (326 + ((m 316 10) - 1).toNat) 3 (v348 + 1) 0 2 (ft326_3 (by omega)) (by omega)
    have hF350 := hF345.up (326 + ((m 316 10) - 1).toNat) 3 (v348 + 1) (wPm316_m (by omega))
    refine y_iconst 42 c53_41 rfl ?_
    have es351 : (yup mq343 (326 + ((m 316 10) - 1).toNat) 3 (v348 + 1)) 316 15 = mq343 316 15 := (yup_na (by omega))
    refine y_retI c53_42 (y_fit1 (by omega)) ⟨rfl, hT349, hF350, Or.inr ⟨rfl, by omega, by rw [yup_eq]; omega, fun hM j hj => ?_⟩⟩
    have h0 := hM j hj
    have h3 := hFq343 (326 + j) 3 wVa316_no
    have h2 := hFq343 (326 + j) 2 wVa316_no
    by_cases e : j = (m 316 10 - 1).toNat
    · subst e
      rw [yup_nk (by decide), yup_eq]
      omega
    · rw [yup_nk (by decide), yup_na (by omega)]
      omega
  · refine y_iconst 20 c53_19 rfl ?_
    exact y_retI c53_20 (y_fit1 (by omega)) ⟨rfl, hTq343, hF345, Or.inl ⟨rfl, fun a q ha => hFq343 a q (by simp [wVa316]; omega)⟩⟩
end
section
/-! CONTRACTS: printed by wip/whole/gen80.py and on -/
def wSt256 (k a q : Nat) : Bool := (a == 2 && (q == 2 || q == 3 || q == 4)) || (a == 256 && (decide (12 ≤ q) && decide (q ≤ 16))) || a == 261 || a == 265 || a == 276 + k
theorem wSt256_s {k j q : Nat} (h : j = k) : wSt256 k (276 + j) q = true := by
  simp [wSt256, h]
theorem wVa256_St {k : Nat} : ∀ a q, wVa256 a q = true → wSt256 k a q = true := by
  intro a q h
  simp [wVa256] at h
  simp [wSt256]
  omega
set_option maxRecDepth 100000 in
theorem t57_256 {L : Nat} {xs : Nat → Int32} {d nn : Nat} {m : yM} {k : Int} (hT : Ty gT m) (hk : 0 ≤ k ∧ k ≤ 9) : YC (gZ L xs) d 57 [.ref (266 + k.toNat)] m nn (qP m nn (fun r => r = m (266 + k.toNat) 2 + 1 ∧ 1 ≤ r ∧ r ≤ 47)) := by
  refine YC.mkB [some (.ref (266 + k.toNat))] kn57 rfl rfl ?_
  refine y_aload 1 c57_0 rfl rfl rfl ?_
  refine y_getT 4 0 46 c57_1 rfl (ff266_2 (by omega)) hT (ft266_2 (by omega)) (fun v352 hv352 gv352 => ?_)
  refine y_iconst 5 c57_4 rfl ?_
  refine y_iadd 6 c57_5 rfl ?_
  exact y_retP c57_6 (y_fit0 _) (by omega)
set_option maxRecDepth 100000 in
theorem t87_256 {L : Nat} {xs : Nat → Int32} {d nn : Nat} {m : yM} {k p : Int} (hT : Ty gT m) (hk : 0 ≤ k ∧ k ≤ 9) (hp : 0 ≤ p ∧ p ≤ 1) (hM : MP 266 m) : YC (gZ L xs) d 87 [.ref (266 + k.toNat), yI p] m nn (qP m nn (fun r => (p < m (266 + k.toNat) 3 ∧ 2 ≤ r ∧ r ≤ 47) ∨ (m (266 + k.toNat) 3 ≤ p ∧ r = -1))) := by
  have hMk := hM k.toNat (by omega)
  refine YC.mkB [some (.ref (266 + k.toNat)), some (yI p)] kn87 rfl rfl ?_
  refine y_iload 1 c87_0 rfl rfl ?_
  refine y_aload 2 c87_1 rfl rfl rfl ?_
  refine y_getT 5 0 2 c87_2 rfl (ff266_3 (by omega)) hT (ft266_3 (by omega)) (fun v353 hv353 gv353 => ?_)
  refine y_icmp 19 8 c87_5 rfl rfl (yc_ge (by omega) (by omega)) (fun hb354 => ?_) (fun hb354 => ?_)
  · refine y_iconst 20 c87_19 rfl ?_
    exact y_retP c87_20 (y_fit0 _) (by omega)
  · refine y_aload 9 c87_8 rfl rfl rfl ?_
    refine y_getT 12 0 46 c87_9 rfl (ff266_2 (by omega)) hT (ft266_2 (by omega)) (fun v355 hv355 gv355 => ?_)
    refine y_iconst 13 c87_12 rfl ?_
    refine y_iadd 14 c87_13 rfl ?_
    refine y_iload 15 c87_14 rfl rfl ?_
    refine y_iadd 16 c87_15 rfl ?_
    refine y_goto 20 c87_16 rfl ?_
    exact y_retP c87_20 (y_fit0 _) (by omega)
set_option maxRecDepth 100000 in
theorem t56_256 {L : Nat} {xs : Nat → Int32} {d nn : Nat} {m : yM} (hT : Ty gT m) (hm : 1 ≤ m 256 10) (hs : m 256 16 ≤ 39) : YC (gZ L xs) d 56 [.ref 256] m nn (qA (fun R m' n' => n' = nn ∧ R = 276 + (m 256 16).toNat ∧ m' = yup (yup (yup (yup m (276 + (m 256 16).toNat) 1 (m 256 10 - 1)) (276 + (m 256 16).toNat) 2 (-1)) (276 + (m 256 16).toNat) 8 0) 256 16 (m 256 16 + 1))) := by
  refine YC.mkB [some (.ref 256), none] kn56 rfl rfl ?_
  refine y_aload 1 c56_0 rfl rfl rfl ?_
  refine y_getR 4 c56_1 rfl kf256_6 ?_
  refine y_aload 5 c56_4 rfl rfl rfl ?_
  refine y_getX 8 (m 256 16) c56_5 rfl kf256_16 rfl ?_
  have tb356 := hT.atp 256 16 0 40 rfl
  refine y_aaload 9 c56_8 rfl kr263 (by omega) ?_
  refine y_astore 10 c56_9 rfl rfl rfl ?_
  refine y_aload 11 c56_10 rfl rfl rfl ?_
  refine y_aload 12 c56_11 rfl rfl rfl ?_
  refine y_getX 15 (m 256 10) c56_12 rfl kf256_10 rfl ?_
  have tb357 := hT.atp 256 10 0 10 rfl
  refine y_iconst 16 c56_15 rfl ?_
  refine y_isub 17 c56_16 rfl ?_
  refine y_putI 20 c56_17 rfl (ff276_1 (by omega)) (y_fit0 _) ?_
  have hT358 := hT.up (276 + (m 256 16).toNat) 1 ((m 256 10) - 1) 0 9 (ft276_1 (by omega)) (by omega)
  refine y_aload 21 c56_20 rfl rfl rfl ?_
  refine y_iconst 22 c56_21 rfl ?_
  refine y_putI 25 c56_22 rfl (ff276_2 (by omega)) (y_fit0 _) ?_
  have hT360 := hT358.up (276 + (m 256 16).toNat) 2 ((-1)) ((-1)) 47 (ft276_2 (by omega)) (by omega)
  refine y_aload 26 c56_25 rfl rfl rfl ?_
  refine y_iconst 27 c56_26 rfl ?_
  refine y_putI 30 c56_27 rfl (ff276_8 (by omega)) (y_fit0 _) ?_
  have hT362 := hT360.up (276 + (m 256 16).toNat) 8 0 0 2 (ft276_8 (by omega)) (by omega)
  refine y_aload 31 c56_30 rfl rfl rfl ?_
  refine y_dup 32 c56_31 rfl rfl ?_
  refine y_getX 35 (m 256 16) c56_32 rfl kf256_16 ((yup_na (by omega)).trans ((yup_na (by omega)).trans (yup_na (by omega)))) ?_
  refine y_iconst 36 c56_35 rfl ?_
  refine y_iadd 37 c56_36 rfl ?_
  refine y_putI 40 c56_37 rfl kf256_16 (y_fit0 _) ?_
  have hT364 := hT362.up 256 16 ((m 256 16) + 1) 0 40 rfl (by omega)
  refine y_aload 41 c56_40 rfl rfl rfl ?_
  exact y_retA c56_41 ⟨rfl, rfl, rfl⟩
set_option maxRecDepth 100000 in
theorem t61_256 {L : Nat} {xs : Nat → Int32} {d nn : Nat} {m : yM} {k : Int} (hT : Ty gT m) (hk : 0 ≤ k ∧ k ≤ 39) : YC (gZ L xs) d 61 [.ref 256, .ref (276 + k.toNat)] m nn (qI (fun r m' n' => n' = nn ∧ ((r = 0 ∧ m = m' ∧ True) ∨ (r = 1 ∧ m' = yup (yup (yup m (276 + k.toNat) 0 5) (276 + k.toNat) 6 (m 256 14)) 256 14 (m 256 14 + 1) ∧ m 256 14 < 12)))) := by
  refine YC.mkB [some (.ref 256), some (.ref (276 + k.toNat))] kn61 rfl rfl ?_
  refine y_aload 1 c61_0 rfl rfl rfl ?_
  refine y_getX 4 (m 256 14) c61_1 rfl kf256_14 rfl ?_
  have tb366 := hT.atp 256 14 0 12 rfl
  refine y_iconst 6 c61_4 rfl ?_
  refine y_icmp 11 9 c61_6 rfl rfl (yc_ne (by omega) (by omega)) (fun hb367 => ?_) (fun hb367 => ?_)
  · refine y_aload 12 c61_11 rfl rfl rfl ?_
    refine y_iconst 13 c61_12 rfl ?_
    refine y_putI 16 c61_13 rfl (ff276_0 (by omega)) (y_fit0 _) ?_
    have hT368 := hT.up (276 + k.toNat) 0 5 0 9 (ft276_0 (by omega)) (by omega)
    refine y_aload 17 c61_16 rfl rfl rfl ?_
    refine y_aload 18 c61_17 rfl rfl rfl ?_
    refine y_getX 21 (m 256 14) c61_18 rfl kf256_14 (yup_na (by omega)) ?_
    refine y_putI 24 c61_21 rfl (ff276_6 (by omega)) (y_fit0 _) ?_
    have hT370 := hT368.up (276 + k.toNat) 6 (m 256 14) ((-1)) 11 (ft276_6 (by omega)) (by omega)
    refine y_aload 25 c61_24 rfl rfl rfl ?_
    refine y_dup 26 c61_25 rfl rfl ?_
    refine y_getX 29 (m 256 14) c61_26 rfl kf256_14 ((yup_na (by omega)).trans (yup_na (by omega))) ?_
    refine y_iconst 30 c61_29 rfl ?_
    refine y_iadd 31 c61_30 rfl ?_
    refine y_putI 34 c61_31 rfl kf256_14 (y_fit0 _) ?_
    have hT372 := hT370.up 256 14 ((m 256 14) + 1) 0 12 rfl (by omega)
    refine y_iconst 35 c61_34 rfl ?_
    exact y_retI c61_35 (y_fit1 (by omega)) ⟨rfl, Or.inr ⟨rfl, rfl, by omega⟩⟩
  · refine y_iconst 10 c61_9 rfl ?_
    exact y_retI c61_10 (y_fit1 (by omega)) ⟨rfl, Or.inl ⟨rfl, rfl, trivial⟩⟩
set_option maxRecDepth 100000 in
theorem t65_256 {L : Nat} {xs : Nat → Int32} {d nn : Nat} {m : yM} {k : Int} (hT : Ty gT m) (hk : 0 ≤ k ∧ k ≤ 39) : YC (gZ L xs) d 65 [.ref 256, .ref (276 + k.toNat)] m nn (qI (fun r m' n' => n' = nn ∧ ((r = 0 ∧ m = m' ∧ True) ∨ (r = 1 ∧ m' = yup (yup (yup m (276 + k.toNat) 0 4) (276 + k.toNat) 6 (m 256 12)) 256 12 (m 256 12 + 1) ∧ m 256 12 < 12)))) := by
  refine YC.mkB [some (.ref 256), some (.ref (276 + k.toNat))] kn65 rfl rfl ?_
  refine y_aload 1 c65_0 rfl rfl rfl ?_
  refine y_getX 4 (m 256 12) c65_1 rfl kf256_12 rfl ?_
  have tb374 := hT.atp 256 12 0 12 rfl
  refine y_iconst 6 c65_4 rfl ?_
  refine y_icmp 11 9 c65_6 rfl rfl (yc_ne (by omega) (by omega)) (fun hb375 => ?_) (fun hb375 => ?_)
  · refine y_aload 12 c65_11 rfl rfl rfl ?_
    refine y_iconst 13 c65_12 rfl ?_
    refine y_putI 16 c65_13 rfl (ff276_0 (by omega)) (y_fit0 _) ?_
    have hT376 := hT.up (276 + k.toNat) 0 4 0 9 (ft276_0 (by omega)) (by omega)
    refine y_aload 17 c65_16 rfl rfl rfl ?_
    refine y_aload 18 c65_17 rfl rfl rfl ?_
    refine y_getX 21 (m 256 12) c65_18 rfl kf256_12 (yup_na (by omega)) ?_
    refine y_putI 24 c65_21 rfl (ff276_6 (by omega)) (y_fit0 _) ?_
    have hT378 := hT376.up (276 + k.toNat) 6 (m 256 12) ((-1)) 11 (ft276_6 (by omega)) (by omega)
    refine y_aload 25 c65_24 rfl rfl rfl ?_
    refine y_dup 26 c65_25 rfl rfl ?_
    refine y_getX 29 (m 256 12) c65_26 rfl kf256_12 ((yup_na (by omega)).trans (yup_na (by omega))) ?_
    refine y_iconst 30 c65_29 rfl ?_
    refine y_iadd 31 c65_30 rfl ?_
    refine y_putI 34 c65_31 rfl kf256_12 (y_fit0 _) ?_
    have hT380 := hT378.up 256 12 ((m 256 12) + 1) 0 12 rfl (by omega)
    refine y_iconst 35 c65_34 rfl ?_
    exact y_retI c65_35 (y_fit1 (by omega)) ⟨rfl, Or.inr ⟨rfl, rfl, by omega⟩⟩
  · refine y_iconst 10 c65_9 rfl ?_
    exact y_retI c65_10 (y_fit1 (by omega)) ⟨rfl, Or.inl ⟨rfl, rfl, trivial⟩⟩
set_option maxRecDepth 100000 in
theorem t63_256 {L : Nat} {xs : Nat → Int32} {d nn : Nat} {m : yM} {k : Int} (hT : Ty gT m) (hk : 0 ≤ k ∧ k ≤ 39) (hs : 1 ≤ m 256 16) : YC (gZ L xs) d 63 [.ref 256, .ref (276 + k.toNat)] m nn (qI (fun r m' n' => n' = nn ∧ ((r = 0 ∧ m = m' ∧ True) ∨ (r = 1 ∧ m' = yup (yup (yup m (276 + k.toNat) 0 7) 265 (m 256 13).toNat (m 256 16 - 1)) 256 13 (m 256 13 + 1) ∧ m 256 13 < 8)))) := by
  refine YC.mkB [some (.ref 256), some (.ref (276 + k.toNat))] kn63 rfl rfl ?_
  refine y_aload 1 c63_0 rfl rfl rfl ?_
  refine y_getX 4 (m 256 13) c63_1 rfl kf256_13 rfl ?_
  have tb382 := hT.atp 256 13 0 8 rfl
  refine y_iconst 6 c63_4 rfl ?_
  refine y_icmp 11 9 c63_6 rfl rfl (yc_ne (by omega) (by omega)) (fun hb383 => ?_) (fun hb383 => ?_)
  · refine y_aload 12 c63_11 rfl rfl rfl ?_
    refine y_iconst 14 c63_12 rfl ?_
    refine y_putI 17 c63_14 rfl (ff276_0 (by omega)) (y_fit0 _) ?_
    have hT384 := hT.up (276 + k.toNat) 0 7 0 9 (ft276_0 (by omega)) (by omega)
    refine y_aload 18 c63_17 rfl rfl rfl ?_
    refine y_getR 21 c63_18 rfl kf256_8 ?_
    refine y_aload 22 c63_21 rfl rfl rfl ?_
    refine y_getX 25 (m 256 13) c63_22 rfl kf256_13 (yup_na (by omega)) ?_
    refine y_aload 26 c63_25 rfl rfl rfl ?_
    refine y_getX 29 (m 256 16) c63_26 rfl kf256_16 (yup_na (by omega)) ?_
    have tb386 := hT.atp 256 16 0 40 rfl
    refine y_iconst 30 c63_29 rfl ?_
    refine y_isub 31 c63_30 rfl ?_
    refine y_iastore 32 c63_31 rfl ka265 (by omega) (y_nar0 _) ?_
    have hT387 := hT384.up 265 ((m 256 13).toNat) ((m 256 16) - 1) 0 39 rfl (by omega)
    refine y_aload 33 c63_32 rfl rfl rfl ?_
    refine y_dup 34 c63_33 rfl rfl ?_
    refine y_getX 37 (m 256 13) c63_34 rfl kf256_13 ((yup_na (by decide)).trans (yup_na (by omega))) ?_
    refine y_iconst 38 c63_37 rfl ?_
    refine y_iadd 39 c63_38 rfl ?_
    refine y_putI 42 c63_39 rfl kf256_13 (y_fit0 _) ?_
    have hT389 := hT387.up 256 13 ((m 256 13) + 1) 0 8 rfl (by omega)
    refine y_iconst 43 c63_42 rfl ?_
    exact y_retI c63_43 (y_fit1 (by omega)) ⟨rfl, Or.inr ⟨rfl, rfl, by omega⟩⟩
  · refine y_iconst 10 c63_9 rfl ?_
    exact y_retI c63_10 (y_fit1 (by omega)) ⟨rfl, Or.inl ⟨rfl, rfl, trivial⟩⟩
set_option maxRecDepth 100000 in
theorem t72a_256 {L : Nat} {xs : Nat → Int32} {d nn : Nat} {m : yM} {c v p : Int} (hT : Ty gT m) (hc : 0 ≤ c ∧ c ≤ 5) (hv : -2147483648 ≤ v ∧ v < 2147483648) (hp : 0 ≤ p ∧ p ≤ 2) : ∀ (k : Nat) (t : Int) (i : Int) (x6 : Option Value), 6 - i = k → -1 ≤ t ∧ t ≤ 5 → 0 ≤ i ∧ i ≤ 6 → YW (gZ L xs) 72 (d + 1) 6 [some (.ref 256), some (yI c), some (yI v), some (yI p), some (yI t), some (yI i), x6] [] m nn (qP m nn (fun r => -1 ≤ r ∧ r < m 256 10 ∧ (0 ≤ r → m (266 + r.toNat) 3 = p))) := by
  intro k
  induction k using Nat.strongRecOn with
  | ind k ih =>
    intro t i x6 hk ht hi
    have tb := hT.atp 256 10 0 10 rfl
    refine y_iload 8 c72_6 rfl rfl ?_
    refine y_iconst 10 c72_8 rfl ?_
    refine y_icmp 70 13 c72_10 rfl rfl (yc_ge (by omega) (by omega)) (fun hb391 => ?_) (fun hb391 => ?_)
    · refine y_iconst 71 c72_70 rfl ?_
      exact y_retP c72_71 (y_fit0 _) (⟨by omega, by omega, fun _ => by first | omega | (simp only [*] at *; omega)⟩)
    · refine y_iload 15 c72_13 rfl rfl ?_
      refine y_iconst 16 c72_15 rfl ?_
      refine y_icmp 70 19 c72_16 rfl rfl (yc_eq (by omega) (by omega)) (fun hb392 => ?_) (fun hb392 => ?_)
      · refine y_iconst 71 c72_70 rfl ?_
        exact y_retP c72_71 (y_fit0 _) (⟨by omega, by omega, fun _ => by first | omega | (simp only [*] at *; omega)⟩)
      · refine y_aload 20 c72_19 rfl rfl rfl ?_
        refine y_iload 22 c72_20 rfl rfl ?_
        refine y_iload 23 c72_22 rfl rfl ?_
        refine y_callP 26 [.ref 256, yI t, yI v] [] c72_23 rfl rfl rfl rfl rfl (ycanO km50 ko256) (t50_256 hT (by omega) (by omega)) (fun r393 hr393 => ?_)
        refine y_istore 28 c72_26 rfl rfl ?_
        refine y_iload 30 c72_28 rfl rfl ?_
        refine y_iconst 31 c72_30 rfl ?_
        refine y_icmp 55 34 c72_31 rfl rfl (yc_eq (by omega) (by omega)) (fun hb394 => ?_) (fun hb394 => ?_)
        · refine y_aload 56 c72_55 rfl rfl rfl ?_
          refine y_getR 59 c72_56 rfl kf256_1 ?_
          refine y_iload 61 c72_59 rfl rfl ?_
          refine y_iaT 62 ((-1)) 5 c72_61 rfl ka258 (by omega) hT rfl (fun v395 hv395 gv395 => ?_)
          refine y_istore 64 c72_62 rfl rfl ?_
          refine y_iinc 67 c72_64 rfl rfl rfl ?_
          refine y_goto 6 c72_67 rfl ?_
          exact ih (6 - (i + 1) : Int).toNat (by omega) v395 (i + 1) _   (by omega) (by omega) (by omega)
        · refine y_aload 35 c72_34 rfl rfl rfl ?_
          refine y_getR 38 c72_35 rfl kf256_5 ?_
          refine y_iload 40 c72_38 rfl rfl ?_
          refine y_aaload 41 c72_40 rfl kr262 (by omega) ?_
          refine y_getT 44 0 2 c72_41 rfl (ff266_3 (by omega)) hT (ft266_3 (by omega)) (fun v396 hv396 gv396 => ?_)
          refine y_iload 45 c72_44 rfl rfl ?_
          refine y_icmp 53 48 c72_45 rfl rfl (yc_ne (by omega) (by omega)) (fun hb397 => ?_) (fun hb397 => ?_)
          · refine y_iconst 54 c72_53 rfl ?_
            exact y_retP c72_54 (y_fit0 _) (⟨by omega, by omega, fun _ => by first | omega | (simp only [*] at *; omega)⟩)
          · refine y_iload 50 c72_48 rfl rfl ?_
            refine y_goto 54 c72_50 rfl ?_
            exact y_retP c72_54 (y_fit0 _) (⟨by omega, by omega, fun _ => by first | omega | (simp only [*] at *; omega)⟩)
set_option maxRecDepth 100000 in
theorem t72_256 {L : Nat} {xs : Nat → Int32} {d nn : Nat} {m : yM} {c v p : Int} (hT : Ty gT m) (hc : 0 ≤ c ∧ c ≤ 5) (hv : -2147483648 ≤ v ∧ v < 2147483648) (hp : 0 ≤ p ∧ p ≤ 2) : YC (gZ L xs) (d + 1) 72 [.ref 256, yI c, yI v, yI p] m nn (qP m nn (fun r => -1 ≤ r ∧ r < m 256 10 ∧ (0 ≤ r → m (266 + r.toNat) 3 = p))) := by
  refine YC.mkB [some (.ref 256), some (yI c), some (yI v), some (yI p), none, none, none] kn72 rfl rfl ?_
  refine y_iload 1 c72_0 rfl rfl ?_
  refine y_istore 3 c72_1 rfl rfl ?_
  refine y_iconst 4 c72_3 rfl ?_
  refine y_istore 6 c72_4 rfl rfl ?_
  exact t72a_256 hT hc hv hp (6 - 0 : Int).toNat c 0 _   (by omega) (by omega) (by omega)
def wSt316 (k a q : Nat) : Bool := (a == 2 && (q == 2 || q == 3 || q == 4)) || (a == 316 && (decide (12 ≤ q) && decide (q ≤ 16))) || a == 321 || a == 325 || a == 336 + k
theorem wSt316_s {k j q : Nat} (h : j = k) : wSt316 k (336 + j) q = true := by
  simp [wSt316, h]
theorem wVa316_St {k : Nat} : ∀ a q, wVa316 a q = true → wSt316 k a q = true := by
  intro a q h
  simp [wVa316] at h
  simp [wSt316]
  omega
set_option maxRecDepth 100000 in
theorem t57_316 {L : Nat} {xs : Nat → Int32} {d nn : Nat} {m : yM} {k : Int} (hT : Ty gT m) (hk : 0 ≤ k ∧ k ≤ 9) : YC (gZ L xs) d 57 [.ref (326 + k.toNat)] m nn (qP m nn (fun r => r = m (326 + k.toNat) 2 + 1 ∧ 1 ≤ r ∧ r ≤ 47)) := by
  refine YC.mkB [some (.ref (326 + k.toNat))] kn57 rfl rfl ?_
  refine y_aload 1 c57_0 rfl rfl rfl ?_
  refine y_getT 4 0 46 c57_1 rfl (ff326_2 (by omega)) hT (ft326_2 (by omega)) (fun v398 hv398 gv398 => ?_)
  refine y_iconst 5 c57_4 rfl ?_
  refine y_iadd 6 c57_5 rfl ?_
  exact y_retP c57_6 (y_fit0 _) (by omega)
set_option maxRecDepth 100000 in
theorem t87_316 {L : Nat} {xs : Nat → Int32} {d nn : Nat} {m : yM} {k p : Int} (hT : Ty gT m) (hk : 0 ≤ k ∧ k ≤ 9) (hp : 0 ≤ p ∧ p ≤ 1) (hM : MP 326 m) : YC (gZ L xs) d 87 [.ref (326 + k.toNat), yI p] m nn (qP m nn (fun r => (p < m (326 + k.toNat) 3 ∧ 2 ≤ r ∧ r ≤ 47) ∨ (m (326 + k.toNat) 3 ≤ p ∧ r = -1))) := by
  have hMk := hM k.toNat (by omega)
  refine YC.mkB [some (.ref (326 + k.toNat)), some (yI p)] kn87 rfl rfl ?_
  refine y_iload 1 c87_0 rfl rfl ?_
  refine y_aload 2 c87_1 rfl rfl rfl ?_
  refine y_getT 5 0 2 c87_2 rfl (ff326_3 (by omega)) hT (ft326_3 (by omega)) (fun v399 hv399 gv399 => ?_)
  refine y_icmp 19 8 c87_5 rfl rfl (yc_ge (by omega) (by omega)) (fun hb400 => ?_) (fun hb400 => ?_)
  · refine y_iconst 20 c87_19 rfl ?_
    exact y_retP c87_20 (y_fit0 _) (by omega)
  · refine y_aload 9 c87_8 rfl rfl rfl ?_
    refine y_getT 12 0 46 c87_9 rfl (ff326_2 (by omega)) hT (ft326_2 (by omega)) (fun v401 hv401 gv401 => ?_)
    refine y_iconst 13 c87_12 rfl ?_
    refine y_iadd 14 c87_13 rfl ?_
    refine y_iload 15 c87_14 rfl rfl ?_
    refine y_iadd 16 c87_15 rfl ?_
    refine y_goto 20 c87_16 rfl ?_
    exact y_retP c87_20 (y_fit0 _) (by omega)
set_option maxRecDepth 100000 in
theorem t56_316 {L : Nat} {xs : Nat → Int32} {d nn : Nat} {m : yM} (hT : Ty gT m) (hm : 1 ≤ m 316 10) (hs : m 316 16 ≤ 39) : YC (gZ L xs) d 56 [.ref 316] m nn (qA (fun R m' n' => n' = nn ∧ R = 336 + (m 316 16).toNat ∧ m' = yup (yup (yup (yup m (336 + (m 316 16).toNat) 1 (m 316 10 - 1)) (336 + (m 316 16).toNat) 2 (-1)) (336 + (m 316 16).toNat) 8 0) 316 16 (m 316 16 + 1))) := by
  refine YC.mkB [some (.ref 316), none] kn56 rfl rfl ?_
  refine y_aload 1 c56_0 rfl rfl rfl ?_
  refine y_getR 4 c56_1 rfl kf316_6 ?_
  refine y_aload 5 c56_4 rfl rfl rfl ?_
  refine y_getX 8 (m 316 16) c56_5 rfl kf316_16 rfl ?_
  have tb402 := hT.atp 316 16 0 40 rfl
  refine y_aaload 9 c56_8 rfl kr323 (by omega) ?_
  refine y_astore 10 c56_9 rfl rfl rfl ?_
  refine y_aload 11 c56_10 rfl rfl rfl ?_
  refine y_aload 12 c56_11 rfl rfl rfl ?_
  refine y_getX 15 (m 316 10) c56_12 rfl kf316_10 rfl ?_
  have tb403 := hT.atp 316 10 0 10 rfl
  refine y_iconst 16 c56_15 rfl ?_
  refine y_isub 17 c56_16 rfl ?_
  refine y_putI 20 c56_17 rfl (ff336_1 (by omega)) (y_fit0 _) ?_
  have hT404 := hT.up (336 + (m 316 16).toNat) 1 ((m 316 10) - 1) 0 9 (ft336_1 (by omega)) (by omega)
  refine y_aload 21 c56_20 rfl rfl rfl ?_
  refine y_iconst 22 c56_21 rfl ?_
  refine y_putI 25 c56_22 rfl (ff336_2 (by omega)) (y_fit0 _) ?_
  have hT406 := hT404.up (336 + (m 316 16).toNat) 2 ((-1)) ((-1)) 47 (ft336_2 (by omega)) (by omega)
  refine y_aload 26 c56_25 rfl rfl rfl ?_
  refine y_iconst 27 c56_26 rfl ?_
  refine y_putI 30 c56_27 rfl (ff336_8 (by omega)) (y_fit0 _) ?_
  have hT408 := hT406.up (336 + (m 316 16).toNat) 8 0 0 2 (ft336_8 (by omega)) (by omega)
  refine y_aload 31 c56_30 rfl rfl rfl ?_
  refine y_dup 32 c56_31 rfl rfl ?_
  refine y_getX 35 (m 316 16) c56_32 rfl kf316_16 ((yup_na (by omega)).trans ((yup_na (by omega)).trans (yup_na (by omega)))) ?_
  refine y_iconst 36 c56_35 rfl ?_
  refine y_iadd 37 c56_36 rfl ?_
  refine y_putI 40 c56_37 rfl kf316_16 (y_fit0 _) ?_
  have hT410 := hT408.up 316 16 ((m 316 16) + 1) 0 40 rfl (by omega)
  refine y_aload 41 c56_40 rfl rfl rfl ?_
  exact y_retA c56_41 ⟨rfl, rfl, rfl⟩
set_option maxRecDepth 100000 in
theorem t61_316 {L : Nat} {xs : Nat → Int32} {d nn : Nat} {m : yM} {k : Int} (hT : Ty gT m) (hk : 0 ≤ k ∧ k ≤ 39) : YC (gZ L xs) d 61 [.ref 316, .ref (336 + k.toNat)] m nn (qI (fun r m' n' => n' = nn ∧ ((r = 0 ∧ m = m' ∧ True) ∨ (r = 1 ∧ m' = yup (yup (yup m (336 + k.toNat) 0 5) (336 + k.toNat) 6 (m 316 14)) 316 14 (m 316 14 + 1) ∧ m 316 14 < 12)))) := by
  refine YC.mkB [some (.ref 316), some (.ref (336 + k.toNat))] kn61 rfl rfl ?_
  refine y_aload 1 c61_0 rfl rfl rfl ?_
  refine y_getX 4 (m 316 14) c61_1 rfl kf316_14 rfl ?_
  have tb412 := hT.atp 316 14 0 12 rfl
  refine y_iconst 6 c61_4 rfl ?_
  refine y_icmp 11 9 c61_6 rfl rfl (yc_ne (by omega) (by omega)) (fun hb413 => ?_) (fun hb413 => ?_)
  · refine y_aload 12 c61_11 rfl rfl rfl ?_
    refine y_iconst 13 c61_12 rfl ?_
    refine y_putI 16 c61_13 rfl (ff336_0 (by omega)) (y_fit0 _) ?_
    have hT414 := hT.up (336 + k.toNat) 0 5 0 9 (ft336_0 (by omega)) (by omega)
    refine y_aload 17 c61_16 rfl rfl rfl ?_
    refine y_aload 18 c61_17 rfl rfl rfl ?_
    refine y_getX 21 (m 316 14) c61_18 rfl kf316_14 (yup_na (by omega)) ?_
    refine y_putI 24 c61_21 rfl (ff336_6 (by omega)) (y_fit0 _) ?_
    have hT416 := hT414.up (336 + k.toNat) 6 (m 316 14) ((-1)) 11 (ft336_6 (by omega)) (by omega)
    refine y_aload 25 c61_24 rfl rfl rfl ?_
    refine y_dup 26 c61_25 rfl rfl ?_
    refine y_getX 29 (m 316 14) c61_26 rfl kf316_14 ((yup_na (by omega)).trans (yup_na (by omega))) ?_
    refine y_iconst 30 c61_29 rfl ?_
    refine y_iadd 31 c61_30 rfl ?_
    refine y_putI 34 c61_31 rfl kf316_14 (y_fit0 _) ?_
    have hT418 := hT416.up 316 14 ((m 316 14) + 1) 0 12 rfl (by omega)
    refine y_iconst 35 c61_34 rfl ?_
    exact y_retI c61_35 (y_fit1 (by omega)) ⟨rfl, Or.inr ⟨rfl, rfl, by omega⟩⟩
  · refine y_iconst 10 c61_9 rfl ?_
    exact y_retI c61_10 (y_fit1 (by omega)) ⟨rfl, Or.inl ⟨rfl, rfl, trivial⟩⟩
set_option maxRecDepth 100000 in
theorem t65_316 {L : Nat} {xs : Nat → Int32} {d nn : Nat} {m : yM} {k : Int} (hT : Ty gT m) (hk : 0 ≤ k ∧ k ≤ 39) : YC (gZ L xs) d 65 [.ref 316, .ref (336 + k.toNat)] m nn (qI (fun r m' n' => n' = nn ∧ ((r = 0 ∧ m = m' ∧ True) ∨ (r = 1 ∧ m' = yup (yup (yup m (336 + k.toNat) 0 4) (336 + k.toNat) 6 (m 316 12)) 316 12 (m 316 12 + 1) ∧ m 316 12 < 12)))) := by
  refine YC.mkB [some (.ref 316), some (.ref (336 + k.toNat))] kn65 rfl rfl ?_
  refine y_aload 1 c65_0 rfl rfl rfl ?_
  refine y_getX 4 (m 316 12) c65_1 rfl kf316_12 rfl ?_
  have tb420 := hT.atp 316 12 0 12 rfl
  refine y_iconst 6 c65_4 rfl ?_
  refine y_icmp 11 9 c65_6 rfl rfl (yc_ne (by omega) (by omega)) (fun hb421 => ?_) (fun hb421 => ?_)
  · refine y_aload 12 c65_11 rfl rfl rfl ?_
    refine y_iconst 13 c65_12 rfl ?_
    refine y_putI 16 c65_13 rfl (ff336_0 (by omega)) (y_fit0 _) ?_
    have hT422 := hT.up (336 + k.toNat) 0 4 0 9 (ft336_0 (by omega)) (by omega)
    refine y_aload 17 c65_16 rfl rfl rfl ?_
    refine y_aload 18 c65_17 rfl rfl rfl ?_
    refine y_getX 21 (m 316 12) c65_18 rfl kf316_12 (yup_na (by omega)) ?_
    refine y_putI 24 c65_21 rfl (ff336_6 (by omega)) (y_fit0 _) ?_
    have hT424 := hT422.up (336 + k.toNat) 6 (m 316 12) ((-1)) 11 (ft336_6 (by omega)) (by omega)
    refine y_aload 25 c65_24 rfl rfl rfl ?_
    refine y_dup 26 c65_25 rfl rfl ?_
    refine y_getX 29 (m 316 12) c65_26 rfl kf316_12 ((yup_na (by omega)).trans (yup_na (by omega))) ?_
    refine y_iconst 30 c65_29 rfl ?_
    refine y_iadd 31 c65_30 rfl ?_
    refine y_putI 34 c65_31 rfl kf316_12 (y_fit0 _) ?_
    have hT426 := hT424.up 316 12 ((m 316 12) + 1) 0 12 rfl (by omega)
    refine y_iconst 35 c65_34 rfl ?_
    exact y_retI c65_35 (y_fit1 (by omega)) ⟨rfl, Or.inr ⟨rfl, rfl, by omega⟩⟩
  · refine y_iconst 10 c65_9 rfl ?_
    exact y_retI c65_10 (y_fit1 (by omega)) ⟨rfl, Or.inl ⟨rfl, rfl, trivial⟩⟩
set_option maxRecDepth 100000 in
theorem t63_316 {L : Nat} {xs : Nat → Int32} {d nn : Nat} {m : yM} {k : Int} (hT : Ty gT m) (hk : 0 ≤ k ∧ k ≤ 39) (hs : 1 ≤ m 316 16) : YC (gZ L xs) d 63 [.ref 316, .ref (336 + k.toNat)] m nn (qI (fun r m' n' => n' = nn ∧ ((r = 0 ∧ m = m' ∧ True) ∨ (r = 1 ∧ m' = yup (yup (yup m (336 + k.toNat) 0 7) 325 (m 316 13).toNat (m 316 16 - 1)) 316 13 (m 316 13 + 1) ∧ m 316 13 < 8)))) := by
  refine YC.mkB [some (.ref 316), some (.ref (336 + k.toNat))] kn63 rfl rfl ?_
  refine y_aload 1 c63_0 rfl rfl rfl ?_
  refine y_getX 4 (m 316 13) c63_1 rfl kf316_13 rfl ?_
  have tb428 := hT.atp 316 13 0 8 rfl
  refine y_iconst 6 c63_4 rfl ?_
  refine y_icmp 11 9 c63_6 rfl rfl (yc_ne (by omega) (by omega)) (fun hb429 => ?_) (fun hb429 => ?_)
  · refine y_aload 12 c63_11 rfl rfl rfl ?_
    refine y_iconst 14 c63_12 rfl ?_
    refine y_putI 17 c63_14 rfl (ff336_0 (by omega)) (y_fit0 _) ?_
    have hT430 := hT.up (336 + k.toNat) 0 7 0 9 (ft336_0 (by omega)) (by omega)
    refine y_aload 18 c63_17 rfl rfl rfl ?_
    refine y_getR 21 c63_18 rfl kf316_8 ?_
    refine y_aload 22 c63_21 rfl rfl rfl ?_
    refine y_getX 25 (m 316 13) c63_22 rfl kf316_13 (yup_na (by omega)) ?_
    refine y_aload 26 c63_25 rfl rfl rfl ?_
    refine y_getX 29 (m 316 16) c63_26 rfl kf316_16 (yup_na (by omega)) ?_
    have tb432 := hT.atp 316 16 0 40 rfl
    refine y_iconst 30 c63_29 rfl ?_
    refine y_isub 31 c63_30 rfl ?_
    refine y_iastore 32 c63_31 rfl ka325 (by omega) (y_nar0 _) ?_
    have hT433 := hT430.up 325 ((m 316 13).toNat) ((m 316 16) - 1) 0 39 rfl (by omega)
    refine y_aload 33 c63_32 rfl rfl rfl ?_
    refine y_dup 34 c63_33 rfl rfl ?_
    refine y_getX 37 (m 316 13) c63_34 rfl kf316_13 ((yup_na (by decide)).trans (yup_na (by omega))) ?_
    refine y_iconst 38 c63_37 rfl ?_
    refine y_iadd 39 c63_38 rfl ?_
    refine y_putI 42 c63_39 rfl kf316_13 (y_fit0 _) ?_
    have hT435 := hT433.up 316 13 ((m 316 13) + 1) 0 8 rfl (by omega)
    refine y_iconst 43 c63_42 rfl ?_
    exact y_retI c63_43 (y_fit1 (by omega)) ⟨rfl, Or.inr ⟨rfl, rfl, by omega⟩⟩
  · refine y_iconst 10 c63_9 rfl ?_
    exact y_retI c63_10 (y_fit1 (by omega)) ⟨rfl, Or.inl ⟨rfl, rfl, trivial⟩⟩
set_option maxRecDepth 100000 in
theorem t72a_316 {L : Nat} {xs : Nat → Int32} {d nn : Nat} {m : yM} {c v p : Int} (hT : Ty gT m) (hc : 0 ≤ c ∧ c ≤ 5) (hv : -2147483648 ≤ v ∧ v < 2147483648) (hp : 0 ≤ p ∧ p ≤ 2) : ∀ (k : Nat) (t : Int) (i : Int) (x6 : Option Value), 6 - i = k → -1 ≤ t ∧ t ≤ 5 → 0 ≤ i ∧ i ≤ 6 → YW (gZ L xs) 72 (d + 1) 6 [some (.ref 316), some (yI c), some (yI v), some (yI p), some (yI t), some (yI i), x6] [] m nn (qP m nn (fun r => -1 ≤ r ∧ r < m 316 10 ∧ (0 ≤ r → m (326 + r.toNat) 3 = p))) := by
  intro k
  induction k using Nat.strongRecOn with
  | ind k ih =>
    intro t i x6 hk ht hi
    have tb := hT.atp 316 10 0 10 rfl
    refine y_iload 8 c72_6 rfl rfl ?_
    refine y_iconst 10 c72_8 rfl ?_
    refine y_icmp 70 13 c72_10 rfl rfl (yc_ge (by omega) (by omega)) (fun hb437 => ?_) (fun hb437 => ?_)
    · refine y_iconst 71 c72_70 rfl ?_
      exact y_retP c72_71 (y_fit0 _) (⟨by omega, by omega, fun _ => by first | omega | (simp only [*] at *; omega)⟩)
    · refine y_iload 15 c72_13 rfl rfl ?_
      refine y_iconst 16 c72_15 rfl ?_
      refine y_icmp 70 19 c72_16 rfl rfl (yc_eq (by omega) (by omega)) (fun hb438 => ?_) (fun hb438 => ?_)
      · refine y_iconst 71 c72_70 rfl ?_
        exact y_retP c72_71 (y_fit0 _) (⟨by omega, by omega, fun _ => by first | omega | (simp only [*] at *; omega)⟩)
      · refine y_aload 20 c72_19 rfl rfl rfl ?_
        refine y_iload 22 c72_20 rfl rfl ?_
        refine y_iload 23 c72_22 rfl rfl ?_
        refine y_callP 26 [.ref 316, yI t, yI v] [] c72_23 rfl rfl rfl rfl rfl (ycanO km50 ko316) (t50_316 hT (by omega) (by omega)) (fun r439 hr439 => ?_)
        refine y_istore 28 c72_26 rfl rfl ?_
        refine y_iload 30 c72_28 rfl rfl ?_
        refine y_iconst 31 c72_30 rfl ?_
        refine y_icmp 55 34 c72_31 rfl rfl (yc_eq (by omega) (by omega)) (fun hb440 => ?_) (fun hb440 => ?_)
        · refine y_aload 56 c72_55 rfl rfl rfl ?_
          refine y_getR 59 c72_56 rfl kf316_1 ?_
          refine y_iload 61 c72_59 rfl rfl ?_
          refine y_iaT 62 ((-1)) 5 c72_61 rfl ka318 (by omega) hT rfl (fun v441 hv441 gv441 => ?_)
          refine y_istore 64 c72_62 rfl rfl ?_
          refine y_iinc 67 c72_64 rfl rfl rfl ?_
          refine y_goto 6 c72_67 rfl ?_
          exact ih (6 - (i + 1) : Int).toNat (by omega) v441 (i + 1) _   (by omega) (by omega) (by omega)
        · refine y_aload 35 c72_34 rfl rfl rfl ?_
          refine y_getR 38 c72_35 rfl kf316_5 ?_
          refine y_iload 40 c72_38 rfl rfl ?_
          refine y_aaload 41 c72_40 rfl kr322 (by omega) ?_
          refine y_getT 44 0 2 c72_41 rfl (ff326_3 (by omega)) hT (ft326_3 (by omega)) (fun v442 hv442 gv442 => ?_)
          refine y_iload 45 c72_44 rfl rfl ?_
          refine y_icmp 53 48 c72_45 rfl rfl (yc_ne (by omega) (by omega)) (fun hb443 => ?_) (fun hb443 => ?_)
          · refine y_iconst 54 c72_53 rfl ?_
            exact y_retP c72_54 (y_fit0 _) (⟨by omega, by omega, fun _ => by first | omega | (simp only [*] at *; omega)⟩)
          · refine y_iload 50 c72_48 rfl rfl ?_
            refine y_goto 54 c72_50 rfl ?_
            exact y_retP c72_54 (y_fit0 _) (⟨by omega, by omega, fun _ => by first | omega | (simp only [*] at *; omega)⟩)
set_option maxRecDepth 100000 in
theorem t72_316 {L : Nat} {xs : Nat → Int32} {d nn : Nat} {m : yM} {c v p : Int} (hT : Ty gT m) (hc : 0 ≤ c ∧ c ≤ 5) (hv : -2147483648 ≤ v ∧ v < 2147483648) (hp : 0 ≤ p ∧ p ≤ 2) : YC (gZ L xs) (d + 1) 72 [.ref 316, yI c, yI v, yI p] m nn (qP m nn (fun r => -1 ≤ r ∧ r < m 316 10 ∧ (0 ≤ r → m (326 + r.toNat) 3 = p))) := by
  refine YC.mkB [some (.ref 316), some (yI c), some (yI v), some (yI p), none, none, none] kn72 rfl rfl ?_
  refine y_iload 1 c72_0 rfl rfl ?_
  refine y_istore 3 c72_1 rfl rfl ?_
  refine y_iconst 4 c72_3 rfl ?_
  refine y_istore 6 c72_4 rfl rfl ?_
  exact t72a_316 hT hc hv hp (6 - 0 : Int).toNat c 0 _   (by omega) (by omega) (by omega)
set_option maxRecDepth 100000 in
theorem t38 {L : Nat} {xs : Nat → Int32} {d nn : Nat} {m : yM} {e : Int} (hT : Ty gT m) (he : 0 ≤ e ∧ e ≤ 320) (hE : m 5 e.toNat = 0) (ha : m 2 2 ≤ e) : YC (gZ L xs) d 38 [.ref 2] m nn (qP m nn (fun r => (-2147483648 ≤ r ∧ r < 2147483648) ∧ (r ≠ 0 → m 2 2 < e))) := by
  refine YC.mkB [some (.ref 2)] kn38 rfl rfl ?_
  refine y_aload 1 c38_0 rfl rfl rfl ?_
  refine y_getR 4 c38_1 rfl kf2_0 ?_
  refine y_getR 7 c38_4 rfl kf3_1 ?_
  refine y_aload 8 c38_7 rfl rfl rfl ?_
  refine y_getX 11 (m 2 2) c38_8 rfl kf2_2 rfl ?_
  have tb444 := hT.atp 2 2 0 320 rfl
  refine y_iaT 12 ((-2147483648)) 2147483647 c38_11 rfl ka5 (by omega) hT rfl (fun v445 hv445 gv445 => ?_)
  refine y_retP c38_12 (y_fit0 _) ⟨by omega, fun h0 => ?_⟩
  by_cases q : m 2 2 = e
  · exfalso; rw [q] at hv445; omega
  · omega
set_option maxRecDepth 100000 in
theorem t39 {L : Nat} {xs : Nat → Int32} {d nn : Nat} {m : yM} (hT : Ty gT m) : YC (gZ L xs) d 39 [.ref 2] m nn (qP m nn (fun r => -2147483648 ≤ r ∧ r < 2147483648)) := by
  refine YC.mkB [some (.ref 2)] kn39 rfl rfl ?_
  refine y_aload 1 c39_0 rfl rfl rfl ?_
  refine y_getR 4 c39_1 rfl kf2_0 ?_
  refine y_getR 7 c39_4 rfl kf3_3 ?_
  refine y_aload 8 c39_7 rfl rfl rfl ?_
  refine y_getX 11 (m 2 2) c39_8 rfl kf2_2 rfl ?_
  have tb446 := hT.atp 2 2 0 320 rfl
  refine y_iaT 12 ((-2147483648)) 2147483647 c39_11 rfl ka7 (by omega) hT rfl (fun v447 hv447 gv447 => ?_)
  exact y_retP c39_12 (y_fit0 _) (by omega)
def wFa (a q : Nat) : Bool := a == 2 && q == 4
set_option maxRecDepth 100000 in
theorem t43 {L : Nat} {xs : Nat → Int32} {d nn : Nat} {m : yM} (hT : Ty gT m) : YC (gZ L xs) d 43 [.ref 2] m nn (qI (fun r m' n' => n' = nn ∧ Ty gT m' ∧ Fr wFa m m' ∧ r = 0 ∧ m' 2 2 = m 2 2)) := by
  refine YC.mkB [some (.ref 2)] kn43 rfl rfl ?_
  have hF : Fr wFa m m := Fr.rf
  refine y_aload 1 c43_0 rfl rfl rfl ?_
  refine y_aload 2 c43_1 rfl rfl rfl ?_
  refine y_getR 5 c43_2 rfl kf2_0 ?_
  refine y_getR 8 c43_5 rfl kf3_2 ?_
  refine y_aload 9 c43_8 rfl rfl rfl ?_
  refine y_getX 12 (m 2 2) c43_9 rfl kf2_2 rfl ?_
  have tb448 := hT.atp 2 2 0 320 rfl
  refine y_iaT 13 0 320 c43_12 rfl ka6 (by omega) hT rfl (fun v449 hv449 gv449 => ?_)
  refine y_putI 16 c43_13 rfl kf2_4 (y_fit0 _) ?_
  have hT450 := hT.up 2 4 v449 0 320 rfl (by omega)
  have hF451 := hF.up 2 4 v449 rfl
  refine y_iconst 17 c43_16 rfl ?_
  exact y_retI c43_17 (y_fit1 (by omega)) ⟨rfl, hT450, hF451, rfl, rfl⟩
def wAt (a q : Nat) : Bool := a == 2 && (q == 2 || q == 4)
set_option maxRecDepth 100000 in
theorem t37 {L : Nat} {xs : Nat → Int32} {d nn : Nat} {m : yM} {e : Int} (hT : Ty gT m) (he : 0 ≤ e ∧ e ≤ 320) (hE : m 5 e.toNat = 0) (ha : m 2 2 ≤ e) {v : Int} (hv : v ≠ 0 ∧ -2147483648 ≤ v ∧ v < 2147483648) : YC (gZ L xs) d 37 [.ref 2, yI v] m nn (qI (fun r m' n' => n' = nn ∧ Ty gT m' ∧ Fr wAt m m' ∧ ((r = 0 ∧ m' 2 2 = m 2 2) ∨ (r = 1 ∧ m' 2 2 = m 2 2 + 1 ∧ m 2 2 < e)))) := by
  refine YC.mkB [some (.ref 2), some (yI v)] kn37 rfl rfl ?_
  have hF : Fr wAt m m := Fr.rf
  refine y_aload 1 c37_0 rfl rfl rfl ?_
  refine y_getR 4 c37_1 rfl kf2_0 ?_
  refine y_getR 7 c37_4 rfl kf3_1 ?_
  refine y_aload 8 c37_7 rfl rfl rfl ?_
  refine y_getX 11 (m 2 2) c37_8 rfl kf2_2 rfl ?_
  have tb452 := hT.atp 2 2 0 320 rfl
  refine y_iaT 12 ((-2147483648)) 2147483647 c37_11 rfl ka5 (by omega) hT rfl (fun v453 hv453 gv453 => ?_)
  refine y_iload 13 c37_12 rfl rfl ?_
  refine y_icmp 34 16 c37_13 rfl rfl (yc_eq (by omega) (by omega)) (fun hb454 => ?_) (fun hb454 => ?_)
  · have hlt : m 2 2 < e := by
      by_cases q : m 2 2 = e
      · exfalso; rw [q] at hv453; omega
      · omega
    refine y_aload 35 c37_34 rfl rfl rfl ?_
    refine y_dup 36 c37_35 rfl rfl ?_
    refine y_getX 39 (m 2 2) c37_36 rfl kf2_2 rfl ?_
    refine y_iconst 40 c37_39 rfl ?_
    refine y_iadd 41 c37_40 rfl ?_
    refine y_putI 44 c37_41 rfl kf2_2 (y_fit0 _) ?_
    have hT455 := hT.up 2 2 ((m 2 2) + 1) 0 320 rfl (by omega)
    have hF456 := hF.up 2 2 ((m 2 2) + 1) rfl
    refine y_iconst 45 c37_44 rfl ?_
    have es457 : (yup m 2 2 ((m 2 2) + 1)) 2 2 = (m 2 2) + 1 := rfl
    exact y_retI c37_45 (y_fit1 (by omega)) ⟨rfl, hT455, hF456, by omega⟩
  · refine y_aload 17 c37_16 rfl rfl rfl ?_
    refine y_aload 18 c37_17 rfl rfl rfl ?_
    refine y_getR 21 c37_18 rfl kf2_0 ?_
    refine y_getR 24 c37_21 rfl kf3_2 ?_
    refine y_aload 25 c37_24 rfl rfl rfl ?_
    refine y_getX 28 (m 2 2) c37_25 rfl kf2_2 rfl ?_
    refine y_iaT 29 0 320 c37_28 rfl ka6 (by omega) hT rfl (fun v458 hv458 gv458 => ?_)
    refine y_putI 32 c37_29 rfl kf2_4 (y_fit0 _) ?_
    have hT459 := hT.up 2 4 v458 0 320 rfl (by omega)
    have hF460 := hF.up 2 4 v458 rfl
    refine y_iconst 33 c37_32 rfl ?_
    have es461 : (yup m 2 4 v458) 2 2 = m 2 2 := rfl
    exact y_retI c37_33 (y_fit1 (by omega)) ⟨rfl, hT459, hF460, by omega⟩
end
section
/-! CONTRACTS: printed by wip/whole/gen80.py and on -/
def wHd256 (a q : Nat) : Bool := (a == 2 && (q == 2 || q == 4)) || (a == 2 && q == 3) || (a == 256 && q == 9) || a == 257 || a == 258 || a == 259
theorem wFa_wHd256 : ∀ a q, wFa a q = true → wHd256 a q = true := by
  intro a q h
  simp [wFa] at h
  simp [wHd256]
  omega
theorem wAt_wHd256 : ∀ a q, wAt a q = true → wHd256 a q = true := by
  intro a q h
  simp [wAt] at h
  simp [wHd256]
  omega
theorem wCl256_wHd256 : ∀ a q, wCl256 a q = true → wHd256 a q = true := by
  intro a q h
  simp [wCl256] at h
  simp [wHd256]
  omega
def wFd256 (a q : Nat) : Bool := (a == 2 && (q == 2 || q == 4)) || (a == 256 && q == 11) || a == 260 || a == 259
theorem wFa_wFd256 : ∀ a q, wFa a q = true → wFd256 a q = true := by
  intro a q h
  simp [wFa] at h
  simp [wFd256]
  omega
theorem wAt_wFd256 : ∀ a q, wAt a q = true → wFd256 a q = true := by
  intro a q h
  simp [wAt] at h
  simp [wFd256]
  omega
theorem wFi256_wFd256 : ∀ a q, wFi256 a q = true → wFd256 a q = true := by
  intro a q h
  simp [wFi256] at h
  simp [wFd256]
  omega
def wVr256 (a q : Nat) : Bool := (a == 2 && (q == 2 || q == 4)) || (a == 256 && q == 15) || a == 261
theorem wFa_wVr256 : ∀ a q, wFa a q = true → wVr256 a q = true := by
  intro a q h
  simp [wFa] at h
  simp [wVr256]
  omega
theorem wAt_wVr256 : ∀ a q, wAt a q = true → wVr256 a q = true := by
  intro a q h
  simp [wAt] at h
  simp [wVr256]
  omega
theorem wVa256_wVr256 : ∀ a q, wVa256 a q = true → wVr256 a q = true := by
  intro a q h
  simp [wVa256] at h
  simp [wVr256]
  omega
def wPr256 (a q : Nat) : Bool := (a == 2 && (q == 2 || q == 4)) || (a == 256 && q == 15) || a == 261 || (decide (266 ≤ a ∧ a < 276) && q == 3)
theorem wFa_wPr256 : ∀ a q, wFa a q = true → wPr256 a q = true := by
  intro a q h
  simp [wFa] at h
  simp [wPr256]
  omega
theorem wAt_wPr256 : ∀ a q, wAt a q = true → wPr256 a q = true := by
  intro a q h
  simp [wAt] at h
  simp [wPr256]
  omega
theorem wPm256_wPr256 : ∀ a q, wPm256 a q = true → wPr256 a q = true := by
  intro a q h
  simp [wPm256] at h
  simp [wPr256]
  omega
set_option maxRecDepth 100000 in
theorem t45_256 {L : Nat} {xs : Nat → Int32} {d nn : Nat} {m : yM} {e : Int} (hT : Ty gT m) (he : 0 ≤ e ∧ e ≤ 320) (hE : m 5 e.toNat = 0) (ha : m 2 2 ≤ e) (hp : m 2 1 = 0) : YC (gZ L xs) (d + 3) 45 [.ref 2] m nn (qI (fun r m' n' => n' = nn ∧ Ty gT m' ∧ Fr wHd256 m m' ∧ (r = 0 ∨ r = 1) ∧ m' 2 2 ≤ e ∧ m 256 9 ≤ m' 256 9 ∧ (r = 1 → 1 ≤ m' 256 9) ∧ m' 2 3 = m 2 3)) := by
  have tb9 := hT.atp 256 9 0 6 rfl
  have tb2 := hT.atp 2 2 0 320 rfl
  refine YC.mkB [some (.ref 2)] kn45 rfl rfl ?_
  have hF : Fr wHd256 m m := Fr.rf
  refine y_aload 1 c45_0 rfl rfl rfl ?_
  refine y_iconst 2 c45_1 rfl ?_
  have tb463 := hT.atp 2 2 0 320 rfl
  refine y_callIB 5 [.ref 2, yI 1] [] c45_2 rfl rfl rfl rfl rfl (ycanO km37 ko2) (t37 hT he hE (by omega) (by omega)) (fun rq462 mq462 nq462 hq462 => ?_)
  obtain ⟨rfl, hTq462, hFq462, hq462⟩ := hq462
  have hF464 := hF.tr hFq462 wAt_wHd256
  refine y_if 10 8 c45_5 rfl rfl (yz_ne (by omega)) (fun hb465 => ?_) (fun hb465 => ?_)
  · refine y_aload 11 c45_10 rfl rfl rfl ?_
    have tb466 := hTq462.atp 2 2 0 320 rfl
    refine y_callP 14 [.ref 2] [] c45_11 rfl rfl rfl rfl rfl (ycanO km38 ko2) (t38 hTq462 he (by have e1 : mq462 5 e.toNat = m 5 e.toNat := (hFq462 5 e.toNat rfl); omega) (by omega)) (fun r467 hr467 => ?_)
    refine y_iconst 16 c45_14 rfl ?_
    refine y_icmp 33 19 c45_16 rfl rfl (yc_ne (by omega) (by omega)) (fun hb468 => ?_) (fun hb468 => ?_)
    · refine y_aload 34 c45_33 rfl rfl rfl ?_
      refine y_callIB 37 [.ref 2] [] c45_34 rfl rfl rfl rfl rfl (ycanO km43 ko2) (t43 hTq462) (fun rq469 mq469 nq469 hq469 => ?_)
      obtain ⟨rfl, hTq469, hFq469, hq469⟩ := hq469
      have hF470 := hF464.tr hFq469 wFa_wHd256
      have es471 : mq469 2 2 = mq462 2 2 := (hFq469 2 2 rfl)
      have es472 : mq469 256 9 = m 256 9 := ((hFq469 256 9 rfl).trans (hFq462 256 9 rfl))
      have tb473 := hT.atp 256 9 0 6 rfl
      have es474 : mq469 2 3 = m 2 3 := ((hFq469 2 3 rfl).trans (hFq462 2 3 rfl))
      have tb475 := hT.atp 2 3 0 1 rfl
      exact y_retI c45_37 (y_fit1 (by omega)) ⟨rfl, hTq469, hF470, by omega⟩
    · refine y_aload 20 c45_19 rfl rfl rfl ?_
      refine y_getS 23 (B := 256) c45_20 rfl kf2_1 (by rw [show mq462 2 1 = 0 from by have e : mq462 2 1 = m 2 1 := (hFq462 2 1 rfl); omega]; rfl) ?_
      refine y_aload 24 c45_23 rfl rfl rfl ?_
      refine y_callP 27 [.ref 2] [.ref 256] c45_24 rfl rfl rfl rfl rfl (ycanO km39 ko2) (t39 hTq462) (fun r476 hr476 => ?_)
      have es478 : mq462 256 9 = m 256 9 := (hFq462 256 9 rfl)
      have tb479 := hT.atp 256 9 0 6 rfl
      refine y_callIB 30 [.ref 256, yI r476] [] c45_27 rfl rfl rfl rfl rfl (ycanO km42 ko256) (t42_256 hTq462 (by omega)) (fun rq477 mq477 nq477 hq477 => ?_)
      obtain ⟨rfl, hTq477, hFq477, hq477⟩ := hq477
      have hF480 := hF464.tr hFq477 wCl256_wHd256
      refine y_if 38 33 c45_30 rfl rfl (yz_ne (by omega)) (fun hb481 => ?_) (fun hb481 => ?_)
      · refine y_aload 39 c45_38 rfl rfl rfl ?_
        refine y_dup 40 c45_39 rfl rfl ?_
        refine y_getX 43 (mq462 2 2) c45_40 rfl kf2_2 (hFq477 2 2 rfl) ?_
        refine y_iconst 44 c45_43 rfl ?_
        refine y_iadd 45 c45_44 rfl ?_
        refine y_putI 48 c45_45 rfl kf2_2 (y_fit0 _) ?_
        have hT482 := hTq477.up 2 2 ((mq462 2 2) + 1) 0 320 rfl (by omega)
        have hF483 := hF480.up 2 2 ((mq462 2 2) + 1) rfl
        refine y_aload 49 c45_48 rfl rfl rfl ?_
        have es484 : (yup mq477 2 2 ((mq462 2 2) + 1)) 2 2 = (mq462 2 2) + 1 := rfl
        refine y_callP 52 [.ref 2] [] c45_49 rfl rfl rfl rfl rfl (ycanO km38 ko2) (t38 hT482 he (by have e1 : (yup mq477 2 2 ((mq462 2 2) + 1)) 5 e.toNat = m 5 e.toNat := ((yup_na (by decide)).trans ((hFq477 5 e.toNat rfl).trans (hFq462 5 e.toNat rfl))); omega) (by omega)) (fun r485 hr485 => ?_)
        refine y_iconst 54 c45_52 rfl ?_
        refine y_icmp 105 57 c45_54 rfl rfl (yc_ne (by omega) (by omega)) (fun hb486 => ?_) (fun hb486 => ?_)
        · refine y_aload 106 c45_105 rfl rfl rfl ?_
          refine y_iconst 108 c45_106 rfl ?_
          have es488 : (yup mq477 2 2 ((mq462 2 2) + 1)) 2 2 = (mq462 2 2) + 1 := rfl
          refine y_callIB 111 [.ref 2, yI 123] [] c45_108 rfl rfl rfl rfl rfl (ycanO km37 ko2) (t37 hT482 he (by have e1 : (yup mq477 2 2 ((mq462 2 2) + 1)) 5 e.toNat = m 5 e.toNat := ((yup_na (by decide)).trans ((hFq477 5 e.toNat rfl).trans (hFq462 5 e.toNat rfl))); omega) (by omega) (by omega)) (fun rq487 mq487 nq487 hq487 => ?_)
          obtain ⟨rfl, hTq487, hFq487, hq487⟩ := hq487
          have hF489 := hF483.tr hFq487 wAt_wHd256
          have tb490 := hTq487.atp 2 2 0 320 rfl
          have es491 : mq487 256 9 = mq477 256 9 := ((hFq487 256 9 rfl).trans (yup_na (by decide)))
          have tb492 := hTq477.atp 256 9 0 6 rfl
          have es493 : mq487 2 3 = m 2 3 := ((hFq487 2 3 rfl).trans ((yup_nk (by decide)).trans ((hFq477 2 3 rfl).trans (hFq462 2 3 rfl))))
          have tb494 := hT.atp 2 3 0 1 rfl
          exact y_retI c45_111 (y_fit1 (by omega)) ⟨rfl, hTq487, hF489, by omega⟩
        · refine y_aload 58 c45_57 rfl rfl rfl ?_
          refine y_dup 59 c45_58 rfl rfl ?_
          refine y_getX 62 ((mq462 2 2) + 1) c45_59 rfl kf2_2 rfl ?_
          refine y_iconst 63 c45_62 rfl ?_
          refine y_iadd 64 c45_63 rfl ?_
          refine y_putI 67 c45_64 rfl kf2_2 (y_fit0 _) ?_
          have hT495 := hT482.up 2 2 (((mq462 2 2) + 1) + 1) 0 320 rfl (by omega)
          have hF496 := hF483.up 2 2 (((mq462 2 2) + 1) + 1) rfl
          refine y_aload 68 c45_67 rfl rfl rfl ?_
          have es497 : (yup (yup mq477 2 2 ((mq462 2 2) + 1)) 2 2 (((mq462 2 2) + 1) + 1)) 2 2 = ((mq462 2 2) + 1) + 1 := rfl
          refine y_callP 71 [.ref 2] [] c45_68 rfl rfl rfl rfl rfl (ycanO km38 ko2) (t38 hT495 he (by have e1 : (yup (yup mq477 2 2 ((mq462 2 2) + 1)) 2 2 (((mq462 2 2) + 1) + 1)) 5 e.toNat = m 5 e.toNat := ((yup_na (by decide)).trans ((yup_na (by decide)).trans ((hFq477 5 e.toNat rfl).trans (hFq462 5 e.toNat rfl)))); omega) (by omega)) (fun r498 hr498 => ?_)
          refine y_iconst 73 c45_71 rfl ?_
          refine y_icmp 90 76 c45_73 rfl rfl (yc_ne (by omega) (by omega)) (fun hb499 => ?_) (fun hb499 => ?_)
          · refine y_aload 91 c45_90 rfl rfl rfl ?_
            have es501 : (yup (yup mq477 2 2 ((mq462 2 2) + 1)) 2 2 (((mq462 2 2) + 1) + 1)) 2 2 = ((mq462 2 2) + 1) + 1 := rfl
            refine y_callIB 94 [.ref 2] [] c45_91 rfl rfl rfl rfl rfl (ycanO km43 ko2) (t43 hT495) (fun rq500 mq500 nq500 hq500 => ?_)
            obtain ⟨rfl, hTq500, hFq500, hq500⟩ := hq500
            have hF502 := hF496.tr hFq500 wFa_wHd256
            have es503 : mq500 2 2 = ((mq462 2 2) + 1) + 1 := ((hFq500 2 2 rfl).trans (yup_eq _ _ _ _))
            have es504 : mq500 256 9 = mq477 256 9 := ((hFq500 256 9 rfl).trans ((yup_na (by decide)).trans (yup_na (by decide))))
            have tb505 := hTq477.atp 256 9 0 6 rfl
            have es506 : mq500 2 3 = m 2 3 := ((hFq500 2 3 rfl).trans ((yup_nk (by decide)).trans ((yup_nk (by decide)).trans ((hFq477 2 3 rfl).trans (hFq462 2 3 rfl)))))
            have tb507 := hT.atp 2 3 0 1 rfl
            exact y_retI c45_94 (y_fit1 (by omega)) ⟨rfl, hTq500, hF502, by omega⟩
          · refine y_aload 77 c45_76 rfl rfl rfl ?_
            refine y_getS 80 (B := 256) c45_77 rfl kf2_1 (by rw [show (yup (yup mq477 2 2 ((mq462 2 2) + 1)) 2 2 (((mq462 2 2) + 1) + 1)) 2 1 = 0 from by have e : (yup (yup mq477 2 2 ((mq462 2 2) + 1)) 2 2 (((mq462 2 2) + 1) + 1)) 2 1 = m 2 1 := ((yup_nk (by decide)).trans ((yup_nk (by decide)).trans ((hFq477 2 1 rfl).trans (hFq462 2 1 rfl)))); omega]; rfl) ?_
            refine y_aload 81 c45_80 rfl rfl rfl ?_
            refine y_callP 84 [.ref 2] [.ref 256] c45_81 rfl rfl rfl rfl rfl (ycanO km39 ko2) (t39 hT495) (fun r508 hr508 => ?_)
            have es510 : (yup (yup mq477 2 2 ((mq462 2 2) + 1)) 2 2 (((mq462 2 2) + 1) + 1)) 256 9 = mq477 256 9 := rfl
            have tb511 := hTq477.atp 256 9 0 6 rfl
            refine y_callIB 87 [.ref 256, yI r508] [] c45_84 rfl rfl rfl rfl rfl (ycanO km44 ko256) (t44_256 hT495 (by omega) (by omega)) (fun rq509 mq509 nq509 hq509 => ?_)
            obtain ⟨rfl, hTq509, hFq509, hq509⟩ := hq509
            have hF512 := hF496.tr hFq509 wCl256_wHd256
            refine y_if 95 90 c45_87 rfl rfl (yz_ne (by omega)) (fun hb513 => ?_) (fun hb513 => ?_)
            · refine y_aload 96 c45_95 rfl rfl rfl ?_
              refine y_dup 97 c45_96 rfl rfl ?_
              refine y_getX 100 (((mq462 2 2) + 1) + 1) c45_97 rfl kf2_2 ((hFq509 2 2 rfl).trans (yup_eq _ _ _ _)) ?_
              refine y_iconst 101 c45_100 rfl ?_
              refine y_iadd 102 c45_101 rfl ?_
              refine y_putI 105 c45_102 rfl kf2_2 (y_fit0 _) ?_
              have hT514 := hTq509.up 2 2 ((((mq462 2 2) + 1) + 1) + 1) 0 320 rfl (by omega)
              have hF515 := hF512.up 2 2 ((((mq462 2 2) + 1) + 1) + 1) rfl
              refine y_aload 106 c45_105 rfl rfl rfl ?_
              refine y_iconst 108 c45_106 rfl ?_
              have es517 : (yup mq509 2 2 ((((mq462 2 2) + 1) + 1) + 1)) 2 2 = (((mq462 2 2) + 1) + 1) + 1 := rfl
              refine y_callIB 111 [.ref 2, yI 123] [] c45_108 rfl rfl rfl rfl rfl (ycanO km37 ko2) (t37 hT514 he (by have e1 : (yup mq509 2 2 ((((mq462 2 2) + 1) + 1) + 1)) 5 e.toNat = m 5 e.toNat := ((yup_na (by decide)).trans ((hFq509 5 e.toNat rfl).trans ((yup_na (by decide)).trans ((yup_na (by decide)).trans ((hFq477 5 e.toNat rfl).trans (hFq462 5 e.toNat rfl)))))); omega) (by omega) (by omega)) (fun rq516 mq516 nq516 hq516 => ?_)
              obtain ⟨rfl, hTq516, hFq516, hq516⟩ := hq516
              have hF518 := hF515.tr hFq516 wAt_wHd256
              have tb519 := hTq516.atp 2 2 0 320 rfl
              have es520 : mq516 256 9 = mq509 256 9 := ((hFq516 256 9 rfl).trans (yup_na (by decide)))
              have tb521 := hTq509.atp 256 9 0 6 rfl
              have es522 : mq516 2 3 = m 2 3 := ((hFq516 2 3 rfl).trans ((yup_nk (by decide)).trans ((hFq509 2 3 rfl).trans ((yup_nk (by decide)).trans ((yup_nk (by decide)).trans ((hFq477 2 3 rfl).trans (hFq462 2 3 rfl)))))))
              have tb523 := hT.atp 2 3 0 1 rfl
              exact y_retI c45_111 (y_fit1 (by omega)) ⟨rfl, hTq516, hF518, by omega⟩
            · refine y_aload 91 c45_90 rfl rfl rfl ?_
              have es525 : mq509 2 2 = ((mq462 2 2) + 1) + 1 := ((hFq509 2 2 rfl).trans (yup_eq _ _ _ _))
              refine y_callIB 94 [.ref 2] [] c45_91 rfl rfl rfl rfl rfl (ycanO km43 ko2) (t43 hTq509) (fun rq524 mq524 nq524 hq524 => ?_)
              obtain ⟨rfl, hTq524, hFq524, hq524⟩ := hq524
              have hF526 := hF512.tr hFq524 wFa_wHd256
              have es527 : mq524 2 2 = ((mq462 2 2) + 1) + 1 := ((hFq524 2 2 rfl).trans ((hFq509 2 2 rfl).trans (yup_eq _ _ _ _)))
              have es528 : mq524 256 9 = mq509 256 9 := (hFq524 256 9 rfl)
              have tb529 := hTq509.atp 256 9 0 6 rfl
              have es530 : mq524 2 3 = m 2 3 := ((hFq524 2 3 rfl).trans ((hFq509 2 3 rfl).trans ((yup_nk (by decide)).trans ((yup_nk (by decide)).trans ((hFq477 2 3 rfl).trans (hFq462 2 3 rfl))))))
              have tb531 := hT.atp 2 3 0 1 rfl
              exact y_retI c45_94 (y_fit1 (by omega)) ⟨rfl, hTq524, hF526, by omega⟩
      · refine y_aload 34 c45_33 rfl rfl rfl ?_
        have es533 : mq477 2 2 = mq462 2 2 := (hFq477 2 2 rfl)
        refine y_callIB 37 [.ref 2] [] c45_34 rfl rfl rfl rfl rfl (ycanO km43 ko2) (t43 hTq477) (fun rq532 mq532 nq532 hq532 => ?_)
        obtain ⟨rfl, hTq532, hFq532, hq532⟩ := hq532
        have hF534 := hF480.tr hFq532 wFa_wHd256
        have es535 : mq532 2 2 = mq462 2 2 := ((hFq532 2 2 rfl).trans (hFq477 2 2 rfl))
        have es536 : mq532 256 9 = mq477 256 9 := (hFq532 256 9 rfl)
        have tb537 := hTq477.atp 256 9 0 6 rfl
        have es538 : mq532 2 3 = m 2 3 := ((hFq532 2 3 rfl).trans ((hFq477 2 3 rfl).trans (hFq462 2 3 rfl)))
        have tb539 := hT.atp 2 3 0 1 rfl
        exact y_retI c45_37 (y_fit1 (by omega)) ⟨rfl, hTq532, hF534, by omega⟩
  · refine y_iconst 9 c45_8 rfl ?_
    have tb540 := hTq462.atp 2 2 0 320 rfl
    have es541 : mq462 256 9 = m 256 9 := (hFq462 256 9 rfl)
    have tb542 := hT.atp 256 9 0 6 rfl
    have es543 : mq462 2 3 = m 2 3 := (hFq462 2 3 rfl)
    have tb544 := hT.atp 2 3 0 1 rfl
    exact y_retI c45_9 (y_fit1 (by omega)) ⟨rfl, hTq462, hF464, by omega⟩
set_option maxRecDepth 100000 in
theorem t49_256 {L : Nat} {xs : Nat → Int32} {d nn : Nat} {m : yM} {e : Int} (hT : Ty gT m) (he : 0 ≤ e ∧ e ≤ 320) (hE : m 5 e.toNat = 0) (ha : m 2 2 ≤ e) (hp : m 2 1 = 0) (hc : 1 ≤ m 256 9) (hlt : m 2 2 < e) : YC (gZ L xs) (d + 3) 49 [.ref 2] m nn (qI (fun r m' n' => n' = nn ∧ Ty gT m' ∧ Fr wFd256 m m' ∧ (r = 0 ∨ r = 1) ∧ m' 2 2 ≤ e)) := by
  refine YC.mkB [some (.ref 2)] kn49 rfl rfl ?_
  have hF : Fr wFd256 m m := Fr.rf
  refine y_aload 1 c49_0 rfl rfl rfl ?_
  refine y_dup 2 c49_1 rfl rfl ?_
  refine y_getX 5 (m 2 2) c49_2 rfl kf2_2 rfl ?_
  have tb545 := hT.atp 2 2 0 320 rfl
  refine y_iconst 6 c49_5 rfl ?_
  refine y_iadd 7 c49_6 rfl ?_
  refine y_putI 10 c49_7 rfl kf2_2 (y_fit0 _) ?_
  have hT546 := hT.up 2 2 ((m 2 2) + 1) 0 320 rfl (by omega)
  have hF547 := hF.up 2 2 ((m 2 2) + 1) rfl
  refine y_aload 11 c49_10 rfl rfl rfl ?_
  have es548 : (yup m 2 2 ((m 2 2) + 1)) 2 2 = (m 2 2) + 1 := rfl
  refine y_callP 14 [.ref 2] [] c49_11 rfl rfl rfl rfl rfl (ycanO km38 ko2) (t38 hT546 he (by have e1 : (yup m 2 2 ((m 2 2) + 1)) 5 e.toNat = m 5 e.toNat := (yup_na (by decide)); omega) (by omega)) (fun r549 hr549 => ?_)
  refine y_iconst 16 c49_14 rfl ?_
  refine y_icmp 33 19 c49_16 rfl rfl (yc_ne (by omega) (by omega)) (fun hb550 => ?_) (fun hb550 => ?_)
  · refine y_aload 34 c49_33 rfl rfl rfl ?_
    have es552 : (yup m 2 2 ((m 2 2) + 1)) 2 2 = (m 2 2) + 1 := rfl
    refine y_callIB 37 [.ref 2] [] c49_34 rfl rfl rfl rfl rfl (ycanO km43 ko2) (t43 hT546) (fun rq551 mq551 nq551 hq551 => ?_)
    obtain ⟨rfl, hTq551, hFq551, hq551⟩ := hq551
    have hF553 := hF547.tr hFq551 wFa_wFd256
    have es554 : mq551 2 2 = (m 2 2) + 1 := ((hFq551 2 2 rfl).trans (yup_eq _ _ _ _))
    exact y_retI c49_37 (y_fit1 (by omega)) ⟨rfl, hTq551, hF553, by omega⟩
  · refine y_aload 20 c49_19 rfl rfl rfl ?_
    refine y_getS 23 (B := 256) c49_20 rfl kf2_1 (by rw [show (yup m 2 2 ((m 2 2) + 1)) 2 1 = 0 from by have e : (yup m 2 2 ((m 2 2) + 1)) 2 1 = m 2 1 := rfl; omega]; rfl) ?_
    refine y_aload 24 c49_23 rfl rfl rfl ?_
    refine y_callP 27 [.ref 2] [.ref 256] c49_24 rfl rfl rfl rfl rfl (ycanO km39 ko2) (t39 hT546) (fun r555 hr555 => ?_)
    have es557 : (yup m 2 2 ((m 2 2) + 1)) 256 9 = m 256 9 := rfl
    have tb558 := hT.atp 256 9 0 6 rfl
    refine y_callIB 30 [.ref 256, yI r555] [] c49_27 rfl rfl rfl rfl rfl (ycanO km48 ko256) (t48_256 hT546 (by omega) (by omega)) (fun rq556 mq556 nq556 hq556 => ?_)
    obtain ⟨rfl, hTq556, hFq556, hq556⟩ := hq556
    have hF559 := hF547.tr hFq556 wFi256_wFd256
    refine y_if 38 33 c49_30 rfl rfl (yz_ne (by omega)) (fun hb560 => ?_) (fun hb560 => ?_)
    · refine y_aload 39 c49_38 rfl rfl rfl ?_
      refine y_dup 40 c49_39 rfl rfl ?_
      refine y_getX 43 ((m 2 2) + 1) c49_40 rfl kf2_2 ((hFq556 2 2 rfl).trans (yup_eq _ _ _ _)) ?_
      refine y_iconst 44 c49_43 rfl ?_
      refine y_iadd 45 c49_44 rfl ?_
      refine y_putI 48 c49_45 rfl kf2_2 (y_fit0 _) ?_
      have hT561 := hTq556.up 2 2 (((m 2 2) + 1) + 1) 0 320 rfl (by omega)
      have hF562 := hF559.up 2 2 (((m 2 2) + 1) + 1) rfl
      refine y_aload 49 c49_48 rfl rfl rfl ?_
      refine y_iconst 51 c49_49 rfl ?_
      have es564 : (yup mq556 2 2 (((m 2 2) + 1) + 1)) 2 2 = ((m 2 2) + 1) + 1 := rfl
      refine y_callIB 54 [.ref 2, yI 59] [] c49_51 rfl rfl rfl rfl rfl (ycanO km37 ko2) (t37 hT561 he (by have e1 : (yup mq556 2 2 (((m 2 2) + 1) + 1)) 5 e.toNat = m 5 e.toNat := ((yup_na (by decide)).trans ((hFq556 5 e.toNat rfl).trans (yup_na (by decide)))); omega) (by omega) (by omega)) (fun rq563 mq563 nq563 hq563 => ?_)
      obtain ⟨rfl, hTq563, hFq563, hq563⟩ := hq563
      have hF565 := hF562.tr hFq563 wAt_wFd256
      have tb566 := hTq563.atp 2 2 0 320 rfl
      exact y_retI c49_54 (y_fit1 (by omega)) ⟨rfl, hTq563, hF565, by omega⟩
    · refine y_aload 34 c49_33 rfl rfl rfl ?_
      have es568 : mq556 2 2 = (m 2 2) + 1 := ((hFq556 2 2 rfl).trans (yup_eq _ _ _ _))
      refine y_callIB 37 [.ref 2] [] c49_34 rfl rfl rfl rfl rfl (ycanO km43 ko2) (t43 hTq556) (fun rq567 mq567 nq567 hq567 => ?_)
      obtain ⟨rfl, hTq567, hFq567, hq567⟩ := hq567
      have hF569 := hF559.tr hFq567 wFa_wFd256
      have es570 : mq567 2 2 = (m 2 2) + 1 := ((hFq567 2 2 rfl).trans ((hFq556 2 2 rfl).trans (yup_eq _ _ _ _)))
      exact y_retI c49_37 (y_fit1 (by omega)) ⟨rfl, hTq567, hF569, by omega⟩
set_option maxRecDepth 100000 in
theorem t71_256 {L : Nat} {xs : Nat → Int32} {d nn : Nat} {m : yM} {e : Int} (hT : Ty gT m) (he : 0 ≤ e ∧ e ≤ 320) (hE : m 5 e.toNat = 0) (ha : m 2 2 ≤ e) (hp : m 2 1 = 0) (hc : 1 ≤ m 256 9) (hlt : m 2 2 < e) : YC (gZ L xs) (d + 4) 71 [.ref 2] m nn (qI (fun r m' n' => n' = nn ∧ Ty gT m' ∧ Fr wHd256 m m' ∧ (r = 0 ∨ r = 1) ∧ m' 2 2 ≤ e ∧ 1 ≤ m' 256 9)) := by
  refine YC.mkB [some (.ref 2)] kn71 rfl rfl ?_
  have hF : Fr wHd256 m m := Fr.rf
  refine y_aload 1 c71_0 rfl rfl rfl ?_
  refine y_dup 2 c71_1 rfl rfl ?_
  refine y_getX 5 (m 2 2) c71_2 rfl kf2_2 rfl ?_
  have tb571 := hT.atp 2 2 0 320 rfl
  refine y_iconst 6 c71_5 rfl ?_
  refine y_iadd 7 c71_6 rfl ?_
  refine y_putI 10 c71_7 rfl kf2_2 (y_fit0 _) ?_
  have hT572 := hT.up 2 2 ((m 2 2) + 1) 0 320 rfl (by omega)
  have hF573 := hF.up 2 2 ((m 2 2) + 1) rfl
  refine y_aload 11 c71_10 rfl rfl rfl ?_
  refine y_aload 12 c71_11 rfl rfl rfl ?_
  have es574 : (yup m 2 2 ((m 2 2) + 1)) 2 2 = (m 2 2) + 1 := rfl
  refine y_callP 15 [.ref 2] [.ref 2] c71_12 rfl rfl rfl rfl rfl (ycanO km38 ko2) (t38 hT572 he (by have e1 : (yup m 2 2 ((m 2 2) + 1)) 5 e.toNat = m 5 e.toNat := (yup_na (by decide)); omega) (by omega)) (fun r575 hr575 => ?_)
  refine y_if 22 18 c71_15 rfl rfl (yz_ne (by omega)) (fun hb576 => ?_) (fun hb576 => ?_)
  · refine y_iconst 23 c71_22 rfl ?_
    refine y_putI 26 c71_23 rfl kf2_3 (y_fit1 (by omega)) ?_
    have hT577 := hT572.up 2 3 0 0 1 rfl (by omega)
    have hF578 := hF573.up 2 3 0 rfl
    refine y_aload 27 c71_26 rfl rfl rfl ?_
    refine y_getX 30 0 c71_27 rfl kf2_3 rfl ?_
    refine y_if 40 33 c71_30 rfl rfl (yz_ne (by omega)) (fun hb579 => ?_) (fun hb579 => ?_)
    · exfalso; omega
    · refine y_aload 34 c71_33 rfl rfl rfl ?_
      have es581 : (yup (yup m 2 2 ((m 2 2) + 1)) 2 3 0) 2 2 = (m 2 2) + 1 := rfl
      have es582 : (yup (yup m 2 2 ((m 2 2) + 1)) 2 3 0) 256 9 = m 256 9 := rfl
      have tb583 := hT.atp 256 9 0 6 rfl
      have es584 : (yup (yup m 2 2 ((m 2 2) + 1)) 2 3 0) 2 1 = m 2 1 := rfl
      have tb585 := hT.atp 2 1 ((-1)) 1 rfl
      have es586 : (yup (yup m 2 2 ((m 2 2) + 1)) 2 3 0) 2 3 = 0 := rfl
      refine y_callIB 37 [.ref 2] [] c71_34 rfl rfl rfl rfl rfl (ycanO km45 ko2) (t45_256 hT577 he (by have e1 : (yup (yup m 2 2 ((m 2 2) + 1)) 2 3 0) 5 e.toNat = m 5 e.toNat := ((yup_na (by decide)).trans (yup_na (by decide))); omega) (by omega) (by omega)) (fun rq580 mq580 nq580 hq580 => ?_)
      obtain ⟨rfl, hTq580, hFq580, hq580⟩ := hq580
      have hF587 := hF578.tr hFq580 (fun _ _ e => e)
      refine y_if 44 40 c71_37 rfl rfl (yz_eq (by omega)) (fun hb588 => ?_) (fun hb588 => ?_)
      · refine y_iconst 45 c71_44 rfl ?_
        have tb589 := hTq580.atp 2 2 0 320 rfl
        have tb590 := hTq580.atp 256 9 0 6 rfl
        exact y_retI c71_45 (y_fit1 (by omega)) ⟨rfl, hTq580, hF587, by omega⟩
      · refine y_iconst 41 c71_40 rfl ?_
        refine y_goto 45 c71_41 rfl ?_
        have tb591 := hTq580.atp 2 2 0 320 rfl
        have tb592 := hTq580.atp 256 9 0 6 rfl
        exact y_retI c71_45 (y_fit1 (by omega)) ⟨rfl, hTq580, hF587, by omega⟩
  · refine y_iconst 19 c71_18 rfl ?_
    refine y_goto 23 c71_19 rfl ?_
    refine y_putI 26 c71_23 rfl kf2_3 (y_fit1 (by omega)) ?_
    have hT593 := hT572.up 2 3 1 0 1 rfl (by omega)
    have hF594 := hF573.up 2 3 1 rfl
    refine y_aload 27 c71_26 rfl rfl rfl ?_
    refine y_getX 30 1 c71_27 rfl kf2_3 rfl ?_
    refine y_if 40 33 c71_30 rfl rfl (yz_ne (by omega)) (fun hb595 => ?_) (fun hb595 => ?_)
    · refine y_iconst 41 c71_40 rfl ?_
      refine y_goto 45 c71_41 rfl ?_
      have es596 : (yup (yup m 2 2 ((m 2 2) + 1)) 2 3 1) 2 2 = (m 2 2) + 1 := rfl
      have es597 : (yup (yup m 2 2 ((m 2 2) + 1)) 2 3 1) 256 9 = m 256 9 := rfl
      have tb598 := hT.atp 256 9 0 6 rfl
      exact y_retI c71_45 (y_fit1 (by omega)) ⟨rfl, hT593, hF594, by omega⟩
    · exfalso; omega
set_option maxRecDepth 100000 in
theorem t58_256 {L : Nat} {xs : Nat → Int32} {d nn : Nat} {m : yM} {e : Int} (hT : Ty gT m) (he : 0 ≤ e ∧ e ≤ 320) (hE : m 5 e.toNat = 0) (ha : m 2 2 ≤ e) (hp : m 2 1 = 0) (hm : 1 ≤ m 256 10) : YC (gZ L xs) (d + 1) 58 [.ref 2] m nn (qI (fun r m' n' => n' = nn ∧ Ty gT m' ∧ Fr wVr256 m m' ∧ -1 ≤ r ∧ r ≤ 47 ∧ m' 2 2 ≤ e ∧ m 256 15 ≤ m' 256 15)) := by
  have tb15 := hT.atp 256 15 0 48 rfl
  have tb2 := hT.atp 2 2 0 320 rfl
  refine YC.mkB [some (.ref 2), none] kn58 rfl rfl ?_
  have hF : Fr wVr256 m m := Fr.rf
  refine y_iconst 1 c58_0 rfl ?_
  refine y_istore 2 c58_1 rfl rfl ?_
  refine y_aload 3 c58_2 rfl rfl rfl ?_
  have tb599 := hT.atp 2 2 0 320 rfl
  refine y_callP 6 [.ref 2] [] c58_3 rfl rfl rfl rfl rfl (ycanO km38 ko2) (t38 hT he hE (by omega)) (fun r600 hr600 => ?_)
  refine y_iconst 8 c58_6 rfl ?_
  refine y_icmp 35 11 c58_8 rfl rfl (yc_ne (by omega) (by omega)) (fun hb601 => ?_) (fun hb601 => ?_)
  · refine y_aload 36 c58_35 rfl rfl rfl ?_
    refine y_callP 39 [.ref 2] [] c58_36 rfl rfl rfl rfl rfl (ycanO km38 ko2) (t38 hT he hE (by omega)) (fun r602 hr602 => ?_)
    refine y_iconst 41 c58_39 rfl ?_
    refine y_icmp 56 44 c58_41 rfl rfl (yc_ne (by omega) (by omega)) (fun hb603 => ?_) (fun hb603 => ?_)
    · refine y_iload 57 c58_56 rfl rfl ?_
      refine y_iconst 58 c58_57 rfl ?_
      refine y_icmp 69 61 c58_58 rfl rfl (yc_ne (by omega) (by omega)) (fun hb604 => ?_) (fun hb604 => ?_)
      · exfalso; omega
      · refine y_aload 62 c58_61 rfl rfl rfl ?_
        refine y_callIB 65 [.ref 2] [] c58_62 rfl rfl rfl rfl rfl (ycanO km43 ko2) (t43 hT) (fun rq605 mq605 nq605 hq605 => ?_)
        obtain ⟨rfl, hTq605, hFq605, hq605⟩ := hq605
        have hF606 := hF.tr hFq605 wFa_wVr256
        refine y_pop 66 c58_65 rfl rfl ?_
        refine y_goto 79 c58_66 rfl ?_
        refine y_iload 80 c58_79 rfl rfl ?_
        have es607 : mq605 2 2 = m 2 2 := (hFq605 2 2 rfl)
        have es608 : mq605 256 15 = m 256 15 := (hFq605 256 15 rfl)
        have tb609 := hT.atp 256 15 0 48 rfl
        exact y_retI c58_80 (y_fit0 _) ⟨rfl, hTq605, hF606, by omega⟩
    · refine y_aload 45 c58_44 rfl rfl rfl ?_
      refine y_getS 48 (B := 256) c58_45 rfl kf2_1 (by rw [show m 2 1 = 0 from by have e : m 2 1 = m 2 1 := rfl; omega]; rfl) ?_
      refine y_aload 49 c58_48 rfl rfl rfl ?_
      refine y_callP 52 [.ref 2] [.ref 256] c58_49 rfl rfl rfl rfl rfl (ycanO km39 ko2) (t39 hT) (fun r610 hr610 => ?_)
      have tb612 := hT.atp 256 10 0 10 rfl
      have tb613 := hT.atp 256 15 0 48 rfl
      refine y_callIB 55 [.ref 256, yI r610] [] c58_52 rfl rfl rfl rfl rfl (ycanO km52 ko256) (t52_256 hT (by omega) (by omega)) (fun rq611 mq611 nq611 hq611 => ?_)
      obtain ⟨rfl, hTq611, hFq611, hq611⟩ := hq611
      have hF614 := hF.tr hFq611 wVa256_wVr256
      refine y_istore 56 c58_55 rfl rfl ?_
      refine y_iload 57 c58_56 rfl rfl ?_
      refine y_iconst 58 c58_57 rfl ?_
      refine y_icmp 69 61 c58_58 rfl rfl (yc_ne (by omega) (by omega)) (fun hb615 => ?_) (fun hb615 => ?_)
      · refine y_aload 70 c58_69 rfl rfl rfl ?_
        refine y_dup 71 c58_70 rfl rfl ?_
        refine y_getX 74 (m 2 2) c58_71 rfl kf2_2 (hFq611 2 2 rfl) ?_
        refine y_iconst 75 c58_74 rfl ?_
        refine y_iadd 76 c58_75 rfl ?_
        refine y_putI 79 c58_76 rfl kf2_2 (y_fit0 _) ?_
        have hT616 := hTq611.up 2 2 ((m 2 2) + 1) 0 320 rfl (by omega)
        have hF617 := hF614.up 2 2 ((m 2 2) + 1) rfl
        refine y_iload 80 c58_79 rfl rfl ?_
        have es618 : (yup mq611 2 2 ((m 2 2) + 1)) 2 2 = (m 2 2) + 1 := rfl
        have es619 : (yup mq611 2 2 ((m 2 2) + 1)) 256 15 = mq611 256 15 := rfl
        have tb620 := hTq611.atp 256 15 0 48 rfl
        exact y_retI c58_80 (y_fit0 _) ⟨rfl, hT616, hF617, by omega⟩
      · refine y_aload 62 c58_61 rfl rfl rfl ?_
        have es622 : mq611 2 2 = m 2 2 := (hFq611 2 2 rfl)
        refine y_callIB 65 [.ref 2] [] c58_62 rfl rfl rfl rfl rfl (ycanO km43 ko2) (t43 hTq611) (fun rq621 mq621 nq621 hq621 => ?_)
        obtain ⟨rfl, hTq621, hFq621, hq621⟩ := hq621
        have hF623 := hF614.tr hFq621 wFa_wVr256
        refine y_pop 66 c58_65 rfl rfl ?_
        refine y_goto 79 c58_66 rfl ?_
        refine y_iload 80 c58_79 rfl rfl ?_
        have es624 : mq621 2 2 = m 2 2 := ((hFq621 2 2 rfl).trans (hFq611 2 2 rfl))
        have es625 : mq621 256 15 = mq611 256 15 := (hFq621 256 15 rfl)
        have tb626 := hTq611.atp 256 15 0 48 rfl
        exact y_retI c58_80 (y_fit0 _) ⟨rfl, hTq621, hF623, by omega⟩
  · refine y_aload 12 c58_11 rfl rfl rfl ?_
    refine y_getS 15 (B := 256) c58_12 rfl kf2_1 (by rw [show m 2 1 = 0 from by have e : m 2 1 = m 2 1 := rfl; omega]; rfl) ?_
    refine y_getR 18 c58_15 rfl kf256_5 ?_
    refine y_aload 19 c58_18 rfl rfl rfl ?_
    refine y_getS 22 (B := 256) c58_19 rfl kf2_1 (by rw [show m 2 1 = 0 from by have e : m 2 1 = m 2 1 := rfl; omega]; rfl) ?_
    refine y_getX 25 (m 256 10) c58_22 rfl kf256_10 rfl ?_
    have tb627 := hT.atp 256 10 0 10 rfl
    refine y_iconst 26 c58_25 rfl ?_
    refine y_isub 27 c58_26 rfl ?_
    refine y_aaload 28 c58_27 rfl kr262 (by omega) ?_
    refine y_callP 31 [.ref (266 + ((m 256 10) - 1).toNat)] [] c58_28 rfl rfl rfl rfl rfl (ycanO km57 (fo266 (by omega))) (t57_256 hT (by omega)) (fun r628 hr628 => ?_)
    refine y_istore 32 c58_31 rfl rfl ?_
    refine y_goto 56 c58_32 rfl ?_
    refine y_iload 57 c58_56 rfl rfl ?_
    refine y_iconst 58 c58_57 rfl ?_
    refine y_icmp 69 61 c58_58 rfl rfl (yc_ne (by omega) (by omega)) (fun hb629 => ?_) (fun hb629 => ?_)
    · refine y_aload 70 c58_69 rfl rfl rfl ?_
      refine y_dup 71 c58_70 rfl rfl ?_
      refine y_getX 74 (m 2 2) c58_71 rfl kf2_2 rfl ?_
      refine y_iconst 75 c58_74 rfl ?_
      refine y_iadd 76 c58_75 rfl ?_
      refine y_putI 79 c58_76 rfl kf2_2 (y_fit0 _) ?_
      have hT630 := hT.up 2 2 ((m 2 2) + 1) 0 320 rfl (by omega)
      have hF631 := hF.up 2 2 ((m 2 2) + 1) rfl
      refine y_iload 80 c58_79 rfl rfl ?_
      have es632 : (yup m 2 2 ((m 2 2) + 1)) 2 2 = (m 2 2) + 1 := rfl
      have es633 : (yup m 2 2 ((m 2 2) + 1)) 256 15 = m 256 15 := rfl
      have tb634 := hT.atp 256 15 0 48 rfl
      exact y_retI c58_80 (y_fit0 _) ⟨rfl, hT630, hF631, by omega⟩
    · exfalso; omega
def wHd316 (a q : Nat) : Bool := (a == 2 && (q == 2 || q == 4)) || (a == 2 && q == 3) || (a == 316 && q == 9) || a == 317 || a == 318 || a == 319
theorem wFa_wHd316 : ∀ a q, wFa a q = true → wHd316 a q = true := by
  intro a q h
  simp [wFa] at h
  simp [wHd316]
  omega
theorem wAt_wHd316 : ∀ a q, wAt a q = true → wHd316 a q = true := by
  intro a q h
  simp [wAt] at h
  simp [wHd316]
  omega
theorem wCl316_wHd316 : ∀ a q, wCl316 a q = true → wHd316 a q = true := by
  intro a q h
  simp [wCl316] at h
  simp [wHd316]
  omega
def wFd316 (a q : Nat) : Bool := (a == 2 && (q == 2 || q == 4)) || (a == 316 && q == 11) || a == 320 || a == 319
theorem wFa_wFd316 : ∀ a q, wFa a q = true → wFd316 a q = true := by
  intro a q h
  simp [wFa] at h
  simp [wFd316]
  omega
theorem wAt_wFd316 : ∀ a q, wAt a q = true → wFd316 a q = true := by
  intro a q h
  simp [wAt] at h
  simp [wFd316]
  omega
theorem wFi316_wFd316 : ∀ a q, wFi316 a q = true → wFd316 a q = true := by
  intro a q h
  simp [wFi316] at h
  simp [wFd316]
  omega
def wVr316 (a q : Nat) : Bool := (a == 2 && (q == 2 || q == 4)) || (a == 316 && q == 15) || a == 321
theorem wFa_wVr316 : ∀ a q, wFa a q = true → wVr316 a q = true := by
  intro a q h
  simp [wFa] at h
  simp [wVr316]
  omega
theorem wAt_wVr316 : ∀ a q, wAt a q = true → wVr316 a q = true := by
  intro a q h
  simp [wAt] at h
  simp [wVr316]
  omega
theorem wVa316_wVr316 : ∀ a q, wVa316 a q = true → wVr316 a q = true := by
  intro a q h
  simp [wVa316] at h
  simp [wVr316]
  omega
def wPr316 (a q : Nat) : Bool := (a == 2 && (q == 2 || q == 4)) || (a == 316 && q == 15) || a == 321 || (decide (326 ≤ a ∧ a < 336) && q == 3)
theorem wFa_wPr316 : ∀ a q, wFa a q = true → wPr316 a q = true := by
  intro a q h
  simp [wFa] at h
  simp [wPr316]
  omega
theorem wAt_wPr316 : ∀ a q, wAt a q = true → wPr316 a q = true := by
  intro a q h
  simp [wAt] at h
  simp [wPr316]
  omega
theorem wPm316_wPr316 : ∀ a q, wPm316 a q = true → wPr316 a q = true := by
  intro a q h
  simp [wPm316] at h
  simp [wPr316]
  omega
set_option maxRecDepth 100000 in
theorem t45_316 {L : Nat} {xs : Nat → Int32} {d nn : Nat} {m : yM} {e : Int} (hT : Ty gT m) (he : 0 ≤ e ∧ e ≤ 320) (hE : m 5 e.toNat = 0) (ha : m 2 2 ≤ e) (hp : m 2 1 = 1) : YC (gZ L xs) (d + 3) 45 [.ref 2] m nn (qI (fun r m' n' => n' = nn ∧ Ty gT m' ∧ Fr wHd316 m m' ∧ (r = 0 ∨ r = 1) ∧ m' 2 2 ≤ e ∧ m 316 9 ≤ m' 316 9 ∧ (r = 1 → 1 ≤ m' 316 9) ∧ m' 2 3 = m 2 3)) := by
  have tb9 := hT.atp 316 9 0 6 rfl
  have tb2 := hT.atp 2 2 0 320 rfl
  refine YC.mkB [some (.ref 2)] kn45 rfl rfl ?_
  have hF : Fr wHd316 m m := Fr.rf
  refine y_aload 1 c45_0 rfl rfl rfl ?_
  refine y_iconst 2 c45_1 rfl ?_
  have tb636 := hT.atp 2 2 0 320 rfl
  refine y_callIB 5 [.ref 2, yI 1] [] c45_2 rfl rfl rfl rfl rfl (ycanO km37 ko2) (t37 hT he hE (by omega) (by omega)) (fun rq635 mq635 nq635 hq635 => ?_)
  obtain ⟨rfl, hTq635, hFq635, hq635⟩ := hq635
  have hF637 := hF.tr hFq635 wAt_wHd316
  refine y_if 10 8 c45_5 rfl rfl (yz_ne (by omega)) (fun hb638 => ?_) (fun hb638 => ?_)
  · refine y_aload 11 c45_10 rfl rfl rfl ?_
    have tb639 := hTq635.atp 2 2 0 320 rfl
    refine y_callP 14 [.ref 2] [] c45_11 rfl rfl rfl rfl rfl (ycanO km38 ko2) (t38 hTq635 he (by have e1 : mq635 5 e.toNat = m 5 e.toNat := (hFq635 5 e.toNat rfl); omega) (by omega)) (fun r640 hr640 => ?_)
    refine y_iconst 16 c45_14 rfl ?_
    refine y_icmp 33 19 c45_16 rfl rfl (yc_ne (by omega) (by omega)) (fun hb641 => ?_) (fun hb641 => ?_)
    · refine y_aload 34 c45_33 rfl rfl rfl ?_
      refine y_callIB 37 [.ref 2] [] c45_34 rfl rfl rfl rfl rfl (ycanO km43 ko2) (t43 hTq635) (fun rq642 mq642 nq642 hq642 => ?_)
      obtain ⟨rfl, hTq642, hFq642, hq642⟩ := hq642
      have hF643 := hF637.tr hFq642 wFa_wHd316
      have es644 : mq642 2 2 = mq635 2 2 := (hFq642 2 2 rfl)
      have es645 : mq642 316 9 = m 316 9 := ((hFq642 316 9 rfl).trans (hFq635 316 9 rfl))
      have tb646 := hT.atp 316 9 0 6 rfl
      have es647 : mq642 2 3 = m 2 3 := ((hFq642 2 3 rfl).trans (hFq635 2 3 rfl))
      have tb648 := hT.atp 2 3 0 1 rfl
      exact y_retI c45_37 (y_fit1 (by omega)) ⟨rfl, hTq642, hF643, by omega⟩
    · refine y_aload 20 c45_19 rfl rfl rfl ?_
      refine y_getS 23 (B := 316) c45_20 rfl kf2_1 (by rw [show mq635 2 1 = 1 from by have e : mq635 2 1 = m 2 1 := (hFq635 2 1 rfl); omega]; rfl) ?_
      refine y_aload 24 c45_23 rfl rfl rfl ?_
      refine y_callP 27 [.ref 2] [.ref 316] c45_24 rfl rfl rfl rfl rfl (ycanO km39 ko2) (t39 hTq635) (fun r649 hr649 => ?_)
      have es651 : mq635 316 9 = m 316 9 := (hFq635 316 9 rfl)
      have tb652 := hT.atp 316 9 0 6 rfl
      refine y_callIB 30 [.ref 316, yI r649] [] c45_27 rfl rfl rfl rfl rfl (ycanO km42 ko316) (t42_316 hTq635 (by omega)) (fun rq650 mq650 nq650 hq650 => ?_)
      obtain ⟨rfl, hTq650, hFq650, hq650⟩ := hq650
      have hF653 := hF637.tr hFq650 wCl316_wHd316
      refine y_if 38 33 c45_30 rfl rfl (yz_ne (by omega)) (fun hb654 => ?_) (fun hb654 => ?_)
      · refine y_aload 39 c45_38 rfl rfl rfl ?_
        refine y_dup 40 c45_39 rfl rfl ?_
        refine y_getX 43 (mq635 2 2) c45_40 rfl kf2_2 (hFq650 2 2 rfl) ?_
        refine y_iconst 44 c45_43 rfl ?_
        refine y_iadd 45 c45_44 rfl ?_
        refine y_putI 48 c45_45 rfl kf2_2 (y_fit0 _) ?_
        have hT655 := hTq650.up 2 2 ((mq635 2 2) + 1) 0 320 rfl (by omega)
        have hF656 := hF653.up 2 2 ((mq635 2 2) + 1) rfl
        refine y_aload 49 c45_48 rfl rfl rfl ?_
        have es657 : (yup mq650 2 2 ((mq635 2 2) + 1)) 2 2 = (mq635 2 2) + 1 := rfl
        refine y_callP 52 [.ref 2] [] c45_49 rfl rfl rfl rfl rfl (ycanO km38 ko2) (t38 hT655 he (by have e1 : (yup mq650 2 2 ((mq635 2 2) + 1)) 5 e.toNat = m 5 e.toNat := ((yup_na (by decide)).trans ((hFq650 5 e.toNat rfl).trans (hFq635 5 e.toNat rfl))); omega) (by omega)) (fun r658 hr658 => ?_)
        refine y_iconst 54 c45_52 rfl ?_
        refine y_icmp 105 57 c45_54 rfl rfl (yc_ne (by omega) (by omega)) (fun hb659 => ?_) (fun hb659 => ?_)
        · refine y_aload 106 c45_105 rfl rfl rfl ?_
          refine y_iconst 108 c45_106 rfl ?_
          have es661 : (yup mq650 2 2 ((mq635 2 2) + 1)) 2 2 = (mq635 2 2) + 1 := rfl
          refine y_callIB 111 [.ref 2, yI 123] [] c45_108 rfl rfl rfl rfl rfl (ycanO km37 ko2) (t37 hT655 he (by have e1 : (yup mq650 2 2 ((mq635 2 2) + 1)) 5 e.toNat = m 5 e.toNat := ((yup_na (by decide)).trans ((hFq650 5 e.toNat rfl).trans (hFq635 5 e.toNat rfl))); omega) (by omega) (by omega)) (fun rq660 mq660 nq660 hq660 => ?_)
          obtain ⟨rfl, hTq660, hFq660, hq660⟩ := hq660
          have hF662 := hF656.tr hFq660 wAt_wHd316
          have tb663 := hTq660.atp 2 2 0 320 rfl
          have es664 : mq660 316 9 = mq650 316 9 := ((hFq660 316 9 rfl).trans (yup_na (by decide)))
          have tb665 := hTq650.atp 316 9 0 6 rfl
          have es666 : mq660 2 3 = m 2 3 := ((hFq660 2 3 rfl).trans ((yup_nk (by decide)).trans ((hFq650 2 3 rfl).trans (hFq635 2 3 rfl))))
          have tb667 := hT.atp 2 3 0 1 rfl
          exact y_retI c45_111 (y_fit1 (by omega)) ⟨rfl, hTq660, hF662, by omega⟩
        · refine y_aload 58 c45_57 rfl rfl rfl ?_
          refine y_dup 59 c45_58 rfl rfl ?_
          refine y_getX 62 ((mq635 2 2) + 1) c45_59 rfl kf2_2 rfl ?_
          refine y_iconst 63 c45_62 rfl ?_
          refine y_iadd 64 c45_63 rfl ?_
          refine y_putI 67 c45_64 rfl kf2_2 (y_fit0 _) ?_
          have hT668 := hT655.up 2 2 (((mq635 2 2) + 1) + 1) 0 320 rfl (by omega)
          have hF669 := hF656.up 2 2 (((mq635 2 2) + 1) + 1) rfl
          refine y_aload 68 c45_67 rfl rfl rfl ?_
          have es670 : (yup (yup mq650 2 2 ((mq635 2 2) + 1)) 2 2 (((mq635 2 2) + 1) + 1)) 2 2 = ((mq635 2 2) + 1) + 1 := rfl
          refine y_callP 71 [.ref 2] [] c45_68 rfl rfl rfl rfl rfl (ycanO km38 ko2) (t38 hT668 he (by have e1 : (yup (yup mq650 2 2 ((mq635 2 2) + 1)) 2 2 (((mq635 2 2) + 1) + 1)) 5 e.toNat = m 5 e.toNat := ((yup_na (by decide)).trans ((yup_na (by decide)).trans ((hFq650 5 e.toNat rfl).trans (hFq635 5 e.toNat rfl)))); omega) (by omega)) (fun r671 hr671 => ?_)
          refine y_iconst 73 c45_71 rfl ?_
          refine y_icmp 90 76 c45_73 rfl rfl (yc_ne (by omega) (by omega)) (fun hb672 => ?_) (fun hb672 => ?_)
          · refine y_aload 91 c45_90 rfl rfl rfl ?_
            have es674 : (yup (yup mq650 2 2 ((mq635 2 2) + 1)) 2 2 (((mq635 2 2) + 1) + 1)) 2 2 = ((mq635 2 2) + 1) + 1 := rfl
            refine y_callIB 94 [.ref 2] [] c45_91 rfl rfl rfl rfl rfl (ycanO km43 ko2) (t43 hT668) (fun rq673 mq673 nq673 hq673 => ?_)
            obtain ⟨rfl, hTq673, hFq673, hq673⟩ := hq673
            have hF675 := hF669.tr hFq673 wFa_wHd316
            have es676 : mq673 2 2 = ((mq635 2 2) + 1) + 1 := ((hFq673 2 2 rfl).trans (yup_eq _ _ _ _))
            have es677 : mq673 316 9 = mq650 316 9 := ((hFq673 316 9 rfl).trans ((yup_na (by decide)).trans (yup_na (by decide))))
            have tb678 := hTq650.atp 316 9 0 6 rfl
            have es679 : mq673 2 3 = m 2 3 := ((hFq673 2 3 rfl).trans ((yup_nk (by decide)).trans ((yup_nk (by decide)).trans ((hFq650 2 3 rfl).trans (hFq635 2 3 rfl)))))
            have tb680 := hT.atp 2 3 0 1 rfl
            exact y_retI c45_94 (y_fit1 (by omega)) ⟨rfl, hTq673, hF675, by omega⟩
          · refine y_aload 77 c45_76 rfl rfl rfl ?_
            refine y_getS 80 (B := 316) c45_77 rfl kf2_1 (by rw [show (yup (yup mq650 2 2 ((mq635 2 2) + 1)) 2 2 (((mq635 2 2) + 1) + 1)) 2 1 = 1 from by have e : (yup (yup mq650 2 2 ((mq635 2 2) + 1)) 2 2 (((mq635 2 2) + 1) + 1)) 2 1 = m 2 1 := ((yup_nk (by decide)).trans ((yup_nk (by decide)).trans ((hFq650 2 1 rfl).trans (hFq635 2 1 rfl)))); omega]; rfl) ?_
            refine y_aload 81 c45_80 rfl rfl rfl ?_
            refine y_callP 84 [.ref 2] [.ref 316] c45_81 rfl rfl rfl rfl rfl (ycanO km39 ko2) (t39 hT668) (fun r681 hr681 => ?_)
            have es683 : (yup (yup mq650 2 2 ((mq635 2 2) + 1)) 2 2 (((mq635 2 2) + 1) + 1)) 316 9 = mq650 316 9 := rfl
            have tb684 := hTq650.atp 316 9 0 6 rfl
            refine y_callIB 87 [.ref 316, yI r681] [] c45_84 rfl rfl rfl rfl rfl (ycanO km44 ko316) (t44_316 hT668 (by omega) (by omega)) (fun rq682 mq682 nq682 hq682 => ?_)
            obtain ⟨rfl, hTq682, hFq682, hq682⟩ := hq682
            have hF685 := hF669.tr hFq682 wCl316_wHd316
            refine y_if 95 90 c45_87 rfl rfl (yz_ne (by omega)) (fun hb686 => ?_) (fun hb686 => ?_)
            · refine y_aload 96 c45_95 rfl rfl rfl ?_
              refine y_dup 97 c45_96 rfl rfl ?_
              refine y_getX 100 (((mq635 2 2) + 1) + 1) c45_97 rfl kf2_2 ((hFq682 2 2 rfl).trans (yup_eq _ _ _ _)) ?_
              refine y_iconst 101 c45_100 rfl ?_
              refine y_iadd 102 c45_101 rfl ?_
              refine y_putI 105 c45_102 rfl kf2_2 (y_fit0 _) ?_
              have hT687 := hTq682.up 2 2 ((((mq635 2 2) + 1) + 1) + 1) 0 320 rfl (by omega)
              have hF688 := hF685.up 2 2 ((((mq635 2 2) + 1) + 1) + 1) rfl
              refine y_aload 106 c45_105 rfl rfl rfl ?_
              refine y_iconst 108 c45_106 rfl ?_
              have es690 : (yup mq682 2 2 ((((mq635 2 2) + 1) + 1) + 1)) 2 2 = (((mq635 2 2) + 1) + 1) + 1 := rfl
              refine y_callIB 111 [.ref 2, yI 123] [] c45_108 rfl rfl rfl rfl rfl (ycanO km37 ko2) (t37 hT687 he (by have e1 : (yup mq682 2 2 ((((mq635 2 2) + 1) + 1) + 1)) 5 e.toNat = m 5 e.toNat := ((yup_na (by decide)).trans ((hFq682 5 e.toNat rfl).trans ((yup_na (by decide)).trans ((yup_na (by decide)).trans ((hFq650 5 e.toNat rfl).trans (hFq635 5 e.toNat rfl)))))); omega) (by omega) (by omega)) (fun rq689 mq689 nq689 hq689 => ?_)
              obtain ⟨rfl, hTq689, hFq689, hq689⟩ := hq689
              have hF691 := hF688.tr hFq689 wAt_wHd316
              have tb692 := hTq689.atp 2 2 0 320 rfl
              have es693 : mq689 316 9 = mq682 316 9 := ((hFq689 316 9 rfl).trans (yup_na (by decide)))
              have tb694 := hTq682.atp 316 9 0 6 rfl
              have es695 : mq689 2 3 = m 2 3 := ((hFq689 2 3 rfl).trans ((yup_nk (by decide)).trans ((hFq682 2 3 rfl).trans ((yup_nk (by decide)).trans ((yup_nk (by decide)).trans ((hFq650 2 3 rfl).trans (hFq635 2 3 rfl)))))))
              have tb696 := hT.atp 2 3 0 1 rfl
              exact y_retI c45_111 (y_fit1 (by omega)) ⟨rfl, hTq689, hF691, by omega⟩
            · refine y_aload 91 c45_90 rfl rfl rfl ?_
              have es698 : mq682 2 2 = ((mq635 2 2) + 1) + 1 := ((hFq682 2 2 rfl).trans (yup_eq _ _ _ _))
              refine y_callIB 94 [.ref 2] [] c45_91 rfl rfl rfl rfl rfl (ycanO km43 ko2) (t43 hTq682) (fun rq697 mq697 nq697 hq697 => ?_)
              obtain ⟨rfl, hTq697, hFq697, hq697⟩ := hq697
              have hF699 := hF685.tr hFq697 wFa_wHd316
              have es700 : mq697 2 2 = ((mq635 2 2) + 1) + 1 := ((hFq697 2 2 rfl).trans ((hFq682 2 2 rfl).trans (yup_eq _ _ _ _)))
              have es701 : mq697 316 9 = mq682 316 9 := (hFq697 316 9 rfl)
              have tb702 := hTq682.atp 316 9 0 6 rfl
              have es703 : mq697 2 3 = m 2 3 := ((hFq697 2 3 rfl).trans ((hFq682 2 3 rfl).trans ((yup_nk (by decide)).trans ((yup_nk (by decide)).trans ((hFq650 2 3 rfl).trans (hFq635 2 3 rfl))))))
              have tb704 := hT.atp 2 3 0 1 rfl
              exact y_retI c45_94 (y_fit1 (by omega)) ⟨rfl, hTq697, hF699, by omega⟩
      · refine y_aload 34 c45_33 rfl rfl rfl ?_
        have es706 : mq650 2 2 = mq635 2 2 := (hFq650 2 2 rfl)
        refine y_callIB 37 [.ref 2] [] c45_34 rfl rfl rfl rfl rfl (ycanO km43 ko2) (t43 hTq650) (fun rq705 mq705 nq705 hq705 => ?_)
        obtain ⟨rfl, hTq705, hFq705, hq705⟩ := hq705
        have hF707 := hF653.tr hFq705 wFa_wHd316
        have es708 : mq705 2 2 = mq635 2 2 := ((hFq705 2 2 rfl).trans (hFq650 2 2 rfl))
        have es709 : mq705 316 9 = mq650 316 9 := (hFq705 316 9 rfl)
        have tb710 := hTq650.atp 316 9 0 6 rfl
        have es711 : mq705 2 3 = m 2 3 := ((hFq705 2 3 rfl).trans ((hFq650 2 3 rfl).trans (hFq635 2 3 rfl)))
        have tb712 := hT.atp 2 3 0 1 rfl
        exact y_retI c45_37 (y_fit1 (by omega)) ⟨rfl, hTq705, hF707, by omega⟩
  · refine y_iconst 9 c45_8 rfl ?_
    have tb713 := hTq635.atp 2 2 0 320 rfl
    have es714 : mq635 316 9 = m 316 9 := (hFq635 316 9 rfl)
    have tb715 := hT.atp 316 9 0 6 rfl
    have es716 : mq635 2 3 = m 2 3 := (hFq635 2 3 rfl)
    have tb717 := hT.atp 2 3 0 1 rfl
    exact y_retI c45_9 (y_fit1 (by omega)) ⟨rfl, hTq635, hF637, by omega⟩
set_option maxRecDepth 100000 in
theorem t49_316 {L : Nat} {xs : Nat → Int32} {d nn : Nat} {m : yM} {e : Int} (hT : Ty gT m) (he : 0 ≤ e ∧ e ≤ 320) (hE : m 5 e.toNat = 0) (ha : m 2 2 ≤ e) (hp : m 2 1 = 1) (hc : 1 ≤ m 316 9) (hlt : m 2 2 < e) : YC (gZ L xs) (d + 3) 49 [.ref 2] m nn (qI (fun r m' n' => n' = nn ∧ Ty gT m' ∧ Fr wFd316 m m' ∧ (r = 0 ∨ r = 1) ∧ m' 2 2 ≤ e)) := by
  refine YC.mkB [some (.ref 2)] kn49 rfl rfl ?_
  have hF : Fr wFd316 m m := Fr.rf
  refine y_aload 1 c49_0 rfl rfl rfl ?_
  refine y_dup 2 c49_1 rfl rfl ?_
  refine y_getX 5 (m 2 2) c49_2 rfl kf2_2 rfl ?_
  have tb718 := hT.atp 2 2 0 320 rfl
  refine y_iconst 6 c49_5 rfl ?_
  refine y_iadd 7 c49_6 rfl ?_
  refine y_putI 10 c49_7 rfl kf2_2 (y_fit0 _) ?_
  have hT719 := hT.up 2 2 ((m 2 2) + 1) 0 320 rfl (by omega)
  have hF720 := hF.up 2 2 ((m 2 2) + 1) rfl
  refine y_aload 11 c49_10 rfl rfl rfl ?_
  have es721 : (yup m 2 2 ((m 2 2) + 1)) 2 2 = (m 2 2) + 1 := rfl
  refine y_callP 14 [.ref 2] [] c49_11 rfl rfl rfl rfl rfl (ycanO km38 ko2) (t38 hT719 he (by have e1 : (yup m 2 2 ((m 2 2) + 1)) 5 e.toNat = m 5 e.toNat := (yup_na (by decide)); omega) (by omega)) (fun r722 hr722 => ?_)
  refine y_iconst 16 c49_14 rfl ?_
  refine y_icmp 33 19 c49_16 rfl rfl (yc_ne (by omega) (by omega)) (fun hb723 => ?_) (fun hb723 => ?_)
  · refine y_aload 34 c49_33 rfl rfl rfl ?_
    have es725 : (yup m 2 2 ((m 2 2) + 1)) 2 2 = (m 2 2) + 1 := rfl
    refine y_callIB 37 [.ref 2] [] c49_34 rfl rfl rfl rfl rfl (ycanO km43 ko2) (t43 hT719) (fun rq724 mq724 nq724 hq724 => ?_)
    obtain ⟨rfl, hTq724, hFq724, hq724⟩ := hq724
    have hF726 := hF720.tr hFq724 wFa_wFd316
    have es727 : mq724 2 2 = (m 2 2) + 1 := ((hFq724 2 2 rfl).trans (yup_eq _ _ _ _))
    exact y_retI c49_37 (y_fit1 (by omega)) ⟨rfl, hTq724, hF726, by omega⟩
  · refine y_aload 20 c49_19 rfl rfl rfl ?_
    refine y_getS 23 (B := 316) c49_20 rfl kf2_1 (by rw [show (yup m 2 2 ((m 2 2) + 1)) 2 1 = 1 from by have e : (yup m 2 2 ((m 2 2) + 1)) 2 1 = m 2 1 := rfl; omega]; rfl) ?_
    refine y_aload 24 c49_23 rfl rfl rfl ?_
    refine y_callP 27 [.ref 2] [.ref 316] c49_24 rfl rfl rfl rfl rfl (ycanO km39 ko2) (t39 hT719) (fun r728 hr728 => ?_)
    have es730 : (yup m 2 2 ((m 2 2) + 1)) 316 9 = m 316 9 := rfl
    have tb731 := hT.atp 316 9 0 6 rfl
    refine y_callIB 30 [.ref 316, yI r728] [] c49_27 rfl rfl rfl rfl rfl (ycanO km48 ko316) (t48_316 hT719 (by omega) (by omega)) (fun rq729 mq729 nq729 hq729 => ?_)
    obtain ⟨rfl, hTq729, hFq729, hq729⟩ := hq729
    have hF732 := hF720.tr hFq729 wFi316_wFd316
    refine y_if 38 33 c49_30 rfl rfl (yz_ne (by omega)) (fun hb733 => ?_) (fun hb733 => ?_)
    · refine y_aload 39 c49_38 rfl rfl rfl ?_
      refine y_dup 40 c49_39 rfl rfl ?_
      refine y_getX 43 ((m 2 2) + 1) c49_40 rfl kf2_2 ((hFq729 2 2 rfl).trans (yup_eq _ _ _ _)) ?_
      refine y_iconst 44 c49_43 rfl ?_
      refine y_iadd 45 c49_44 rfl ?_
      refine y_putI 48 c49_45 rfl kf2_2 (y_fit0 _) ?_
      have hT734 := hTq729.up 2 2 (((m 2 2) + 1) + 1) 0 320 rfl (by omega)
      have hF735 := hF732.up 2 2 (((m 2 2) + 1) + 1) rfl
      refine y_aload 49 c49_48 rfl rfl rfl ?_
      refine y_iconst 51 c49_49 rfl ?_
      have es737 : (yup mq729 2 2 (((m 2 2) + 1) + 1)) 2 2 = ((m 2 2) + 1) + 1 := rfl
      refine y_callIB 54 [.ref 2, yI 59] [] c49_51 rfl rfl rfl rfl rfl (ycanO km37 ko2) (t37 hT734 he (by have e1 : (yup mq729 2 2 (((m 2 2) + 1) + 1)) 5 e.toNat = m 5 e.toNat := ((yup_na (by decide)).trans ((hFq729 5 e.toNat rfl).trans (yup_na (by decide)))); omega) (by omega) (by omega)) (fun rq736 mq736 nq736 hq736 => ?_)
      obtain ⟨rfl, hTq736, hFq736, hq736⟩ := hq736
      have hF738 := hF735.tr hFq736 wAt_wFd316
      have tb739 := hTq736.atp 2 2 0 320 rfl
      exact y_retI c49_54 (y_fit1 (by omega)) ⟨rfl, hTq736, hF738, by omega⟩
    · refine y_aload 34 c49_33 rfl rfl rfl ?_
      have es741 : mq729 2 2 = (m 2 2) + 1 := ((hFq729 2 2 rfl).trans (yup_eq _ _ _ _))
      refine y_callIB 37 [.ref 2] [] c49_34 rfl rfl rfl rfl rfl (ycanO km43 ko2) (t43 hTq729) (fun rq740 mq740 nq740 hq740 => ?_)
      obtain ⟨rfl, hTq740, hFq740, hq740⟩ := hq740
      have hF742 := hF732.tr hFq740 wFa_wFd316
      have es743 : mq740 2 2 = (m 2 2) + 1 := ((hFq740 2 2 rfl).trans ((hFq729 2 2 rfl).trans (yup_eq _ _ _ _)))
      exact y_retI c49_37 (y_fit1 (by omega)) ⟨rfl, hTq740, hF742, by omega⟩
set_option maxRecDepth 100000 in
theorem t71_316 {L : Nat} {xs : Nat → Int32} {d nn : Nat} {m : yM} {e : Int} (hT : Ty gT m) (he : 0 ≤ e ∧ e ≤ 320) (hE : m 5 e.toNat = 0) (ha : m 2 2 ≤ e) (hp : m 2 1 = 1) (hc : 1 ≤ m 316 9) (hlt : m 2 2 < e) : YC (gZ L xs) (d + 4) 71 [.ref 2] m nn (qI (fun r m' n' => n' = nn ∧ Ty gT m' ∧ Fr wHd316 m m' ∧ (r = 0 ∨ r = 1) ∧ m' 2 2 ≤ e ∧ 1 ≤ m' 316 9)) := by
  refine YC.mkB [some (.ref 2)] kn71 rfl rfl ?_
  have hF : Fr wHd316 m m := Fr.rf
  refine y_aload 1 c71_0 rfl rfl rfl ?_
  refine y_dup 2 c71_1 rfl rfl ?_
  refine y_getX 5 (m 2 2) c71_2 rfl kf2_2 rfl ?_
  have tb744 := hT.atp 2 2 0 320 rfl
  refine y_iconst 6 c71_5 rfl ?_
  refine y_iadd 7 c71_6 rfl ?_
  refine y_putI 10 c71_7 rfl kf2_2 (y_fit0 _) ?_
  have hT745 := hT.up 2 2 ((m 2 2) + 1) 0 320 rfl (by omega)
  have hF746 := hF.up 2 2 ((m 2 2) + 1) rfl
  refine y_aload 11 c71_10 rfl rfl rfl ?_
  refine y_aload 12 c71_11 rfl rfl rfl ?_
  have es747 : (yup m 2 2 ((m 2 2) + 1)) 2 2 = (m 2 2) + 1 := rfl
  refine y_callP 15 [.ref 2] [.ref 2] c71_12 rfl rfl rfl rfl rfl (ycanO km38 ko2) (t38 hT745 he (by have e1 : (yup m 2 2 ((m 2 2) + 1)) 5 e.toNat = m 5 e.toNat := (yup_na (by decide)); omega) (by omega)) (fun r748 hr748 => ?_)
  refine y_if 22 18 c71_15 rfl rfl (yz_ne (by omega)) (fun hb749 => ?_) (fun hb749 => ?_)
  · refine y_iconst 23 c71_22 rfl ?_
    refine y_putI 26 c71_23 rfl kf2_3 (y_fit1 (by omega)) ?_
    have hT750 := hT745.up 2 3 0 0 1 rfl (by omega)
    have hF751 := hF746.up 2 3 0 rfl
    refine y_aload 27 c71_26 rfl rfl rfl ?_
    refine y_getX 30 0 c71_27 rfl kf2_3 rfl ?_
    refine y_if 40 33 c71_30 rfl rfl (yz_ne (by omega)) (fun hb752 => ?_) (fun hb752 => ?_)
    · exfalso; omega
    · refine y_aload 34 c71_33 rfl rfl rfl ?_
      have es754 : (yup (yup m 2 2 ((m 2 2) + 1)) 2 3 0) 2 2 = (m 2 2) + 1 := rfl
      have es755 : (yup (yup m 2 2 ((m 2 2) + 1)) 2 3 0) 316 9 = m 316 9 := rfl
      have tb756 := hT.atp 316 9 0 6 rfl
      have es757 : (yup (yup m 2 2 ((m 2 2) + 1)) 2 3 0) 2 1 = m 2 1 := rfl
      have tb758 := hT.atp 2 1 ((-1)) 1 rfl
      have es759 : (yup (yup m 2 2 ((m 2 2) + 1)) 2 3 0) 2 3 = 0 := rfl
      refine y_callIB 37 [.ref 2] [] c71_34 rfl rfl rfl rfl rfl (ycanO km45 ko2) (t45_316 hT750 he (by have e1 : (yup (yup m 2 2 ((m 2 2) + 1)) 2 3 0) 5 e.toNat = m 5 e.toNat := ((yup_na (by decide)).trans (yup_na (by decide))); omega) (by omega) (by omega)) (fun rq753 mq753 nq753 hq753 => ?_)
      obtain ⟨rfl, hTq753, hFq753, hq753⟩ := hq753
      have hF760 := hF751.tr hFq753 (fun _ _ e => e)
      refine y_if 44 40 c71_37 rfl rfl (yz_eq (by omega)) (fun hb761 => ?_) (fun hb761 => ?_)
      · refine y_iconst 45 c71_44 rfl ?_
        have tb762 := hTq753.atp 2 2 0 320 rfl
        have tb763 := hTq753.atp 316 9 0 6 rfl
        exact y_retI c71_45 (y_fit1 (by omega)) ⟨rfl, hTq753, hF760, by omega⟩
      · refine y_iconst 41 c71_40 rfl ?_
        refine y_goto 45 c71_41 rfl ?_
        have tb764 := hTq753.atp 2 2 0 320 rfl
        have tb765 := hTq753.atp 316 9 0 6 rfl
        exact y_retI c71_45 (y_fit1 (by omega)) ⟨rfl, hTq753, hF760, by omega⟩
  · refine y_iconst 19 c71_18 rfl ?_
    refine y_goto 23 c71_19 rfl ?_
    refine y_putI 26 c71_23 rfl kf2_3 (y_fit1 (by omega)) ?_
    have hT766 := hT745.up 2 3 1 0 1 rfl (by omega)
    have hF767 := hF746.up 2 3 1 rfl
    refine y_aload 27 c71_26 rfl rfl rfl ?_
    refine y_getX 30 1 c71_27 rfl kf2_3 rfl ?_
    refine y_if 40 33 c71_30 rfl rfl (yz_ne (by omega)) (fun hb768 => ?_) (fun hb768 => ?_)
    · refine y_iconst 41 c71_40 rfl ?_
      refine y_goto 45 c71_41 rfl ?_
      have es769 : (yup (yup m 2 2 ((m 2 2) + 1)) 2 3 1) 2 2 = (m 2 2) + 1 := rfl
      have es770 : (yup (yup m 2 2 ((m 2 2) + 1)) 2 3 1) 316 9 = m 316 9 := rfl
      have tb771 := hT.atp 316 9 0 6 rfl
      exact y_retI c71_45 (y_fit1 (by omega)) ⟨rfl, hT766, hF767, by omega⟩
    · exfalso; omega
set_option maxRecDepth 100000 in
theorem t58_316 {L : Nat} {xs : Nat → Int32} {d nn : Nat} {m : yM} {e : Int} (hT : Ty gT m) (he : 0 ≤ e ∧ e ≤ 320) (hE : m 5 e.toNat = 0) (ha : m 2 2 ≤ e) (hp : m 2 1 = 1) (hm : 1 ≤ m 316 10) : YC (gZ L xs) (d + 1) 58 [.ref 2] m nn (qI (fun r m' n' => n' = nn ∧ Ty gT m' ∧ Fr wVr316 m m' ∧ -1 ≤ r ∧ r ≤ 47 ∧ m' 2 2 ≤ e ∧ m 316 15 ≤ m' 316 15)) := by
  have tb15 := hT.atp 316 15 0 48 rfl
  have tb2 := hT.atp 2 2 0 320 rfl
  refine YC.mkB [some (.ref 2), none] kn58 rfl rfl ?_
  have hF : Fr wVr316 m m := Fr.rf
  refine y_iconst 1 c58_0 rfl ?_
  refine y_istore 2 c58_1 rfl rfl ?_
  refine y_aload 3 c58_2 rfl rfl rfl ?_
  have tb772 := hT.atp 2 2 0 320 rfl
  refine y_callP 6 [.ref 2] [] c58_3 rfl rfl rfl rfl rfl (ycanO km38 ko2) (t38 hT he hE (by omega)) (fun r773 hr773 => ?_)
  refine y_iconst 8 c58_6 rfl ?_
  refine y_icmp 35 11 c58_8 rfl rfl (yc_ne (by omega) (by omega)) (fun hb774 => ?_) (fun hb774 => ?_)
  · refine y_aload 36 c58_35 rfl rfl rfl ?_
    refine y_callP 39 [.ref 2] [] c58_36 rfl rfl rfl rfl rfl (ycanO km38 ko2) (t38 hT he hE (by omega)) (fun r775 hr775 => ?_)
    refine y_iconst 41 c58_39 rfl ?_
    refine y_icmp 56 44 c58_41 rfl rfl (yc_ne (by omega) (by omega)) (fun hb776 => ?_) (fun hb776 => ?_)
    · refine y_iload 57 c58_56 rfl rfl ?_
      refine y_iconst 58 c58_57 rfl ?_
      refine y_icmp 69 61 c58_58 rfl rfl (yc_ne (by omega) (by omega)) (fun hb777 => ?_) (fun hb777 => ?_)
      · exfalso; omega
      · refine y_aload 62 c58_61 rfl rfl rfl ?_
        refine y_callIB 65 [.ref 2] [] c58_62 rfl rfl rfl rfl rfl (ycanO km43 ko2) (t43 hT) (fun rq778 mq778 nq778 hq778 => ?_)
        obtain ⟨rfl, hTq778, hFq778, hq778⟩ := hq778
        have hF779 := hF.tr hFq778 wFa_wVr316
        refine y_pop 66 c58_65 rfl rfl ?_
        refine y_goto 79 c58_66 rfl ?_
        refine y_iload 80 c58_79 rfl rfl ?_
        have es780 : mq778 2 2 = m 2 2 := (hFq778 2 2 rfl)
        have es781 : mq778 316 15 = m 316 15 := (hFq778 316 15 rfl)
        have tb782 := hT.atp 316 15 0 48 rfl
        exact y_retI c58_80 (y_fit0 _) ⟨rfl, hTq778, hF779, by omega⟩
    · refine y_aload 45 c58_44 rfl rfl rfl ?_
      refine y_getS 48 (B := 316) c58_45 rfl kf2_1 (by rw [show m 2 1 = 1 from by have e : m 2 1 = m 2 1 := rfl; omega]; rfl) ?_
      refine y_aload 49 c58_48 rfl rfl rfl ?_
      refine y_callP 52 [.ref 2] [.ref 316] c58_49 rfl rfl rfl rfl rfl (ycanO km39 ko2) (t39 hT) (fun r783 hr783 => ?_)
      have tb785 := hT.atp 316 10 0 10 rfl
      have tb786 := hT.atp 316 15 0 48 rfl
      refine y_callIB 55 [.ref 316, yI r783] [] c58_52 rfl rfl rfl rfl rfl (ycanO km52 ko316) (t52_316 hT (by omega) (by omega)) (fun rq784 mq784 nq784 hq784 => ?_)
      obtain ⟨rfl, hTq784, hFq784, hq784⟩ := hq784
      have hF787 := hF.tr hFq784 wVa316_wVr316
      refine y_istore 56 c58_55 rfl rfl ?_
      refine y_iload 57 c58_56 rfl rfl ?_
      refine y_iconst 58 c58_57 rfl ?_
      refine y_icmp 69 61 c58_58 rfl rfl (yc_ne (by omega) (by omega)) (fun hb788 => ?_) (fun hb788 => ?_)
      · refine y_aload 70 c58_69 rfl rfl rfl ?_
        refine y_dup 71 c58_70 rfl rfl ?_
        refine y_getX 74 (m 2 2) c58_71 rfl kf2_2 (hFq784 2 2 rfl) ?_
        refine y_iconst 75 c58_74 rfl ?_
        refine y_iadd 76 c58_75 rfl ?_
        refine y_putI 79 c58_76 rfl kf2_2 (y_fit0 _) ?_
        have hT789 := hTq784.up 2 2 ((m 2 2) + 1) 0 320 rfl (by omega)
        have hF790 := hF787.up 2 2 ((m 2 2) + 1) rfl
        refine y_iload 80 c58_79 rfl rfl ?_
        have es791 : (yup mq784 2 2 ((m 2 2) + 1)) 2 2 = (m 2 2) + 1 := rfl
        have es792 : (yup mq784 2 2 ((m 2 2) + 1)) 316 15 = mq784 316 15 := rfl
        have tb793 := hTq784.atp 316 15 0 48 rfl
        exact y_retI c58_80 (y_fit0 _) ⟨rfl, hT789, hF790, by omega⟩
      · refine y_aload 62 c58_61 rfl rfl rfl ?_
        have es795 : mq784 2 2 = m 2 2 := (hFq784 2 2 rfl)
        refine y_callIB 65 [.ref 2] [] c58_62 rfl rfl rfl rfl rfl (ycanO km43 ko2) (t43 hTq784) (fun rq794 mq794 nq794 hq794 => ?_)
        obtain ⟨rfl, hTq794, hFq794, hq794⟩ := hq794
        have hF796 := hF787.tr hFq794 wFa_wVr316
        refine y_pop 66 c58_65 rfl rfl ?_
        refine y_goto 79 c58_66 rfl ?_
        refine y_iload 80 c58_79 rfl rfl ?_
        have es797 : mq794 2 2 = m 2 2 := ((hFq794 2 2 rfl).trans (hFq784 2 2 rfl))
        have es798 : mq794 316 15 = mq784 316 15 := (hFq794 316 15 rfl)
        have tb799 := hTq784.atp 316 15 0 48 rfl
        exact y_retI c58_80 (y_fit0 _) ⟨rfl, hTq794, hF796, by omega⟩
  · refine y_aload 12 c58_11 rfl rfl rfl ?_
    refine y_getS 15 (B := 316) c58_12 rfl kf2_1 (by rw [show m 2 1 = 1 from by have e : m 2 1 = m 2 1 := rfl; omega]; rfl) ?_
    refine y_getR 18 c58_15 rfl kf316_5 ?_
    refine y_aload 19 c58_18 rfl rfl rfl ?_
    refine y_getS 22 (B := 316) c58_19 rfl kf2_1 (by rw [show m 2 1 = 1 from by have e : m 2 1 = m 2 1 := rfl; omega]; rfl) ?_
    refine y_getX 25 (m 316 10) c58_22 rfl kf316_10 rfl ?_
    have tb800 := hT.atp 316 10 0 10 rfl
    refine y_iconst 26 c58_25 rfl ?_
    refine y_isub 27 c58_26 rfl ?_
    refine y_aaload 28 c58_27 rfl kr322 (by omega) ?_
    refine y_callP 31 [.ref (326 + ((m 316 10) - 1).toNat)] [] c58_28 rfl rfl rfl rfl rfl (ycanO km57 (fo326 (by omega))) (t57_316 hT (by omega)) (fun r801 hr801 => ?_)
    refine y_istore 32 c58_31 rfl rfl ?_
    refine y_goto 56 c58_32 rfl ?_
    refine y_iload 57 c58_56 rfl rfl ?_
    refine y_iconst 58 c58_57 rfl ?_
    refine y_icmp 69 61 c58_58 rfl rfl (yc_ne (by omega) (by omega)) (fun hb802 => ?_) (fun hb802 => ?_)
    · refine y_aload 70 c58_69 rfl rfl rfl ?_
      refine y_dup 71 c58_70 rfl rfl ?_
      refine y_getX 74 (m 2 2) c58_71 rfl kf2_2 rfl ?_
      refine y_iconst 75 c58_74 rfl ?_
      refine y_iadd 76 c58_75 rfl ?_
      refine y_putI 79 c58_76 rfl kf2_2 (y_fit0 _) ?_
      have hT803 := hT.up 2 2 ((m 2 2) + 1) 0 320 rfl (by omega)
      have hF804 := hF.up 2 2 ((m 2 2) + 1) rfl
      refine y_iload 80 c58_79 rfl rfl ?_
      have es805 : (yup m 2 2 ((m 2 2) + 1)) 2 2 = (m 2 2) + 1 := rfl
      have es806 : (yup m 2 2 ((m 2 2) + 1)) 316 15 = m 316 15 := rfl
      have tb807 := hT.atp 316 15 0 48 rfl
      exact y_retI c58_80 (y_fit0 _) ⟨rfl, hT803, hF804, by omega⟩
    · exfalso; omega
end
