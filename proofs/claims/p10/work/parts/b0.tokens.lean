/-! CONTRACTS: printed by wip/whole/gen80.py and on -/
set_option maxRecDepth 100000 in
theorem t7 {L : Nat} {xs : Nat → Int32} {d nn : Nat} {m : yM} {k c : Int} : YC (gZ L xs) d 7 [yI k, yI c] m nn (qP m nn (fun r => -2147483648 ≤ r ∧ r < 2147483648)) := by
  refine YC.mkB [some (yI k), some (yI c)] kn7 rfl rfl ?_
  refine y_iload 1 c7_0 rfl rfl ?_
  refine y_iconst 3 c7_1 rfl ?_
  refine y_imul 4 c7_3 rfl ?_
  refine y_iload 5 c7_4 rfl rfl ?_
  refine y_iconst 7 c7_5 rfl ?_
  refine y_isub 8 c7_7 rfl ?_
  refine y_iconst 9 c7_8 rfl ?_
  refine y_iadd 10 c7_9 rfl ?_
  refine y_iadd 11 c7_10 rfl ?_
  refine y_wrap (fun z1 hz1 gz1 => ?_)
  exact y_retP c7_11 (y_fit0 _) gz1
set_option maxRecDepth 100000 in
theorem t31 {L : Nat} {xs : Nat → Int32} {d nn : Nat} {m : yM} {c : Int} (hc : 0 ≤ c ∧ c ≤ 65535) : YC (gZ L xs) d 31 [yI c] m nn (qP m nn (fun r => (r = 1 ∧ 97 ≤ c ∧ c ≤ 122) ∨ (r = 0 ∧ ¬ (97 ≤ c ∧ c ≤ 122)))) := by
  refine YC.mkB [some (yI c)] kn31 rfl rfl ?_
  refine y_iload 1 c31_0 rfl rfl ?_
  refine y_iconst 3 c31_1 rfl ?_
  refine y_icmp 16 6 c31_3 rfl rfl (yc_lt (by omega) (by omega)) (fun hb2 => ?_) (fun hb2 => ?_)
  · refine y_iconst 17 c31_16 rfl ?_
    exact y_retP c31_17 (y_fit1 (by omega)) (by omega)
  · refine y_iload 7 c31_6 rfl rfl ?_
    refine y_iconst 9 c31_7 rfl ?_
    refine y_icmp 16 12 c31_9 rfl rfl (yc_gt (by omega) (by omega)) (fun hb3 => ?_) (fun hb3 => ?_)
    · refine y_iconst 17 c31_16 rfl ?_
      exact y_retP c31_17 (y_fit1 (by omega)) (by omega)
    · refine y_iconst 13 c31_12 rfl ?_
      refine y_goto 17 c31_13 rfl ?_
      exact y_retP c31_17 (y_fit1 (by omega)) (by omega)
set_option maxRecDepth 100000 in
theorem t34 {L : Nat} {xs : Nat → Int32} {d nn : Nat} {m : yM} {c : Int} (hc : 0 ≤ c ∧ c ≤ 65535) : YC (gZ L xs) d 34 [yI c] m nn (qP m nn (fun r => r = 0 ∨ r = 1)) := by
  refine YC.mkB [some (yI c)] kn34 rfl rfl ?_
  refine y_iload 1 c34_0 rfl rfl ?_
  refine y_iconst 3 c34_1 rfl ?_
  refine y_icmp 54 6 c34_3 rfl rfl (yc_eq (by omega) (by omega)) (fun hb4 => ?_) (fun hb4 => ?_)
  · refine y_iconst 55 c34_54 rfl ?_
    refine y_goto 59 c34_55 rfl ?_
    exact y_retP c34_59 (y_fit1 (by omega)) (by omega)
  · refine y_iload 7 c34_6 rfl rfl ?_
    refine y_iconst 9 c34_7 rfl ?_
    refine y_icmp 54 12 c34_9 rfl rfl (yc_eq (by omega) (by omega)) (fun hb5 => ?_) (fun hb5 => ?_)
    · refine y_iconst 55 c34_54 rfl ?_
      refine y_goto 59 c34_55 rfl ?_
      exact y_retP c34_59 (y_fit1 (by omega)) (by omega)
    · refine y_iload 13 c34_12 rfl rfl ?_
      refine y_iconst 15 c34_13 rfl ?_
      refine y_icmp 54 18 c34_15 rfl rfl (yc_eq (by omega) (by omega)) (fun hb6 => ?_) (fun hb6 => ?_)
      · refine y_iconst 55 c34_54 rfl ?_
        refine y_goto 59 c34_55 rfl ?_
        exact y_retP c34_59 (y_fit1 (by omega)) (by omega)
      · refine y_iload 19 c34_18 rfl rfl ?_
        refine y_iconst 21 c34_19 rfl ?_
        refine y_icmp 54 24 c34_21 rfl rfl (yc_eq (by omega) (by omega)) (fun hb7 => ?_) (fun hb7 => ?_)
        · refine y_iconst 55 c34_54 rfl ?_
          refine y_goto 59 c34_55 rfl ?_
          exact y_retP c34_59 (y_fit1 (by omega)) (by omega)
        · refine y_iload 25 c34_24 rfl rfl ?_
          refine y_iconst 27 c34_25 rfl ?_
          refine y_icmp 54 30 c34_27 rfl rfl (yc_eq (by omega) (by omega)) (fun hb8 => ?_) (fun hb8 => ?_)
          · refine y_iconst 55 c34_54 rfl ?_
            refine y_goto 59 c34_55 rfl ?_
            exact y_retP c34_59 (y_fit1 (by omega)) (by omega)
          · refine y_iload 31 c34_30 rfl rfl ?_
            refine y_iconst 33 c34_31 rfl ?_
            refine y_icmp 54 36 c34_33 rfl rfl (yc_eq (by omega) (by omega)) (fun hb9 => ?_) (fun hb9 => ?_)
            · refine y_iconst 55 c34_54 rfl ?_
              refine y_goto 59 c34_55 rfl ?_
              exact y_retP c34_59 (y_fit1 (by omega)) (by omega)
            · refine y_iload 37 c34_36 rfl rfl ?_
              refine y_iconst 39 c34_37 rfl ?_
              refine y_icmp 54 42 c34_39 rfl rfl (yc_eq (by omega) (by omega)) (fun hb10 => ?_) (fun hb10 => ?_)
              · refine y_iconst 55 c34_54 rfl ?_
                refine y_goto 59 c34_55 rfl ?_
                exact y_retP c34_59 (y_fit1 (by omega)) (by omega)
              · refine y_iload 43 c34_42 rfl rfl ?_
                refine y_iconst 45 c34_43 rfl ?_
                refine y_icmp 54 48 c34_45 rfl rfl (yc_eq (by omega) (by omega)) (fun hb11 => ?_) (fun hb11 => ?_)
                · refine y_iconst 55 c34_54 rfl ?_
                  refine y_goto 59 c34_55 rfl ?_
                  exact y_retP c34_59 (y_fit1 (by omega)) (by omega)
                · refine y_iload 49 c34_48 rfl rfl ?_
                  refine y_iconst 51 c34_49 rfl ?_
                  refine y_icmp 58 54 c34_51 rfl rfl (yc_ne (by omega) (by omega)) (fun hb12 => ?_) (fun hb12 => ?_)
                  · refine y_iconst 59 c34_58 rfl ?_
                    exact y_retP c34_59 (y_fit1 (by omega)) (by omega)
                  · refine y_iconst 55 c34_54 rfl ?_
                    refine y_goto 59 c34_55 rfl ?_
                    exact y_retP c34_59 (y_fit1 (by omega)) (by omega)
def wTok (a _q : Nat) : Bool := a == 3 || a == 5 || a == 6 || a == 7
set_option maxRecDepth 100000 in
theorem t32 {L : Nat} {xs : Nat → Int32} {d nn : Nat} {m : yM} {k p : Int} (hT : Ty gT m) (hs : m 3 4 ≤ 320) (hk : -2147483648 ≤ k ∧ k < 2147483648) (hp : 0 ≤ p ∧ p ≤ 320) : YC (gZ L xs) d 32 [.ref 3, yI k, yI p] m nn (qU (fun m' n' => n' = nn ∧ m' = yup (yup (yup (yup m 5 (m 3 4).toNat k) 6 (m 3 4).toNat p) 7 (m 3 4).toNat 0) 3 4 (m 3 4 + 1))) := by
  refine YC.mkB [some (.ref 3), some (yI k), some (yI p)] kn32 rfl rfl ?_
  refine y_aload 1 c32_0 rfl rfl rfl ?_
  refine y_getR 4 c32_1 rfl kf3_1 ?_
  refine y_aload 5 c32_4 rfl rfl rfl ?_
  refine y_getX 8 (m 3 4) c32_5 rfl kf3_4 rfl ?_
  have tb13 := hT.atp 3 4 0 321 rfl
  refine y_iload 9 c32_8 rfl rfl ?_
  refine y_iastore 10 c32_9 rfl ka5 (by omega) (y_nar0 _) ?_
  have hT14 := hT.up 5 ((m 3 4).toNat) k ((-2147483648)) 2147483647 rfl (by omega)
  refine y_aload 11 c32_10 rfl rfl rfl ?_
  refine y_getR 14 c32_11 rfl kf3_2 ?_
  refine y_aload 15 c32_14 rfl rfl rfl ?_
  refine y_getX 18 (m 3 4) c32_15 rfl kf3_4 rfl ?_
  refine y_iload 19 c32_18 rfl rfl ?_
  refine y_iastore 20 c32_19 rfl ka6 (by omega) (y_nar0 _) ?_
  have hT16 := hT14.up 6 ((m 3 4).toNat) p 0 320 rfl (by omega)
  refine y_aload 21 c32_20 rfl rfl rfl ?_
  refine y_getR 24 c32_21 rfl kf3_3 ?_
  refine y_aload 25 c32_24 rfl rfl rfl ?_
  refine y_getX 28 (m 3 4) c32_25 rfl kf3_4 rfl ?_
  refine y_iconst 29 c32_28 rfl ?_
  refine y_iastore 30 c32_29 rfl ka7 (by omega) (y_nar0 _) ?_
  have hT18 := hT16.up 7 ((m 3 4).toNat) 0 ((-2147483648)) 2147483647 rfl (by omega)
  refine y_aload 31 c32_30 rfl rfl rfl ?_
  refine y_dup 32 c32_31 rfl rfl ?_
  refine y_getX 35 (m 3 4) c32_32 rfl kf3_4 rfl ?_
  refine y_iconst 36 c32_35 rfl ?_
  refine y_iadd 37 c32_36 rfl ?_
  refine y_putI 40 c32_37 rfl kf3_4 (y_fit0 _) ?_
  have hT20 := hT18.up 3 4 ((m 3 4) + 1) 0 321 rfl (by omega)
  exact y_retU c32_40 ⟨rfl, rfl⟩
set_option maxRecDepth 100000 in
theorem t33 {L : Nat} {xs : Nat → Int32} {d nn : Nat} {m : yM} {c p l : Int} (hT : Ty gT m) (hc : 0 ≤ c ∧ c ≤ 65535) (hp : 0 ≤ p ∧ p ≤ 320) (hl : 1 ≤ l ∧ l ≤ 400) (h1 : l = 1 → m 3 4 ≤ 320) (h2 : l ≠ 1 → 1 ≤ m 3 4) : YC (gZ L xs) (d + 1) 33 [.ref 3, yI c, yI p, yI l] m nn (qU (fun m' n' => n' = nn ∧ Ty gT m' ∧ Fr wTok m m' ∧ ((l = 1 ∧ m' 3 4 = m 3 4 + 1) ∨ (l ≠ 1 ∧ m' 3 4 = m 3 4)))) := by
  refine YC.mkB [some (.ref 3), some (yI c), some (yI p), some (yI l), none] kn33 rfl rfl ?_
  have hF : Fr wTok m m := Fr.rf
  refine y_iload 1 c33_0 rfl rfl ?_
  refine y_iconst 2 c33_1 rfl ?_
  refine y_icmp 12 5 c33_2 rfl rfl (yc_ne (by omega) (by omega)) (fun hb22 => ?_) (fun hb22 => ?_)
  · refine y_aload 13 c33_12 rfl rfl rfl ?_
    refine y_getX 16 (m 3 4) c33_13 rfl kf3_4 rfl ?_
    have tb23 := hT.atp 3 4 0 321 rfl
    refine y_iconst 17 c33_16 rfl ?_
    refine y_isub 18 c33_17 rfl ?_
    refine y_istore 20 c33_18 rfl rfl ?_
    refine y_aload 21 c33_20 rfl rfl rfl ?_
    refine y_getR 24 c33_21 rfl kf3_3 ?_
    refine y_iload 26 c33_24 rfl rfl ?_
    refine y_aload 27 c33_26 rfl rfl rfl ?_
    refine y_getR 30 c33_27 rfl kf3_3 ?_
    refine y_iload 32 c33_30 rfl rfl ?_
    refine y_iaT 33 ((-2147483648)) 2147483647 c33_32 rfl ka7 (by omega) hT rfl (fun v24 hv24 gv24 => ?_)
    refine y_iload 34 c33_33 rfl rfl ?_
    refine y_callP 37 [yI v24, yI c] [yI ((m 3 4) - 1), .ref 7] c33_34 rfl rfl rfl rfl rfl (ycanS km7) t7 (fun r25 hr25 => ?_)
    refine y_iastore 38 c33_37 rfl ka7 (by omega) (y_nar0 _) ?_
    have hT26 := hT.up 7 (((m 3 4) - 1).toNat) r25 ((-2147483648)) 2147483647 rfl (by omega)
    have hF27 := hF.up 7 (((m 3 4) - 1).toNat) r25 rfl
    refine y_iload 39 c33_38 rfl rfl ?_
    refine y_iconst 41 c33_39 rfl ?_
    refine y_icmp 53 44 c33_41 rfl rfl (yc_le (by omega) (by omega)) (fun hb28 => ?_) (fun hb28 => ?_)
    · have es : (yup m 7 (((m 3 4) - 1).toNat) r25) 3 4 = m 3 4 := rfl
      exact y_retU c33_53 ⟨rfl, hT26, hF27, by omega⟩
    · refine y_aload 45 c33_44 rfl rfl rfl ?_
      refine y_getR 48 c33_45 rfl kf3_1 ?_
      refine y_iload 50 c33_48 rfl rfl ?_
      refine y_iconst 52 c33_50 rfl ?_
      refine y_iastore 53 c33_52 rfl ka5 (by omega) (y_nar0 _) ?_
      have hT29 := hT26.up 5 (((m 3 4) - 1).toNat) 12 ((-2147483648)) 2147483647 rfl (by omega)
      have hF30 := hF27.up 5 (((m 3 4) - 1).toNat) 12 rfl
      have es : (yup (yup m 7 (((m 3 4) - 1).toNat) r25) 5 (((m 3 4) - 1).toNat) 12) 3 4 = m 3 4 := rfl
      exact y_retU c33_53 ⟨rfl, hT29, hF30, by omega⟩
  · refine y_aload 6 c33_5 rfl rfl rfl ?_
    refine y_iconst 8 c33_6 rfl ?_
    refine y_iload 9 c33_8 rfl rfl ?_
    have eq31 : m 3 4 = m 3 4 := rfl
    have tb32 := hT.atp 3 4 0 321 rfl
    refine y_callUB 12 [.ref 3, yI 11, yI p] [] c33_9 rfl rfl rfl rfl rfl (ycanO km32 ko3) (t32 hT (by omega) (by omega) (by omega)) (fun mq31 nq31 hq31 => ?_)
    obtain ⟨rfl, rfl⟩ := hq31
    have hT33 := hT.up 5 ((m 3 4).toNat) 11 ((-2147483648)) 2147483647 rfl (by omega)
    have hF34 := hF.up 5 ((m 3 4).toNat) 11 rfl
    have hT35 := hT33.up 6 ((m 3 4).toNat) p 0 320 rfl (by omega)
    have hF36 := hF34.up 6 ((m 3 4).toNat) p rfl
    have hT37 := hT35.up 7 ((m 3 4).toNat) 0 ((-2147483648)) 2147483647 rfl (by omega)
    have hF38 := hF36.up 7 ((m 3 4).toNat) 0 rfl
    have hT39 := hT37.up 3 4 ((m 3 4) + 1) 0 321 rfl (by omega)
    have hF40 := hF38.up 3 4 ((m 3 4) + 1) rfl
    refine y_aload 13 c33_12 rfl rfl rfl ?_
    refine y_getX 16 ((m 3 4) + 1) c33_13 rfl kf3_4 rfl ?_
    refine y_iconst 17 c33_16 rfl ?_
    refine y_isub 18 c33_17 rfl ?_
    refine y_istore 20 c33_18 rfl rfl ?_
    refine y_aload 21 c33_20 rfl rfl rfl ?_
    refine y_getR 24 c33_21 rfl kf3_3 ?_
    refine y_iload 26 c33_24 rfl rfl ?_
    refine y_aload 27 c33_26 rfl rfl rfl ?_
    refine y_getR 30 c33_27 rfl kf3_3 ?_
    refine y_iload 32 c33_30 rfl rfl ?_
    refine y_iaT 33 ((-2147483648)) 2147483647 c33_32 rfl ka7 (by omega) hT39 rfl (fun v41 hv41 gv41 => ?_)
    refine y_iload 34 c33_33 rfl rfl ?_
    refine y_callP 37 [yI v41, yI c] [yI (((m 3 4) + 1) - 1), .ref 7] c33_34 rfl rfl rfl rfl rfl (ycanS km7) t7 (fun r42 hr42 => ?_)
    refine y_iastore 38 c33_37 rfl ka7 (by omega) (y_nar0 _) ?_
    have hT43 := hT39.up 7 ((((m 3 4) + 1) - 1).toNat) r42 ((-2147483648)) 2147483647 rfl (by omega)
    have hF44 := hF40.up 7 ((((m 3 4) + 1) - 1).toNat) r42 rfl
    refine y_iload 39 c33_38 rfl rfl ?_
    refine y_iconst 41 c33_39 rfl ?_
    refine y_icmp 53 44 c33_41 rfl rfl (yc_le (by omega) (by omega)) (fun hb45 => ?_) (fun hb45 => ?_)
    · have es : (yup (yup (yup (yup (yup m 5 ((m 3 4).toNat) 11) 6 ((m 3 4).toNat) p) 7 ((m 3 4).toNat) 0) 3 4 ((m 3 4) + 1)) 7 ((((m 3 4) + 1) - 1).toNat) r42) 3 4 = (m 3 4) + 1 := rfl
      exact y_retU c33_53 ⟨rfl, hT43, hF44, by omega⟩
    · exfalso; omega
def wKin (a _q : Nat) : Bool := a == 5
set_option maxRecDepth 100000 in
theorem t35b {L : Nat} {xs : Nat → Int32} {d nn : Nat} {m : yM} (hT : Ty gT m) (i : Int) (hi : 0 ≤ i ∧ i < m 3 4) (ho : (∀ (mi : yM) (x2 : Option Value), Ty gT mi → Fr wKin m mi → (∀ z, m 5 z = 0 → mi 5 z = 0) → YW (gZ L xs) 35 d 2 [some (.ref 3), some (yI (i + 1)), x2] [] mi nn (qU (fun m' n' => n' = nn ∧ Ty gT m' ∧ Fr wKin m m' ∧ ∀ z, m 5 z = 0 → m' 5 z = 0)))) : ∀ (k : Nat) (j : Int) (mi : yM), 11 - j = k → 1 ≤ j ∧ j ≤ 11 → Ty gT mi → Fr wKin m mi → (∀ z, m 5 z = 0 → mi 5 z = 0) → YW (gZ L xs) 35 d 12 [some (.ref 3), some (yI i), some (yI j)] [] mi nn (qU (fun m' n' => n' = nn ∧ Ty gT m' ∧ Fr wKin m m' ∧ ∀ z, m 5 z = 0 → m' 5 z = 0)) := by
  intro k
  induction k using Nat.strongRecOn with
  | ind k ih =>
    intro j mi hk hj hTi hFi hz
    have tb := hT.atp 3 4 0 321 rfl
    refine y_iload 13 c35_12 rfl rfl ?_
    refine y_aload 14 c35_13 rfl rfl rfl ?_
    refine y_getR 17 c35_14 rfl kf3_0 ?_
    refine y_alen 18 c35_17 rfl ka4 ?_
    refine y_icmp 60 21 c35_18 rfl rfl (yc_ge (by omega) (by omega)) (fun hb46 => ?_) (fun hb46 => ?_)
    · refine y_iinc 63 c35_60 rfl rfl rfl ?_
      refine y_goto 2 c35_63 rfl ?_
      exact ho _ _ hTi hFi hz
    · refine y_aload 22 c35_21 rfl rfl rfl ?_
      refine y_getR 25 c35_22 rfl kf3_1 ?_
      refine y_iload 26 c35_25 rfl rfl ?_
      refine y_iaT 27 ((-2147483648)) 2147483647 c35_26 rfl ka5 (by omega) hTi rfl (fun v47 hv47 gv47 => ?_)
      refine y_iconst 29 c35_27 rfl ?_
      refine y_icmp 60 32 c35_29 rfl rfl (yc_ne (by omega) (by omega)) (fun hb48 => ?_) (fun hb48 => ?_)
      · refine y_iinc 63 c35_60 rfl rfl rfl ?_
        refine y_goto 2 c35_63 rfl ?_
        exact ho _ _ hTi hFi hz
      · refine y_aload 33 c35_32 rfl rfl rfl ?_
        refine y_getR 36 c35_33 rfl kf3_0 ?_
        refine y_iload 37 c35_36 rfl rfl ?_
        refine y_iaT 38 ((-2147483648)) 2147483647 c35_37 rfl ka4 (by omega) hTi rfl (fun v49 hv49 gv49 => ?_)
        refine y_aload 39 c35_38 rfl rfl rfl ?_
        refine y_getR 42 c35_39 rfl kf3_3 ?_
        refine y_iload 43 c35_42 rfl rfl ?_
        refine y_iaT 44 ((-2147483648)) 2147483647 c35_43 rfl ka7 (by omega) hTi rfl (fun v50 hv50 gv50 => ?_)
        refine y_icmp 54 47 c35_44 rfl rfl (yc_ne (by omega) (by omega)) (fun hb51 => ?_) (fun hb51 => ?_)
        · refine y_iinc 57 c35_54 rfl rfl rfl ?_
          refine y_goto 12 c35_57 rfl ?_
          exact ih (11 - (j + 1) : Int).toNat (by omega) (j + 1)  _ (by omega) (by omega) hTi hFi hz
        · refine y_aload 48 c35_47 rfl rfl rfl ?_
          refine y_getR 51 c35_48 rfl kf3_1 ?_
          refine y_iload 52 c35_51 rfl rfl ?_
          refine y_iload 53 c35_52 rfl rfl ?_
          refine y_iastore 54 c35_53 rfl ka5 (by omega) (y_nar0 _) ?_
          have hT52 := hTi.up 5 i.toNat j ((-2147483648)) 2147483647 rfl (by omega)
          have hF53 := hFi.up 5 i.toNat j rfl
          refine y_iinc 57 c35_54 rfl rfl rfl ?_
          refine y_goto 12 c35_57 rfl ?_
          exact ih (11 - (j + 1) : Int).toNat (by omega) (j + 1)  _ (by omega) (by omega) hT52 hF53 (fun z hz0 => by
          by_cases e : z = i.toNat
          · subst e
            have := hz _ hz0
            omega
          · rw [yup_nk e]; exact hz z hz0)
set_option maxRecDepth 100000 in
theorem t35a {L : Nat} {xs : Nat → Int32} {d nn : Nat} {m : yM} (hT : Ty gT m) : ∀ (k : Nat) (i : Int) (x2 : Option Value) (mi : yM), m 3 4 - i = k → 0 ≤ i ∧ i ≤ m 3 4 → Ty gT mi → Fr wKin m mi → (∀ z, m 5 z = 0 → mi 5 z = 0) → YW (gZ L xs) 35 d 2 [some (.ref 3), some (yI i), x2] [] mi nn (qU (fun m' n' => n' = nn ∧ Ty gT m' ∧ Fr wKin m m' ∧ ∀ z, m 5 z = 0 → m' 5 z = 0)) := by
  intro k
  induction k using Nat.strongRecOn with
  | ind k ih =>
    intro i x2 mi hk hi hTi hFi hz
    have tb := hT.atp 3 4 0 321 rfl
    refine y_iload 3 c35_2 rfl rfl ?_
    refine y_aload 4 c35_3 rfl rfl rfl ?_
    refine y_getX 7 (m 3 4) c35_4 rfl kf3_4 (hFi 3 4 rfl) ?_
    refine y_icmp 66 10 c35_7 rfl rfl (yc_ge (by omega) (by omega)) (fun hb54 => ?_) (fun hb54 => ?_)
    · exact y_retU c35_66 ⟨rfl, hTi, hFi, hz⟩
    · refine y_iconst 11 c35_10 rfl ?_
      refine y_istore 12 c35_11 rfl rfl ?_
      exact t35b hT i (by omega) (fun mj x3 h1 h2 h3 => ih (m 3 4 - (i + 1)).toNat (by omega) (i + 1) x3 mj (by omega) (by omega) h1 h2 h3) 10 1 mi (by omega) (by omega) hTi hFi hz
set_option maxRecDepth 100000 in
theorem t35 {L : Nat} {xs : Nat → Int32} {d nn : Nat} {m : yM} (hT : Ty gT m) : YC (gZ L xs) d 35 [.ref 3] m nn (qU (fun m' n' => n' = nn ∧ Ty gT m' ∧ Fr wKin m m' ∧ ∀ z, m 5 z = 0 → m' 5 z = 0)) := by
  refine YC.mkB [some (.ref 3), none, none] kn35 rfl rfl ?_
  refine y_iconst 1 c35_0 rfl ?_
  refine y_istore 2 c35_1 rfl rfl ?_
  have tb := hT.atp 3 4 0 321 rfl
  exact t35a hT (m 3 4 - 0).toNat 0 none m (by omega) (by omega) hT Fr.rf (fun z h => h)
theorem wKin_Tok : ∀ a q, wKin a q = true → wTok a q = true := by
  intro a q h
  simp [wKin] at h
  simp [wTok, h]
set_option maxRecDepth 100000 in
theorem t36a {L : Nat} {xs : Nat → Int32} {d nn : Nat} {m : yM} (hT : Ty gT m) (n : Int) (hn : 0 ≤ n ∧ n ≤ 320) : ∀ (k : Nat) (e : Int) (l : Int) (i : Int) (x6 : Option Value) (mi : yM), n - i = k → 0 ≤ i ∧ i ≤ n → 0 ≤ e ∧ e ≤ 320 → 0 ≤ l ∧ l ≤ i → Ty gT mi → Fr wTok m mi → mi 3 4 ≤ i ∧ (1 ≤ l → 1 ≤ mi 3 4) → YW (gZ L xs) 36 (d + 2) 13 [some (.ref 3), some (.ref 1), some (yI n), some (yI e), some (yI l), some (yI i), x6] [] mi nn (qU (fun m' n' => n' = nn ∧ Ty gT m' ∧ Fr wTok m m' ∧ ∃ e : Int, 0 ≤ e ∧ e ≤ 320 ∧ m' 3 4 = e + 1 ∧ m' 5 e.toNat = 0)) := by
  intro k
  induction k using Nat.strongRecOn with
  | ind k ih =>
    intro e l i x6 mi hk hi he hl hTi hFi hs
    refine y_iload 15 c36_13 rfl rfl ?_
    refine y_iload 16 c36_15 rfl rfl ?_
    refine y_icmp 102 19 c36_16 rfl rfl (yc_ge (by omega) (by omega)) (fun hb55 => ?_) (fun hb55 => ?_)
    · refine y_aload 103 c36_102 rfl rfl rfl ?_
      refine y_iconst 104 c36_103 rfl ?_
      refine y_iload 105 c36_104 rfl rfl ?_
      have eq56 : mi 3 4 = mi 3 4 := rfl
      have tb57 := hTi.atp 3 4 0 321 rfl
      refine y_callUB 108 [.ref 3, yI 0, yI e] [] c36_105 rfl rfl rfl rfl rfl (ycanO km32 ko3) (t32 hTi (by omega) (by omega) (by omega)) (fun mq56 nq56 hq56 => ?_)
      obtain ⟨rfl, rfl⟩ := hq56
      have hT58 := hTi.up 5 ((mi 3 4).toNat) 0 ((-2147483648)) 2147483647 rfl (by omega)
      have hF59 := hFi.up 5 ((mi 3 4).toNat) 0 rfl
      have hT60 := hT58.up 6 ((mi 3 4).toNat) e 0 320 rfl (by omega)
      have hF61 := hF59.up 6 ((mi 3 4).toNat) e rfl
      have hT62 := hT60.up 7 ((mi 3 4).toNat) 0 ((-2147483648)) 2147483647 rfl (by omega)
      have hF63 := hF61.up 7 ((mi 3 4).toNat) 0 rfl
      have hT64 := hT62.up 3 4 ((mi 3 4) + 1) 0 321 rfl (by omega)
      have hF65 := hF63.up 3 4 ((mi 3 4) + 1) rfl
      refine y_aload 109 c36_108 rfl rfl rfl ?_
      refine y_callUB 112 [.ref 3] [] c36_109 rfl rfl rfl rfl rfl (ycanO km35 ko3) (t35 hT64) (fun mq66 nq66 hq66 => ?_)
      obtain ⟨rfl, hTq66, hFq66, hq66⟩ := hq66
      have hF67 := hF65.tr hFq66 wKin_Tok
      exact y_retU c36_112 ⟨rfl, hTq66, hF67, mi 3 4, by omega, by omega, (hFq66 3 4 rfl).trans (by simp [yup]), hq66 _ (by simp [yup])⟩
    · refine y_aload 20 c36_19 rfl rfl rfl ?_
      refine y_iload 22 c36_20 rfl rfl ?_
      refine y_iaT 23 0 65535 c36_22 rfl ka1 (by omega) hTi rfl (fun v68 hv68 gv68 => ?_)
      refine y_istore 25 c36_23 rfl rfl ?_
      refine y_iload 27 c36_25 rfl rfl ?_
      refine y_callP 30 [yI v68] [] c36_27 rfl rfl rfl rfl rfl (ycanS km31) (t31 (by omega)) (fun r69 hr69 => ?_)
      refine y_if 49 33 c36_30 rfl rfl (yz_eq (by omega)) (fun hb70 => ?_) (fun hb70 => ?_)
      · refine y_iconst 50 c36_49 rfl ?_
        refine y_istore 52 c36_50 rfl rfl ?_
        refine y_iload 54 c36_52 rfl rfl ?_
        refine y_iconst 56 c36_54 rfl ?_
        refine y_icmp 80 59 c36_56 rfl rfl (yc_eq (by omega) (by omega)) (fun hb71 => ?_) (fun hb71 => ?_)
        · refine y_iload 82 c36_80 rfl rfl ?_
          refine y_iconst 84 c36_82 rfl ?_
          refine y_icmp 91 87 c36_84 rfl rfl (yc_ne (by omega) (by omega)) (fun hb72 => ?_) (fun hb72 => ?_)
          · exfalso; omega
          · refine y_iload 88 c36_87 rfl rfl ?_
            refine y_goto 95 c36_88 rfl ?_
            refine y_istore 96 c36_95 rfl rfl ?_
            refine y_iinc 99 c36_96 rfl rfl rfl ?_
            refine y_goto 13 c36_99 rfl ?_
            exact ih (n - (i + 1) : Int).toNat (by omega) e 0 (i + 1) _  _ (by omega) (by omega) (by omega) (by omega) hTi hFi (by have e : mi 3 4 = mi 3 4 := rfl; omega)
        · refine y_aload 60 c36_59 rfl rfl rfl ?_
          refine y_iload 62 c36_60 rfl rfl ?_
          refine y_callP 65 [yI v68] [.ref 3] c36_62 rfl rfl rfl rfl rfl (ycanS km34) (t34 (by omega)) (fun r73 hr73 => ?_)
          refine y_if 73 68 c36_65 rfl rfl (yz_eq (by omega)) (fun hb74 => ?_) (fun hb74 => ?_)
          · refine y_iconst 75 c36_73 rfl ?_
            refine y_iload 77 c36_75 rfl rfl ?_
            have eq75 : mi 3 4 = mi 3 4 := rfl
            have tb76 := hTi.atp 3 4 0 321 rfl
            refine y_callUB 80 [.ref 3, yI 12, yI i] [] c36_77 rfl rfl rfl rfl rfl (ycanO km32 ko3) (t32 hTi (by omega) (by omega) (by omega)) (fun mq75 nq75 hq75 => ?_)
            obtain ⟨rfl, rfl⟩ := hq75
            have hT77 := hTi.up 5 ((mi 3 4).toNat) 12 ((-2147483648)) 2147483647 rfl (by omega)
            have hF78 := hFi.up 5 ((mi 3 4).toNat) 12 rfl
            have hT79 := hT77.up 6 ((mi 3 4).toNat) i 0 320 rfl (by omega)
            have hF80 := hF78.up 6 ((mi 3 4).toNat) i rfl
            have hT81 := hT79.up 7 ((mi 3 4).toNat) 0 ((-2147483648)) 2147483647 rfl (by omega)
            have hF82 := hF80.up 7 ((mi 3 4).toNat) 0 rfl
            have hT83 := hT81.up 3 4 ((mi 3 4) + 1) 0 321 rfl (by omega)
            have hF84 := hF82.up 3 4 ((mi 3 4) + 1) rfl
            refine y_iload 82 c36_80 rfl rfl ?_
            refine y_iconst 84 c36_82 rfl ?_
            refine y_icmp 91 87 c36_84 rfl rfl (yc_ne (by omega) (by omega)) (fun hb85 => ?_) (fun hb85 => ?_)
            · refine y_iload 93 c36_91 rfl rfl ?_
              refine y_iconst 94 c36_93 rfl ?_
              refine y_iadd 95 c36_94 rfl ?_
              refine y_istore 96 c36_95 rfl rfl ?_
              refine y_iinc 99 c36_96 rfl rfl rfl ?_
              refine y_goto 13 c36_99 rfl ?_
              exact ih (n - (i + 1) : Int).toNat (by omega) (i + 1) 0 (i + 1) _  _ (by omega) (by omega) (by omega) (by omega) hT83 hF84 (by have e : (yup (yup (yup (yup mi 5 ((mi 3 4).toNat) 12) 6 ((mi 3 4).toNat) i) 7 ((mi 3 4).toNat) 0) 3 4 ((mi 3 4) + 1)) 3 4 = (mi 3 4) + 1 := rfl; omega)
            · refine y_iload 88 c36_87 rfl rfl ?_
              refine y_goto 95 c36_88 rfl ?_
              refine y_istore 96 c36_95 rfl rfl ?_
              refine y_iinc 99 c36_96 rfl rfl rfl ?_
              refine y_goto 13 c36_99 rfl ?_
              exact ih (n - (i + 1) : Int).toNat (by omega) e 0 (i + 1) _  _ (by omega) (by omega) (by omega) (by omega) hT83 hF84 (by have e : (yup (yup (yup (yup mi 5 ((mi 3 4).toNat) 12) 6 ((mi 3 4).toNat) i) 7 ((mi 3 4).toNat) 0) 3 4 ((mi 3 4) + 1)) 3 4 = (mi 3 4) + 1 := rfl; omega)
          · refine y_iload 70 c36_68 rfl rfl ?_
            refine y_goto 75 c36_70 rfl ?_
            refine y_iload 77 c36_75 rfl rfl ?_
            have eq86 : mi 3 4 = mi 3 4 := rfl
            have tb87 := hTi.atp 3 4 0 321 rfl
            refine y_callUB 80 [.ref 3, yI v68, yI i] [] c36_77 rfl rfl rfl rfl rfl (ycanO km32 ko3) (t32 hTi (by omega) (by omega) (by omega)) (fun mq86 nq86 hq86 => ?_)
            obtain ⟨rfl, rfl⟩ := hq86
            have hT88 := hTi.up 5 ((mi 3 4).toNat) v68 ((-2147483648)) 2147483647 rfl (by omega)
            have hF89 := hFi.up 5 ((mi 3 4).toNat) v68 rfl
            have hT90 := hT88.up 6 ((mi 3 4).toNat) i 0 320 rfl (by omega)
            have hF91 := hF89.up 6 ((mi 3 4).toNat) i rfl
            have hT92 := hT90.up 7 ((mi 3 4).toNat) 0 ((-2147483648)) 2147483647 rfl (by omega)
            have hF93 := hF91.up 7 ((mi 3 4).toNat) 0 rfl
            have hT94 := hT92.up 3 4 ((mi 3 4) + 1) 0 321 rfl (by omega)
            have hF95 := hF93.up 3 4 ((mi 3 4) + 1) rfl
            refine y_iload 82 c36_80 rfl rfl ?_
            refine y_iconst 84 c36_82 rfl ?_
            refine y_icmp 91 87 c36_84 rfl rfl (yc_ne (by omega) (by omega)) (fun hb96 => ?_) (fun hb96 => ?_)
            · refine y_iload 93 c36_91 rfl rfl ?_
              refine y_iconst 94 c36_93 rfl ?_
              refine y_iadd 95 c36_94 rfl ?_
              refine y_istore 96 c36_95 rfl rfl ?_
              refine y_iinc 99 c36_96 rfl rfl rfl ?_
              refine y_goto 13 c36_99 rfl ?_
              exact ih (n - (i + 1) : Int).toNat (by omega) (i + 1) 0 (i + 1) _  _ (by omega) (by omega) (by omega) (by omega) hT94 hF95 (by have e : (yup (yup (yup (yup mi 5 ((mi 3 4).toNat) v68) 6 ((mi 3 4).toNat) i) 7 ((mi 3 4).toNat) 0) 3 4 ((mi 3 4) + 1)) 3 4 = (mi 3 4) + 1 := rfl; omega)
            · refine y_iload 88 c36_87 rfl rfl ?_
              refine y_goto 95 c36_88 rfl ?_
              refine y_istore 96 c36_95 rfl rfl ?_
              refine y_iinc 99 c36_96 rfl rfl rfl ?_
              refine y_goto 13 c36_99 rfl ?_
              exact ih (n - (i + 1) : Int).toNat (by omega) e 0 (i + 1) _  _ (by omega) (by omega) (by omega) (by omega) hT94 hF95 (by have e : (yup (yup (yup (yup mi 5 ((mi 3 4).toNat) v68) 6 ((mi 3 4).toNat) i) 7 ((mi 3 4).toNat) 0) 3 4 ((mi 3 4) + 1)) 3 4 = (mi 3 4) + 1 := rfl; omega)
      · refine y_iinc 36 c36_33 rfl rfl rfl ?_
        refine y_aload 37 c36_36 rfl rfl rfl ?_
        refine y_iload 39 c36_37 rfl rfl ?_
        refine y_iload 41 c36_39 rfl rfl ?_
        refine y_iload 43 c36_41 rfl rfl ?_
        have eq97 : mi 3 4 = mi 3 4 := rfl
        have tb98 := hTi.atp 3 4 0 321 rfl
        refine y_callUB 46 [.ref 3, yI v68, yI i, yI (l + 1)] [] c36_43 rfl rfl rfl rfl rfl (ycanO km33 ko3) (t33 hTi (by omega) (by omega) (by omega) (by omega) (by omega)) (fun mq97 nq97 hq97 => ?_)
        obtain ⟨rfl, hTq97, hFq97, hq97⟩ := hq97
        have hF99 := hFi.tr hFq97 (fun _ _ e => e)
        refine y_goto 80 c36_46 rfl ?_
        refine y_iload 82 c36_80 rfl rfl ?_
        refine y_iconst 84 c36_82 rfl ?_
        refine y_icmp 91 87 c36_84 rfl rfl (yc_ne (by omega) (by omega)) (fun hb100 => ?_) (fun hb100 => ?_)
        · refine y_iload 93 c36_91 rfl rfl ?_
          refine y_iconst 94 c36_93 rfl ?_
          refine y_iadd 95 c36_94 rfl ?_
          refine y_istore 96 c36_95 rfl rfl ?_
          refine y_iinc 99 c36_96 rfl rfl rfl ?_
          refine y_goto 13 c36_99 rfl ?_
          exact ih (n - (i + 1) : Int).toNat (by omega) (i + 1) (l + 1) (i + 1) _  _ (by omega) (by omega) (by omega) (by omega) hTq97 hF99 (by have e : mq97 3 4 = mq97 3 4 := rfl; omega)
        · refine y_iload 88 c36_87 rfl rfl ?_
          refine y_goto 95 c36_88 rfl ?_
          refine y_istore 96 c36_95 rfl rfl ?_
          refine y_iinc 99 c36_96 rfl rfl rfl ?_
          refine y_goto 13 c36_99 rfl ?_
          exact ih (n - (i + 1) : Int).toNat (by omega) e (l + 1) (i + 1) _  _ (by omega) (by omega) (by omega) (by omega) hTq97 hF99 (by have e : mq97 3 4 = mq97 3 4 := rfl; omega)
set_option maxRecDepth 100000 in
theorem t36 {L : Nat} {xs : Nat → Int32} {d nn : Nat} {m : yM} (hT : Ty gT m) (n : Int) (hn : 0 ≤ n ∧ n ≤ 320) : YC (gZ L xs) (d + 2) 36 [.ref 3, .ref 1, yI n] m nn (qU (fun m' n' => n' = nn ∧ Ty gT m' ∧ Fr wTok m m' ∧ ∃ e : Int, 0 ≤ e ∧ e ≤ 320 ∧ m' 3 4 = e + 1 ∧ m' 5 e.toNat = 0)) := by
  refine YC.mkB [some (.ref 3), some (.ref 1), some (yI n), none, none, none, none] kn36 rfl rfl ?_
  have hF : Fr wTok m m := Fr.rf
  refine y_aload 1 c36_0 rfl rfl rfl ?_
  refine y_iconst 2 c36_1 rfl ?_
  refine y_putI 5 c36_2 rfl kf3_4 (y_fit0 _) ?_
  have hT101 := hT.up 3 4 0 0 321 rfl (by omega)
  have hF102 := hF.up 3 4 0 rfl
  refine y_iconst 6 c36_5 rfl ?_
  refine y_istore 7 c36_6 rfl rfl ?_
  refine y_iconst 8 c36_7 rfl ?_
  refine y_istore 10 c36_8 rfl rfl ?_
  refine y_iconst 11 c36_10 rfl ?_
  refine y_istore 13 c36_11 rfl rfl ?_
  exact t36a hT n hn (n - 0 : Int).toNat 0 0 0 _  _ (by omega) (by omega) (by omega) (by omega) hT101 hF102 (by have e : (yup m 3 4 0) 3 4 = 0 := rfl; omega)
