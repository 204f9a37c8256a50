/-! CONTRACTS: the class's calls. Printed by wip/whole/gen94.py -/
set_option maxRecDepth 100000 in
theorem t175a_256 {L : Nat} {xs : Nat → Int32} {d nn : Nat} {m : yM} {k : Int} (hT : Ty gT m) (hp : m 8 4 = 0) (hk : 0 ≤ k ∧ k ≤ 39) (h3 : 0 ≤ m (276 + k.toNat) 3) : ∀ (km : Nat) (i : Int), m 256 14 - i = km → 0 ≤ i ∧ i ≤ m 256 14 → YW (gZ L xs) 175 (d + 1) 2 [some (.ref 8), some (.ref (276 + k.toNat)), some (yI i)] [] m nn (qP m nn (fun r => r = 0 ∨ r = 1)) := by
  intro km
  induction km using Nat.strongRecOn with
  | ind km ih =>
    intro i hk hi
    have tb := hT.atp 256 14 0 12 rfl
    refine y_iload 3 c175_2 rfl rfl ?_
    refine y_aload 4 c175_3 rfl rfl rfl ?_
    refine y_getS 7 (B := 256) c175_4 rfl kf8_4 (by first | rfl | (rw [show m 8 4 = 0 from by have e : m 8 4 = m 8 4 := rfl; omega]; rfl)) ?_
    refine y_getX 10 (m 256 14) c175_7 rfl kf256_14 rfl ?_
    refine y_icmp 59 13 c175_10 rfl rfl (yc_ge (by omega) (by omega)) (fun hb5349 => ?_) (fun hb5349 => ?_)
    · refine y_iconst 60 c175_59 rfl ?_
      exact y_retP c175_60 (y_fit1 (by omega)) (by omega)
    · refine y_aload 14 c175_13 rfl rfl rfl ?_
      refine y_getR 17 c175_14 rfl kf8_0 ?_
      refine y_aload 18 c175_17 rfl rfl rfl ?_
      refine y_getX 21 (m (276 + k.toNat) 3) c175_18 rfl (ff276_3 (by omega)) rfl ?_
      have tb5350 := hT.atp (276 + k.toNat) 3 ((-1)) 47 (ft276_3 (by omega))
      refine y_aaload 22 c175_21 rfl kr9 (by omega) ?_
      refine y_iload 23 c175_22 rfl rfl ?_
      refine y_iaT 24 ((-2147483648)) 2147483647 c175_23 rfl (fa10 (by omega)) (by omega) hT (fz10 (by omega)) (fun v5351 hv5351 gv5351 => ?_)
      refine y_iconst 25 c175_24 rfl ?_
      refine y_icmp 53 28 c175_25 rfl rfl (yc_eq (by omega) (by omega)) (fun hb5352 => ?_) (fun hb5352 => ?_)
      · refine y_iinc 56 c175_53 rfl rfl rfl ?_
        refine y_goto 2 c175_56 rfl ?_
        exact ih (m 256 14 - (i + 1) : Int).toNat (by omega) (i + 1)   (by omega) (by omega)
      · refine y_aload 29 c175_28 rfl rfl rfl ?_
        refine y_getS 32 (B := 256) c175_29 rfl kf8_4 (by first | rfl | (rw [show m 8 4 = 0 from by have e : m 8 4 = m 8 4 := rfl; omega]; rfl)) ?_
        refine y_aload 33 c175_32 rfl rfl rfl ?_
        refine y_getS 36 (B := 256) c175_33 rfl kf8_4 (by first | rfl | (rw [show m 8 4 = 0 from by have e : m 8 4 = m 8 4 := rfl; omega]; rfl)) ?_
        refine y_getR 39 c175_36 rfl kf256_7 ?_
        refine y_iload 40 c175_39 rfl rfl ?_
        refine y_iaT 41 0 5 c175_40 rfl ka264 (by omega) hT rfl (fun v5353 hv5353 gv5353 => ?_)
        refine y_aload 42 c175_41 rfl rfl rfl ?_
        refine y_getX 45 (m (276 + k.toNat) 7) c175_42 rfl (ff276_7 (by omega)) rfl ?_
        have tb5354 := hT.atp (276 + k.toNat) 7 ((-1)) 5 (ft276_7 (by omega))
        refine y_callP 48 [.ref 256, yI v5353, yI (m (276 + k.toNat) 7)] [] c175_45 rfl rfl rfl rfl rfl (ycanO km81 ko256) (t81_256 hT (by omega) (by omega)) (fun r5355 hr5355 => ?_)
        refine y_if 53 51 c175_48 rfl rfl (yz_ne (by omega)) (fun hb5356 => ?_) (fun hb5356 => ?_)
        · refine y_iinc 56 c175_53 rfl rfl rfl ?_
          refine y_goto 2 c175_56 rfl ?_
          exact ih (m 256 14 - (i + 1) : Int).toNat (by omega) (i + 1)   (by omega) (by omega)
        · refine y_iconst 52 c175_51 rfl ?_
          exact y_retP c175_52 (y_fit1 (by omega)) (by omega)
set_option maxRecDepth 100000 in
theorem t175_256 {L : Nat} {xs : Nat → Int32} {d nn : Nat} {m : yM} {k : Int} (hT : Ty gT m) (hp : m 8 4 = 0) (hk : 0 ≤ k ∧ k ≤ 39) (h3 : 0 ≤ m (276 + k.toNat) 3) : YC (gZ L xs) (d + 1) 175 [.ref 8, .ref (276 + k.toNat)] m nn (qP m nn (fun r => r = 0 ∨ r = 1)) := by
  refine YC.mkB [some (.ref 8), some (.ref (276 + k.toNat)), none] kn175 rfl rfl ?_
  refine y_iconst 1 c175_0 rfl ?_
  refine y_istore 2 c175_1 rfl rfl ?_
  have tb := hT.atp 256 14 0 12 rfl
  exact t175a_256 hT hp hk h3 (m 256 14 - 0).toNat 0 (by omega) (by omega)
set_option maxRecDepth 100000 in
theorem t179a_256 {L : Nat} {xs : Nat → Int32} {d nn : Nat} {m : yM} {v u : Int} (hT : Ty gT m) (hp : m 8 4 = 0) (hv : 0 ≤ v ∧ v ≤ 47) (hu : 0 ≤ u ∧ u ≤ 47) : ∀ (km : Nat) (i : Int), m 256 14 - i = km → 0 ≤ i ∧ i ≤ m 256 14 → YW (gZ L xs) 179 d 2 [some (.ref 8), some (yI v), some (yI u), some (yI i)] [] m nn (qP m nn (fun r => r = 0 ∨ r = 1)) := by
  intro km
  induction km using Nat.strongRecOn with
  | ind km ih =>
    intro i hk hi
    have tb := hT.atp 256 14 0 12 rfl
    refine y_iload 3 c179_2 rfl rfl ?_
    refine y_aload 4 c179_3 rfl rfl rfl ?_
    refine y_getS 7 (B := 256) c179_4 rfl kf8_4 (by first | rfl | (rw [show m 8 4 = 0 from by have e : m 8 4 = m 8 4 := rfl; omega]; rfl)) ?_
    refine y_getX 10 (m 256 14) c179_7 rfl kf256_14 rfl ?_
    refine y_icmp 45 13 c179_10 rfl rfl (yc_ge (by omega) (by omega)) (fun hb5357 => ?_) (fun hb5357 => ?_)
    · refine y_iconst 46 c179_45 rfl ?_
      exact y_retP c179_46 (y_fit1 (by omega)) (by omega)
    · refine y_aload 14 c179_13 rfl rfl rfl ?_
      refine y_getR 17 c179_14 rfl kf8_0 ?_
      refine y_iload 18 c179_17 rfl rfl ?_
      refine y_aaload 19 c179_18 rfl kr9 (by omega) ?_
      refine y_iload 20 c179_19 rfl rfl ?_
      refine y_iaT 21 ((-2147483648)) 2147483647 c179_20 rfl (fa10 (by omega)) (by omega) hT (fz10 (by omega)) (fun v5358 hv5358 gv5358 => ?_)
      refine y_iconst 22 c179_21 rfl ?_
      refine y_icmp 39 25 c179_22 rfl rfl (yc_eq (by omega) (by omega)) (fun hb5359 => ?_) (fun hb5359 => ?_)
      · refine y_iinc 42 c179_39 rfl rfl rfl ?_
        refine y_goto 2 c179_42 rfl ?_
        exact ih (m 256 14 - (i + 1) : Int).toNat (by omega) (i + 1)   (by omega) (by omega)
      · refine y_aload 26 c179_25 rfl rfl rfl ?_
        refine y_getR 29 c179_26 rfl kf8_0 ?_
        refine y_iload 30 c179_29 rfl rfl ?_
        refine y_aaload 31 c179_30 rfl kr9 (by omega) ?_
        refine y_iload 32 c179_31 rfl rfl ?_
        refine y_iaT 33 ((-2147483648)) 2147483647 c179_32 rfl (fa10 (by omega)) (by omega) hT (fz10 (by omega)) (fun v5360 hv5360 gv5360 => ?_)
        refine y_iconst 34 c179_33 rfl ?_
        refine y_icmp 39 37 c179_34 rfl rfl (yc_eq (by omega) (by omega)) (fun hb5361 => ?_) (fun hb5361 => ?_)
        · refine y_iinc 42 c179_39 rfl rfl rfl ?_
          refine y_goto 2 c179_42 rfl ?_
          exact ih (m 256 14 - (i + 1) : Int).toNat (by omega) (i + 1)   (by omega) (by omega)
        · refine y_iconst 38 c179_37 rfl ?_
          exact y_retP c179_38 (y_fit1 (by omega)) (by omega)
set_option maxRecDepth 100000 in
theorem t179_256 {L : Nat} {xs : Nat → Int32} {d nn : Nat} {m : yM} {v u : Int} (hT : Ty gT m) (hp : m 8 4 = 0) (hv : 0 ≤ v ∧ v ≤ 47) (hu : 0 ≤ u ∧ u ≤ 47) : YC (gZ L xs) d 179 [.ref 8, yI v, yI u] m nn (qP m nn (fun r => r = 0 ∨ r = 1)) := by
  refine YC.mkB [some (.ref 8), some (yI v), some (yI u), none] kn179 rfl rfl ?_
  refine y_iconst 1 c179_0 rfl ?_
  refine y_istore 2 c179_1 rfl rfl ?_
  have tb := hT.atp 256 14 0 12 rfl
  exact t179a_256 hT hp hv hu (m 256 14 - 0).toNat 0 (by omega) (by omega)
set_option maxRecDepth 100000 in
theorem t159_256 {L : Nat} {xs : Nat → Int32} {d nn : Nat} {m : yM} {a : Int} (ra : -2147483648 ≤ a ∧ a < 2147483648) {b : Int} (rb : -2147483648 ≤ b ∧ b < 2147483648) (hC : CI 256 326 0 m) : YC (gZ L xs) (d + 3) 159 [.ref 0, yI a, yI b, .ref 413] m nn (qW nn m) := by
  have hC0 := hC
  obtain ⟨hT, h04, h05, hS, hM2, h84⟩ := hC
  have hM : MP 266 m := hS.2.2.2.1
  have tb9 := hT.atp 256 9 0 6 rfl
  have tb10 := hT.atp 256 10 0 10 rfl
  have tb11 := hT.atp 256 11 0 8 rfl
  have tb12 := hT.atp 256 12 0 12 rfl
  have tb13 := hT.atp 256 13 0 8 rfl
  have tb14 := hT.atp 256 14 0 12 rfl
  have tb15 := hT.atp 256 15 0 48 rfl
  have tb16 := hT.atp 256 16 0 40 rfl
  refine YC.mkB [some (.ref 0), some (yI a), some (yI b), some (.ref 413), none] kn159 rfl rfl ?_
  have hF : Fr wCl m m := Fr.rf
  refine y_aload 1 c159_0 rfl rfl rfl ?_
  refine y_iconst 2 c159_1 rfl ?_
  refine y_aload 3 c159_2 rfl rfl rfl ?_
  refine y_iload 4 c159_3 rfl rfl ?_
  refine y_iload 5 c159_4 rfl rfl ?_
  refine y_inlB 8 [.ref 0, yI a, yI b] [yI 0, .ref 413] [some (.ref 0), some (yI a), some (yI b)] c159_5 rfl rfl rfl rfl rfl (ycanO km158 ko0) kn158 rfl rfl ?_
  refine y_aload 1 c158_0 rfl rfl rfl ?_
  refine y_iload 2 c158_1 rfl rfl ?_
  refine y_inlB 5 [.ref 0, yI a] [] [some (.ref 0), some (yI a)] c158_2 rfl rfl rfl rfl rfl (ycanO km156 ko0) kn156 rfl rfl ?_
  refine y_iload 1 c156_0 rfl rfl ?_
  refine y_aload 2 c156_1 rfl rfl rfl ?_
  refine y_getS 5 (B := 256) c156_2 rfl kf0_4 (by first | rfl | (rw [show m 0 4 = 0 from by have e : m 0 4 = m 0 4 := rfl; omega]; rfl)) ?_
  refine y_getX 8 (m 256 15) c156_5 rfl kf256_15 rfl ?_
  refine y_inlB 11 [yI a, yI (m 256 15)] [] [some (yI a), some (yI (m 256 15))] c156_8 rfl rfl rfl rfl rfl (ycanS km155) kn155 rfl rfl ?_
  refine y_iload 1 c155_0 rfl rfl ?_
  refine y_if 13 4 c155_1 rfl rfl (yz_lt (by omega)) (fun hb5362 => ?_) (fun hb5362 => ?_)
  · refine y_iconst 14 c155_13 rfl ?_
    refine y_ireturnK c155_14 (y_fit1 (by omega)) ?_
    refine y_ireturnK c156_11 (y_fit1 (by omega)) ?_
    refine y_if 16 8 c158_5 rfl rfl (yz_eq (by omega)) (fun hb5363 => ?_) (fun hb5363 => ?_)
    · refine y_throwB c158_16 rfl ?_
      refine yK_in kh159_5_11 ?_
      refine y_astore 15 c159_13 rfl rfl rfl ?_
      refine y_iconst 16 c159_15 rfl ?_
      exact y_ireturn c159_16 (y_fit0 _) ⟨_, rfl, by omega, Or.inr rfl, hF, Or.inl hC0⟩
    · exfalso; omega
  · refine y_iload 5 c155_4 rfl rfl ?_
    refine y_iload 6 c155_5 rfl rfl ?_
    refine y_icmp 13 9 c155_6 rfl rfl (yc_ge (by omega) (by omega)) (fun hb5364 => ?_) (fun hb5364 => ?_)
    · refine y_iconst 14 c155_13 rfl ?_
      refine y_ireturnK c155_14 (y_fit1 (by omega)) ?_
      refine y_ireturnK c156_11 (y_fit1 (by omega)) ?_
      refine y_if 16 8 c158_5 rfl rfl (yz_eq (by omega)) (fun hb5365 => ?_) (fun hb5365 => ?_)
      · refine y_throwB c158_16 rfl ?_
        refine yK_in kh159_5_11 ?_
        refine y_astore 15 c159_13 rfl rfl rfl ?_
        refine y_iconst 16 c159_15 rfl ?_
        exact y_ireturn c159_16 (y_fit0 _) ⟨_, rfl, by omega, Or.inr rfl, hF, Or.inl hC0⟩
      · exfalso; omega
    · refine y_iconst 10 c155_9 rfl ?_
      refine y_goto 14 c155_10 rfl ?_
      refine y_ireturnK c155_14 (y_fit1 (by omega)) ?_
      refine y_ireturnK c156_11 (y_fit1 (by omega)) ?_
      refine y_if 16 8 c158_5 rfl rfl (yz_eq (by omega)) (fun hb5366 => ?_) (fun hb5366 => ?_)
      · exfalso; omega
      · refine y_aload 9 c158_8 rfl rfl rfl ?_
        refine y_iload 10 c158_9 rfl rfl ?_
        refine y_inlB 13 [.ref 0, yI b] [] [some (.ref 0), some (yI b)] c158_10 rfl rfl rfl rfl rfl (ycanO km157 ko0) kn157 rfl rfl ?_
        refine y_iload 1 c157_0 rfl rfl ?_
        refine y_aload 2 c157_1 rfl rfl rfl ?_
        refine y_getS 5 (B := 256) c157_2 rfl kf0_4 (by first | rfl | (rw [show m 0 4 = 0 from by have e : m 0 4 = m 0 4 := rfl; omega]; rfl)) ?_
        refine y_getX 8 (m 256 14) c157_5 rfl kf256_14 rfl ?_
        refine y_inlB 11 [yI b, yI (m 256 14)] [] [some (yI b), some (yI (m 256 14))] c157_8 rfl rfl rfl rfl rfl (ycanS km155) kn155 rfl rfl ?_
        refine y_iload 1 c155_0 rfl rfl ?_
        refine y_if 13 4 c155_1 rfl rfl (yz_lt (by omega)) (fun hb5367 => ?_) (fun hb5367 => ?_)
        · refine y_iconst 14 c155_13 rfl ?_
          refine y_ireturnK c155_14 (y_fit1 (by omega)) ?_
          refine y_ireturnK c157_11 (y_fit1 (by omega)) ?_
          refine y_if 24 16 c158_13 rfl rfl (yz_ne (by omega)) (fun hb5368 => ?_) (fun hb5368 => ?_)
          · exfalso; omega
          · refine y_throwB c158_16 rfl ?_
            refine yK_in kh159_5_11 ?_
            refine y_astore 15 c159_13 rfl rfl rfl ?_
            refine y_iconst 16 c159_15 rfl ?_
            exact y_ireturn c159_16 (y_fit0 _) ⟨_, rfl, by omega, Or.inr rfl, hF, Or.inl hC0⟩
        · refine y_iload 5 c155_4 rfl rfl ?_
          refine y_iload 6 c155_5 rfl rfl ?_
          refine y_icmp 13 9 c155_6 rfl rfl (yc_ge (by omega) (by omega)) (fun hb5369 => ?_) (fun hb5369 => ?_)
          · refine y_iconst 14 c155_13 rfl ?_
            refine y_ireturnK c155_14 (y_fit1 (by omega)) ?_
            refine y_ireturnK c157_11 (y_fit1 (by omega)) ?_
            refine y_if 24 16 c158_13 rfl rfl (yz_ne (by omega)) (fun hb5370 => ?_) (fun hb5370 => ?_)
            · exfalso; omega
            · refine y_throwB c158_16 rfl ?_
              refine yK_in kh159_5_11 ?_
              refine y_astore 15 c159_13 rfl rfl rfl ?_
              refine y_iconst 16 c159_15 rfl ?_
              exact y_ireturn c159_16 (y_fit0 _) ⟨_, rfl, by omega, Or.inr rfl, hF, Or.inl hC0⟩
          · refine y_iconst 10 c155_9 rfl ?_
            refine y_goto 14 c155_10 rfl ?_
            refine y_ireturnK c155_14 (y_fit1 (by omega)) ?_
            refine y_ireturnK c157_11 (y_fit1 (by omega)) ?_
            refine y_if 24 16 c158_13 rfl rfl (yz_ne (by omega)) (fun hb5371 => ?_) (fun hb5371 => ?_)
            · refine y_aload 25 c158_24 rfl rfl rfl ?_
              refine y_getR 28 c158_25 rfl kf0_2 ?_
              refine y_getR 31 c158_28 rfl kf8_0 ?_
              refine y_iload 32 c158_31 rfl rfl ?_
              refine y_aaload 33 c158_32 rfl kr9 (by omega) ?_
              refine y_iload 34 c158_33 rfl rfl ?_
              refine y_iaT 35 ((-2147483648)) 2147483647 c158_34 rfl (fa10 (by omega)) (by omega) hT (fz10 (by omega)) (fun v5372 hv5372 gv5372 => ?_)
              refine y_ireturnK c158_35 (y_fit0 _) ?_
              refine y_i2l 9 c159_8 rfl ?_
              refine y_lastoreN 10 v5372 c159_9 rfl kl413 (by decide) (by rw [Int32.toInt_toInt64, y_rng (by omega)]) ?_
              have hT5373 := hT.up 413 ((0 : Int).toNat) v5372 ((-2147483648)) 2147483647 rfl (by omega)
              have hF5374 := hF.up 413 ((0 : Int).toNat) v5372 rfl
              refine y_goto 17 c159_10 rfl ?_
              refine y_iconst 18 c159_17 rfl ?_
              exact y_ireturn c159_18 (y_fit0 _) ⟨_, rfl, by omega, Or.inl rfl, hF5374, Or.inl (CI.fr hC0 (by omega) (by omega) (by omega) hT5373 (fun a q ha => (yup_na (by omega))))⟩
            · exfalso; omega
set_option maxRecDepth 100000 in
theorem t165_256 {L : Nat} {xs : Nat → Int32} {d nn : Nat} {m : yM} {a : Int} (ra : -2147483648 ≤ a ∧ a < 2147483648) {b : Int} (rb : -2147483648 ≤ b ∧ b < 2147483648) {c : Int} (rc : -2147483648 ≤ c ∧ c < 2147483648) (hC : CI 256 326 0 m) : YC (gZ L xs) (d + 3) 165 [.ref 0, yI a, yI b, yI c, .ref 413] m nn (qW nn m) := by
  have hC0 := hC
  obtain ⟨hT, h04, h05, hS, hM2, h84⟩ := hC
  have hM : MP 266 m := hS.2.2.2.1
  have tb9 := hT.atp 256 9 0 6 rfl
  have tb10 := hT.atp 256 10 0 10 rfl
  have tb11 := hT.atp 256 11 0 8 rfl
  have tb12 := hT.atp 256 12 0 12 rfl
  have tb13 := hT.atp 256 13 0 8 rfl
  have tb14 := hT.atp 256 14 0 12 rfl
  have tb15 := hT.atp 256 15 0 48 rfl
  have tb16 := hT.atp 256 16 0 40 rfl
  refine YC.mkB [some (.ref 0), some (yI a), some (yI b), some (yI c), some (.ref 413), none] kn165 rfl rfl ?_
  have hF : Fr wCl m m := Fr.rf
  refine y_aload 2 c165_0 rfl rfl rfl ?_
  refine y_iconst 3 c165_2 rfl ?_
  refine y_aload 4 c165_3 rfl rfl rfl ?_
  refine y_iload 5 c165_4 rfl rfl ?_
  refine y_iload 6 c165_5 rfl rfl ?_
  refine y_iload 7 c165_6 rfl rfl ?_
  refine y_inlB 10 [.ref 0, yI a, yI b, yI c] [yI 0, .ref 413] [some (.ref 0), some (yI a), some (yI b), some (yI c)] c165_7 rfl rfl rfl rfl rfl (ycanO km164 ko0) kn164 rfl rfl ?_
  refine y_aload 1 c164_0 rfl rfl rfl ?_
  refine y_iload 2 c164_1 rfl rfl ?_
  refine y_inlB 5 [.ref 0, yI a] [] [some (.ref 0), some (yI a)] c164_2 rfl rfl rfl rfl rfl (ycanO km157 ko0) kn157 rfl rfl ?_
  refine y_iload 1 c157_0 rfl rfl ?_
  refine y_aload 2 c157_1 rfl rfl rfl ?_
  refine y_getS 5 (B := 256) c157_2 rfl kf0_4 (by first | rfl | (rw [show m 0 4 = 0 from by have e : m 0 4 = m 0 4 := rfl; omega]; rfl)) ?_
  refine y_getX 8 (m 256 14) c157_5 rfl kf256_14 rfl ?_
  refine y_inlB 11 [yI a, yI (m 256 14)] [] [some (yI a), some (yI (m 256 14))] c157_8 rfl rfl rfl rfl rfl (ycanS km155) kn155 rfl rfl ?_
  refine y_iload 1 c155_0 rfl rfl ?_
  refine y_if 13 4 c155_1 rfl rfl (yz_lt (by omega)) (fun hb5375 => ?_) (fun hb5375 => ?_)
  · refine y_iconst 14 c155_13 rfl ?_
    refine y_ireturnK c155_14 (y_fit1 (by omega)) ?_
    refine y_ireturnK c157_11 (y_fit1 (by omega)) ?_
    refine y_if 30 8 c164_5 rfl rfl (yz_eq (by omega)) (fun hb5376 => ?_) (fun hb5376 => ?_)
    · refine y_throwB c164_30 rfl ?_
      refine yK_in kh165_7_11 ?_
      refine y_astore 17 c165_15 rfl rfl rfl ?_
      refine y_iconst 18 c165_17 rfl ?_
      exact y_ireturn c165_18 (y_fit0 _) ⟨_, rfl, by omega, Or.inr rfl, hF, Or.inl hC0⟩
    · exfalso; omega
  · refine y_iload 5 c155_4 rfl rfl ?_
    refine y_iload 6 c155_5 rfl rfl ?_
    refine y_icmp 13 9 c155_6 rfl rfl (yc_ge (by omega) (by omega)) (fun hb5377 => ?_) (fun hb5377 => ?_)
    · refine y_iconst 14 c155_13 rfl ?_
      refine y_ireturnK c155_14 (y_fit1 (by omega)) ?_
      refine y_ireturnK c157_11 (y_fit1 (by omega)) ?_
      refine y_if 30 8 c164_5 rfl rfl (yz_eq (by omega)) (fun hb5378 => ?_) (fun hb5378 => ?_)
      · refine y_throwB c164_30 rfl ?_
        refine yK_in kh165_7_11 ?_
        refine y_astore 17 c165_15 rfl rfl rfl ?_
        refine y_iconst 18 c165_17 rfl ?_
        exact y_ireturn c165_18 (y_fit0 _) ⟨_, rfl, by omega, Or.inr rfl, hF, Or.inl hC0⟩
      · exfalso; omega
    · refine y_iconst 10 c155_9 rfl ?_
      refine y_goto 14 c155_10 rfl ?_
      refine y_ireturnK c155_14 (y_fit1 (by omega)) ?_
      refine y_ireturnK c157_11 (y_fit1 (by omega)) ?_
      refine y_if 30 8 c164_5 rfl rfl (yz_eq (by omega)) (fun hb5379 => ?_) (fun hb5379 => ?_)
      · exfalso; omega
      · refine y_iload 9 c164_8 rfl rfl ?_
        refine y_aload 10 c164_9 rfl rfl rfl ?_
        refine y_getS 13 (B := 256) c164_10 rfl kf0_4 (by first | rfl | (rw [show m 0 4 = 0 from by have e : m 0 4 = m 0 4 := rfl; omega]; rfl)) ?_
        refine y_getX 16 (m 256 11) c164_13 rfl kf256_11 rfl ?_
        refine y_inlB 19 [yI b, yI (m 256 11)] [] [some (yI b), some (yI (m 256 11))] c164_16 rfl rfl rfl rfl rfl (ycanS km155) kn155 rfl rfl ?_
        refine y_iload 1 c155_0 rfl rfl ?_
        refine y_if 13 4 c155_1 rfl rfl (yz_lt (by omega)) (fun hb5380 => ?_) (fun hb5380 => ?_)
        · refine y_iconst 14 c155_13 rfl ?_
          refine y_ireturnK c155_14 (y_fit1 (by omega)) ?_
          refine y_if 30 22 c164_19 rfl rfl (yz_eq (by omega)) (fun hb5381 => ?_) (fun hb5381 => ?_)
          · refine y_throwB c164_30 rfl ?_
            refine yK_in kh165_7_11 ?_
            refine y_astore 17 c165_15 rfl rfl rfl ?_
            refine y_iconst 18 c165_17 rfl ?_
            exact y_ireturn c165_18 (y_fit0 _) ⟨_, rfl, by omega, Or.inr rfl, hF, Or.inl hC0⟩
          · exfalso; omega
        · refine y_iload 5 c155_4 rfl rfl ?_
          refine y_iload 6 c155_5 rfl rfl ?_
          refine y_icmp 13 9 c155_6 rfl rfl (yc_ge (by omega) (by omega)) (fun hb5382 => ?_) (fun hb5382 => ?_)
          · refine y_iconst 14 c155_13 rfl ?_
            refine y_ireturnK c155_14 (y_fit1 (by omega)) ?_
            refine y_if 30 22 c164_19 rfl rfl (yz_eq (by omega)) (fun hb5383 => ?_) (fun hb5383 => ?_)
            · refine y_throwB c164_30 rfl ?_
              refine yK_in kh165_7_11 ?_
              refine y_astore 17 c165_15 rfl rfl rfl ?_
              refine y_iconst 18 c165_17 rfl ?_
              exact y_ireturn c165_18 (y_fit0 _) ⟨_, rfl, by omega, Or.inr rfl, hF, Or.inl hC0⟩
            · exfalso; omega
          · refine y_iconst 10 c155_9 rfl ?_
            refine y_goto 14 c155_10 rfl ?_
            refine y_ireturnK c155_14 (y_fit1 (by omega)) ?_
            refine y_if 30 22 c164_19 rfl rfl (yz_eq (by omega)) (fun hb5384 => ?_) (fun hb5384 => ?_)
            · exfalso; omega
            · refine y_aload 23 c164_22 rfl rfl rfl ?_
              refine y_iload 24 c164_23 rfl rfl ?_
              refine y_inlB 27 [.ref 0, yI c] [] [some (.ref 0), some (yI c)] c164_24 rfl rfl rfl rfl rfl (ycanO km157 ko0) kn157 rfl rfl ?_
              refine y_iload 1 c157_0 rfl rfl ?_
              refine y_aload 2 c157_1 rfl rfl rfl ?_
              refine y_getS 5 (B := 256) c157_2 rfl kf0_4 (by first | rfl | (rw [show m 0 4 = 0 from by have e : m 0 4 = m 0 4 := rfl; omega]; rfl)) ?_
              refine y_getX 8 (m 256 14) c157_5 rfl kf256_14 rfl ?_
              refine y_inlB 11 [yI c, yI (m 256 14)] [] [some (yI c), some (yI (m 256 14))] c157_8 rfl rfl rfl rfl rfl (ycanS km155) kn155 rfl rfl ?_
              refine y_iload 1 c155_0 rfl rfl ?_
              refine y_if 13 4 c155_1 rfl rfl (yz_lt (by omega)) (fun hb5385 => ?_) (fun hb5385 => ?_)
              · refine y_iconst 14 c155_13 rfl ?_
                refine y_ireturnK c155_14 (y_fit1 (by omega)) ?_
                refine y_ireturnK c157_11 (y_fit1 (by omega)) ?_
                refine y_if 38 30 c164_27 rfl rfl (yz_ne (by omega)) (fun hb5386 => ?_) (fun hb5386 => ?_)
                · exfalso; omega
                · refine y_throwB c164_30 rfl ?_
                  refine yK_in kh165_7_11 ?_
                  refine y_astore 17 c165_15 rfl rfl rfl ?_
                  refine y_iconst 18 c165_17 rfl ?_
                  exact y_ireturn c165_18 (y_fit0 _) ⟨_, rfl, by omega, Or.inr rfl, hF, Or.inl hC0⟩
              · refine y_iload 5 c155_4 rfl rfl ?_
                refine y_iload 6 c155_5 rfl rfl ?_
                refine y_icmp 13 9 c155_6 rfl rfl (yc_ge (by omega) (by omega)) (fun hb5387 => ?_) (fun hb5387 => ?_)
                · refine y_iconst 14 c155_13 rfl ?_
                  refine y_ireturnK c155_14 (y_fit1 (by omega)) ?_
                  refine y_ireturnK c157_11 (y_fit1 (by omega)) ?_
                  refine y_if 38 30 c164_27 rfl rfl (yz_ne (by omega)) (fun hb5388 => ?_) (fun hb5388 => ?_)
                  · exfalso; omega
                  · refine y_throwB c164_30 rfl ?_
                    refine yK_in kh165_7_11 ?_
                    refine y_astore 17 c165_15 rfl rfl rfl ?_
                    refine y_iconst 18 c165_17 rfl ?_
                    exact y_ireturn c165_18 (y_fit0 _) ⟨_, rfl, by omega, Or.inr rfl, hF, Or.inl hC0⟩
                · refine y_iconst 10 c155_9 rfl ?_
                  refine y_goto 14 c155_10 rfl ?_
                  refine y_ireturnK c155_14 (y_fit1 (by omega)) ?_
                  refine y_ireturnK c157_11 (y_fit1 (by omega)) ?_
                  refine y_if 38 30 c164_27 rfl rfl (yz_ne (by omega)) (fun hb5389 => ?_) (fun hb5389 => ?_)
                  · refine y_aload 39 c164_38 rfl rfl rfl ?_
                    refine y_getR 42 c164_39 rfl kf0_2 ?_
                    refine y_iload 43 c164_42 rfl rfl ?_
                    refine y_iload 44 c164_43 rfl rfl ?_
                    refine y_callAB 47 [.ref 8, yI a, yI b] [] c164_44 rfl rfl rfl rfl rfl (ycanO km83 ko8) (t83 (by omega) (by omega)) (fun Rq5390 mq5390 nq5390 hq5390 => ?_)
                    obtain ⟨rfl, rfl, hmq5390⟩ := hq5390
                    obtain rfl := hmq5390.symm
                    refine y_iload 48 c164_47 rfl rfl ?_
                    refine y_iaT 49 ((-2147483648)) 2147483647 c164_48 rfl (fa73 (by omega)) (by omega) hT (fz73 (by omega)) (fun v5391 hv5391 gv5391 => ?_)
                    refine y_ireturnK c164_49 (y_fit0 _) ?_
                    refine y_i2l 11 c165_10 rfl ?_
                    refine y_lastoreN 12 v5391 c165_11 rfl kl413 (by decide) (by rw [Int32.toInt_toInt64, y_rng (by omega)]) ?_
                    have hT5392 := hT.up 413 ((0 : Int).toNat) v5391 ((-2147483648)) 2147483647 rfl (by omega)
                    have hF5393 := hF.up 413 ((0 : Int).toNat) v5391 rfl
                    refine y_goto 19 c165_12 rfl ?_
                    refine y_iconst 20 c165_19 rfl ?_
                    exact y_ireturn c165_20 (y_fit0 _) ⟨_, rfl, by omega, Or.inl rfl, hF5393, Or.inl (CI.fr hC0 (by omega) (by omega) (by omega) hT5392 (fun a q ha => (yup_na (by omega))))⟩
                  · exfalso; omega
set_option maxRecDepth 100000 in
theorem t169_256 {L : Nat} {xs : Nat → Int32} {d nn : Nat} {m : yM} {a : Int} (ra : -2147483648 ≤ a ∧ a < 2147483648) {b : Int} (rb : -2147483648 ≤ b ∧ b < 2147483648) (hC : CI 256 326 0 m) : YC (gZ L xs) (d + 3) 169 [.ref 0, yI a, yI b, .ref 413] m nn (qW nn m) := by
  have hC0 := hC
  obtain ⟨hT, h04, h05, hS, hM2, h84⟩ := hC
  have hM : MP 266 m := hS.2.2.2.1
  have tb9 := hT.atp 256 9 0 6 rfl
  have tb10 := hT.atp 256 10 0 10 rfl
  have tb11 := hT.atp 256 11 0 8 rfl
  have tb12 := hT.atp 256 12 0 12 rfl
  have tb13 := hT.atp 256 13 0 8 rfl
  have tb14 := hT.atp 256 14 0 12 rfl
  have tb15 := hT.atp 256 15 0 48 rfl
  have tb16 := hT.atp 256 16 0 40 rfl
  refine YC.mkB [some (.ref 0), some (yI a), some (yI b), some (.ref 413), none] kn169 rfl rfl ?_
  have hF : Fr wCl m m := Fr.rf
  refine y_aload 1 c169_0 rfl rfl rfl ?_
  refine y_iconst 2 c169_1 rfl ?_
  refine y_aload 3 c169_2 rfl rfl rfl ?_
  refine y_iload 4 c169_3 rfl rfl ?_
  refine y_iload 5 c169_4 rfl rfl ?_
  refine y_inlB 8 [.ref 0, yI a, yI b] [yI 0, .ref 413] [some (.ref 0), some (yI a), some (yI b)] c169_5 rfl rfl rfl rfl rfl (ycanO km168 ko0) kn168 rfl rfl ?_
  refine y_iload 1 c168_0 rfl rfl ?_
  refine y_aload 2 c168_1 rfl rfl rfl ?_
  refine y_getS 5 (B := 256) c168_2 rfl kf0_4 (by first | rfl | (rw [show m 0 4 = 0 from by have e : m 0 4 = m 0 4 := rfl; omega]; rfl)) ?_
  refine y_getX 8 (m 256 12) c168_5 rfl kf256_12 rfl ?_
  refine y_inlB 11 [yI a, yI (m 256 12)] [] [some (yI a), some (yI (m 256 12))] c168_8 rfl rfl rfl rfl rfl (ycanS km155) kn155 rfl rfl ?_
  refine y_iload 1 c155_0 rfl rfl ?_
  refine y_if 13 4 c155_1 rfl rfl (yz_lt (by omega)) (fun hb5394 => ?_) (fun hb5394 => ?_)
  · refine y_iconst 14 c155_13 rfl ?_
    refine y_ireturnK c155_14 (y_fit1 (by omega)) ?_
    refine y_if 22 14 c168_11 rfl rfl (yz_eq (by omega)) (fun hb5395 => ?_) (fun hb5395 => ?_)
    · refine y_throwB c168_22 rfl ?_
      refine yK_in kh169_5_11 ?_
      refine y_astore 15 c169_13 rfl rfl rfl ?_
      refine y_iconst 16 c169_15 rfl ?_
      exact y_ireturn c169_16 (y_fit0 _) ⟨_, rfl, by omega, Or.inr rfl, hF, Or.inl hC0⟩
    · exfalso; omega
  · refine y_iload 5 c155_4 rfl rfl ?_
    refine y_iload 6 c155_5 rfl rfl ?_
    refine y_icmp 13 9 c155_6 rfl rfl (yc_ge (by omega) (by omega)) (fun hb5396 => ?_) (fun hb5396 => ?_)
    · refine y_iconst 14 c155_13 rfl ?_
      refine y_ireturnK c155_14 (y_fit1 (by omega)) ?_
      refine y_if 22 14 c168_11 rfl rfl (yz_eq (by omega)) (fun hb5397 => ?_) (fun hb5397 => ?_)
      · refine y_throwB c168_22 rfl ?_
        refine yK_in kh169_5_11 ?_
        refine y_astore 15 c169_13 rfl rfl rfl ?_
        refine y_iconst 16 c169_15 rfl ?_
        exact y_ireturn c169_16 (y_fit0 _) ⟨_, rfl, by omega, Or.inr rfl, hF, Or.inl hC0⟩
      · exfalso; omega
    · refine y_iconst 10 c155_9 rfl ?_
      refine y_goto 14 c155_10 rfl ?_
      refine y_ireturnK c155_14 (y_fit1 (by omega)) ?_
      refine y_if 22 14 c168_11 rfl rfl (yz_eq (by omega)) (fun hb5398 => ?_) (fun hb5398 => ?_)
      · exfalso; omega
      · refine y_aload 15 c168_14 rfl rfl rfl ?_
        refine y_iload 16 c168_15 rfl rfl ?_
        refine y_inlB 19 [.ref 0, yI b] [] [some (.ref 0), some (yI b)] c168_16 rfl rfl rfl rfl rfl (ycanO km167 ko0) kn167 rfl rfl ?_
        refine y_iload 1 c167_0 rfl rfl ?_
        refine y_aload 2 c167_1 rfl rfl rfl ?_
        refine y_getS 5 (B := 256) c167_2 rfl kf0_4 (by first | rfl | (rw [show m 0 4 = 0 from by have e : m 0 4 = m 0 4 := rfl; omega]; rfl)) ?_
        refine y_getX 8 (m 256 10) c167_5 rfl kf256_10 rfl ?_
        refine y_inlB 11 [yI b, yI (m 256 10)] [] [some (yI b), some (yI (m 256 10))] c167_8 rfl rfl rfl rfl rfl (ycanS km155) kn155 rfl rfl ?_
        refine y_iload 1 c155_0 rfl rfl ?_
        refine y_if 13 4 c155_1 rfl rfl (yz_lt (by omega)) (fun hb5399 => ?_) (fun hb5399 => ?_)
        · refine y_iconst 14 c155_13 rfl ?_
          refine y_ireturnK c155_14 (y_fit1 (by omega)) ?_
          refine y_ireturnK c167_11 (y_fit1 (by omega)) ?_
          refine y_if 30 22 c168_19 rfl rfl (yz_ne (by omega)) (fun hb5400 => ?_) (fun hb5400 => ?_)
          · exfalso; omega
          · refine y_throwB c168_22 rfl ?_
            refine yK_in kh169_5_11 ?_
            refine y_astore 15 c169_13 rfl rfl rfl ?_
            refine y_iconst 16 c169_15 rfl ?_
            exact y_ireturn c169_16 (y_fit0 _) ⟨_, rfl, by omega, Or.inr rfl, hF, Or.inl hC0⟩
        · refine y_iload 5 c155_4 rfl rfl ?_
          refine y_iload 6 c155_5 rfl rfl ?_
          refine y_icmp 13 9 c155_6 rfl rfl (yc_ge (by omega) (by omega)) (fun hb5401 => ?_) (fun hb5401 => ?_)
          · refine y_iconst 14 c155_13 rfl ?_
            refine y_ireturnK c155_14 (y_fit1 (by omega)) ?_
            refine y_ireturnK c167_11 (y_fit1 (by omega)) ?_
            refine y_if 30 22 c168_19 rfl rfl (yz_ne (by omega)) (fun hb5402 => ?_) (fun hb5402 => ?_)
            · exfalso; omega
            · refine y_throwB c168_22 rfl ?_
              refine yK_in kh169_5_11 ?_
              refine y_astore 15 c169_13 rfl rfl rfl ?_
              refine y_iconst 16 c169_15 rfl ?_
              exact y_ireturn c169_16 (y_fit0 _) ⟨_, rfl, by omega, Or.inr rfl, hF, Or.inl hC0⟩
          · refine y_iconst 10 c155_9 rfl ?_
            refine y_goto 14 c155_10 rfl ?_
            refine y_ireturnK c155_14 (y_fit1 (by omega)) ?_
            refine y_ireturnK c167_11 (y_fit1 (by omega)) ?_
            refine y_if 30 22 c168_19 rfl rfl (yz_ne (by omega)) (fun hb5403 => ?_) (fun hb5403 => ?_)
            · refine y_aload 31 c168_30 rfl rfl rfl ?_
              refine y_getR 34 c168_31 rfl kf0_2 ?_
              refine y_getR 37 c168_34 rfl kf8_1 ?_
              refine y_iload 38 c168_37 rfl rfl ?_
              refine y_aaload 39 c168_38 rfl kr58 (by omega) ?_
              refine y_iload 40 c168_39 rfl rfl ?_
              refine y_iaT 41 ((-2147483648)) 2147483647 c168_40 rfl (fa59 (by omega)) (by omega) hT (fz59 (by omega)) (fun v5404 hv5404 gv5404 => ?_)
              refine y_ireturnK c168_41 (y_fit0 _) ?_
              refine y_i2l 9 c169_8 rfl ?_
              refine y_lastoreN 10 v5404 c169_9 rfl kl413 (by decide) (by rw [Int32.toInt_toInt64, y_rng (by omega)]) ?_
              have hT5405 := hT.up 413 ((0 : Int).toNat) v5404 ((-2147483648)) 2147483647 rfl (by omega)
              have hF5406 := hF.up 413 ((0 : Int).toNat) v5404 rfl
              refine y_goto 17 c169_10 rfl ?_
              refine y_iconst 18 c169_17 rfl ?_
              exact y_ireturn c169_18 (y_fit0 _) ⟨_, rfl, by omega, Or.inl rfl, hF5406, Or.inl (CI.fr hC0 (by omega) (by omega) (by omega) hT5405 (fun a q ha => (yup_na (by omega))))⟩
            · exfalso; omega
set_option maxRecDepth 100000 in
theorem t173_256 {L : Nat} {xs : Nat → Int32} {d nn : Nat} {m : yM} {a : Int} (ra : -2147483648 ≤ a ∧ a < 2147483648) (hC : CI 256 326 0 m) : YC (gZ L xs) (d + 3) 173 [.ref 0, yI a, .ref 413] m nn (qW nn m) := by
  have hC0 := hC
  obtain ⟨hT, h04, h05, hS, hM2, h84⟩ := hC
  have hM : MP 266 m := hS.2.2.2.1
  have tb9 := hT.atp 256 9 0 6 rfl
  have tb10 := hT.atp 256 10 0 10 rfl
  have tb11 := hT.atp 256 11 0 8 rfl
  have tb12 := hT.atp 256 12 0 12 rfl
  have tb13 := hT.atp 256 13 0 8 rfl
  have tb14 := hT.atp 256 14 0 12 rfl
  have tb15 := hT.atp 256 15 0 48 rfl
  have tb16 := hT.atp 256 16 0 40 rfl
  refine YC.mkB [some (.ref 0), some (yI a), some (.ref 413), none] kn173 rfl rfl ?_
  have hF : Fr wCl m m := Fr.rf
  refine y_aload 1 c173_0 rfl rfl rfl ?_
  refine y_iconst 2 c173_1 rfl ?_
  refine y_aload 3 c173_2 rfl rfl rfl ?_
  refine y_iload 4 c173_3 rfl rfl ?_
  refine y_inlB 7 [.ref 0, yI a] [yI 0, .ref 413] [some (.ref 0), some (yI a)] c173_4 rfl rfl rfl rfl rfl (ycanO km172 ko0) kn172 rfl rfl ?_
  refine y_aload 1 c172_0 rfl rfl rfl ?_
  refine y_iload 2 c172_1 rfl rfl ?_
  refine y_inlB 5 [.ref 0, yI a] [] [some (.ref 0), some (yI a)] c172_2 rfl rfl rfl rfl rfl (ycanO km167 ko0) kn167 rfl rfl ?_
  refine y_iload 1 c167_0 rfl rfl ?_
  refine y_aload 2 c167_1 rfl rfl rfl ?_
  refine y_getS 5 (B := 256) c167_2 rfl kf0_4 (by first | rfl | (rw [show m 0 4 = 0 from by have e : m 0 4 = m 0 4 := rfl; omega]; rfl)) ?_
  refine y_getX 8 (m 256 10) c167_5 rfl kf256_10 rfl ?_
  refine y_inlB 11 [yI a, yI (m 256 10)] [] [some (yI a), some (yI (m 256 10))] c167_8 rfl rfl rfl rfl rfl (ycanS km155) kn155 rfl rfl ?_
  refine y_iload 1 c155_0 rfl rfl ?_
  refine y_if 13 4 c155_1 rfl rfl (yz_lt (by omega)) (fun hb5407 => ?_) (fun hb5407 => ?_)
  · refine y_iconst 14 c155_13 rfl ?_
    refine y_ireturnK c155_14 (y_fit1 (by omega)) ?_
    refine y_ireturnK c167_11 (y_fit1 (by omega)) ?_
    refine y_if 16 8 c172_5 rfl rfl (yz_ne (by omega)) (fun hb5408 => ?_) (fun hb5408 => ?_)
    · exfalso; omega
    · refine y_throwB c172_8 rfl ?_
      refine yK_in kh173_4_11 ?_
      refine y_astore 13 c173_12 rfl rfl rfl ?_
      refine y_iconst 14 c173_13 rfl ?_
      exact y_ireturn c173_14 (y_fit0 _) ⟨_, rfl, by omega, Or.inr rfl, hF, Or.inl hC0⟩
  · refine y_iload 5 c155_4 rfl rfl ?_
    refine y_iload 6 c155_5 rfl rfl ?_
    refine y_icmp 13 9 c155_6 rfl rfl (yc_ge (by omega) (by omega)) (fun hb5409 => ?_) (fun hb5409 => ?_)
    · refine y_iconst 14 c155_13 rfl ?_
      refine y_ireturnK c155_14 (y_fit1 (by omega)) ?_
      refine y_ireturnK c167_11 (y_fit1 (by omega)) ?_
      refine y_if 16 8 c172_5 rfl rfl (yz_ne (by omega)) (fun hb5410 => ?_) (fun hb5410 => ?_)
      · exfalso; omega
      · refine y_throwB c172_8 rfl ?_
        refine yK_in kh173_4_11 ?_
        refine y_astore 13 c173_12 rfl rfl rfl ?_
        refine y_iconst 14 c173_13 rfl ?_
        exact y_ireturn c173_14 (y_fit0 _) ⟨_, rfl, by omega, Or.inr rfl, hF, Or.inl hC0⟩
    · refine y_iconst 10 c155_9 rfl ?_
      refine y_goto 14 c155_10 rfl ?_
      refine y_ireturnK c155_14 (y_fit1 (by omega)) ?_
      refine y_ireturnK c167_11 (y_fit1 (by omega)) ?_
      refine y_if 16 8 c172_5 rfl rfl (yz_ne (by omega)) (fun hb5411 => ?_) (fun hb5411 => ?_)
      · refine y_aload 17 c172_16 rfl rfl rfl ?_
        refine y_getR 20 c172_17 rfl kf0_2 ?_
        refine y_getR 23 c172_20 rfl kf8_2 ?_
        refine y_iload 24 c172_23 rfl rfl ?_
        refine y_iaT 25 ((-2147483648)) 2147483647 c172_24 rfl ka71 (by omega) hT rfl (fun v5412 hv5412 gv5412 => ?_)
        refine y_ireturnK c172_25 (y_fit0 _) ?_
        refine y_i2l 8 c173_7 rfl ?_
        refine y_lastoreN 9 v5412 c173_8 rfl kl413 (by decide) (by rw [Int32.toInt_toInt64, y_rng (by omega)]) ?_
        have hT5413 := hT.up 413 ((0 : Int).toNat) v5412 ((-2147483648)) 2147483647 rfl (by omega)
        have hF5414 := hF.up 413 ((0 : Int).toNat) v5412 rfl
        refine y_goto 15 c173_9 rfl ?_
        refine y_iconst 16 c173_15 rfl ?_
        exact y_ireturn c173_16 (y_fit0 _) ⟨_, rfl, by omega, Or.inl rfl, hF5414, Or.inl (CI.fr hC0 (by omega) (by omega) (by omega) hT5413 (fun a q ha => (yup_na (by omega))))⟩
      · exfalso; omega
set_option maxRecDepth 100000 in
theorem t177_256 {L : Nat} {xs : Nat → Int32} {d nn : Nat} {m : yM} {a : Int} (ra : -2147483648 ≤ a ∧ a < 2147483648) (hC : CI 256 326 0 m) : YC (gZ L xs) (d + 3) 177 [.ref 0, yI a, .ref 413] m nn (qW nn m) := by
  have hC0 := hC
  obtain ⟨hT, h04, h05, hS, hM2, h84⟩ := hC
  have hM : MP 266 m := hS.2.2.2.1
  have tb9 := hT.atp 256 9 0 6 rfl
  have tb10 := hT.atp 256 10 0 10 rfl
  have tb11 := hT.atp 256 11 0 8 rfl
  have tb12 := hT.atp 256 12 0 12 rfl
  have tb13 := hT.atp 256 13 0 8 rfl
  have tb14 := hT.atp 256 14 0 12 rfl
  have tb15 := hT.atp 256 15 0 48 rfl
  have tb16 := hT.atp 256 16 0 40 rfl
  refine YC.mkB [some (.ref 0), some (yI a), some (.ref 413), none] kn177 rfl rfl ?_
  have hF : Fr wCl m m := Fr.rf
  refine y_aload 1 c177_0 rfl rfl rfl ?_
  refine y_iconst 2 c177_1 rfl ?_
  refine y_aload 3 c177_2 rfl rfl rfl ?_
  refine y_iload 4 c177_3 rfl rfl ?_
  refine y_inlB 7 [.ref 0, yI a] [yI 0, .ref 413] [some (.ref 0), some (yI a)] c177_4 rfl rfl rfl rfl rfl (ycanO km176 ko0) kn176 rfl rfl ?_
  refine y_iload 1 c176_0 rfl rfl ?_
  refine y_aload 2 c176_1 rfl rfl rfl ?_
  refine y_getS 5 (B := 256) c176_2 rfl kf0_4 (by first | rfl | (rw [show m 0 4 = 0 from by have e : m 0 4 = m 0 4 := rfl; omega]; rfl)) ?_
  refine y_getX 8 (m 256 13) c176_5 rfl kf256_13 rfl ?_
  refine y_inlB 11 [yI a, yI (m 256 13)] [] [some (yI a), some (yI (m 256 13))] c176_8 rfl rfl rfl rfl rfl (ycanS km155) kn155 rfl rfl ?_
  refine y_iload 1 c155_0 rfl rfl ?_
  refine y_if 13 4 c155_1 rfl rfl (yz_lt (by omega)) (fun hb5415 => ?_) (fun hb5415 => ?_)
  · refine y_iconst 14 c155_13 rfl ?_
    refine y_ireturnK c155_14 (y_fit1 (by omega)) ?_
    refine y_if 22 14 c176_11 rfl rfl (yz_ne (by omega)) (fun hb5416 => ?_) (fun hb5416 => ?_)
    · exfalso; omega
    · refine y_throwB c176_14 rfl ?_
      refine yK_in kh177_4_11 ?_
      refine y_astore 13 c177_12 rfl rfl rfl ?_
      refine y_iconst 14 c177_13 rfl ?_
      exact y_ireturn c177_14 (y_fit0 _) ⟨_, rfl, by omega, Or.inr rfl, hF, Or.inl hC0⟩
  · refine y_iload 5 c155_4 rfl rfl ?_
    refine y_iload 6 c155_5 rfl rfl ?_
    refine y_icmp 13 9 c155_6 rfl rfl (yc_ge (by omega) (by omega)) (fun hb5417 => ?_) (fun hb5417 => ?_)
    · refine y_iconst 14 c155_13 rfl ?_
      refine y_ireturnK c155_14 (y_fit1 (by omega)) ?_
      refine y_if 22 14 c176_11 rfl rfl (yz_ne (by omega)) (fun hb5418 => ?_) (fun hb5418 => ?_)
      · exfalso; omega
      · refine y_throwB c176_14 rfl ?_
        refine yK_in kh177_4_11 ?_
        refine y_astore 13 c177_12 rfl rfl rfl ?_
        refine y_iconst 14 c177_13 rfl ?_
        exact y_ireturn c177_14 (y_fit0 _) ⟨_, rfl, by omega, Or.inr rfl, hF, Or.inl hC0⟩
    · refine y_iconst 10 c155_9 rfl ?_
      refine y_goto 14 c155_10 rfl ?_
      refine y_ireturnK c155_14 (y_fit1 (by omega)) ?_
      refine y_if 22 14 c176_11 rfl rfl (yz_ne (by omega)) (fun hb5419 => ?_) (fun hb5419 => ?_)
      · refine y_aload 23 c176_22 rfl rfl rfl ?_
        refine y_getR 26 c176_23 rfl kf0_2 ?_
        refine y_aload 27 c176_26 rfl rfl rfl ?_
        refine y_getS 30 (B := 256) c176_27 rfl kf0_4 (by first | rfl | (rw [show m 0 4 = 0 from by have e : m 0 4 = m 0 4 := rfl; omega]; rfl)) ?_
        refine y_getR 33 c176_30 rfl kf256_6 ?_
        refine y_aload 34 c176_33 rfl rfl rfl ?_
        refine y_getS 37 (B := 256) c176_34 rfl kf0_4 (by first | rfl | (rw [show m 0 4 = 0 from by have e : m 0 4 = m 0 4 := rfl; omega]; rfl)) ?_
        refine y_getR 40 c176_37 rfl kf256_8 ?_
        refine y_iload 41 c176_40 rfl rfl ?_
        refine y_iaT 42 0 39 c176_41 rfl ka265 (by omega) hT rfl (fun v5420 hv5420 gv5420 => ?_)
        refine y_aaload 43 c176_42 rfl kr263 (by omega) ?_
        obtain ⟨jc, e1, e2, e3, e4⟩ : ∃ j : Nat, m 265 a.toNat = j ∧ (0 : Int) ≤ j ∧ (j : Int) < m 256 16 ∧ m (276 + j) 0 = 7 := hS.1.2.2 a.toNat (by omega) (by omega)
        have hsv : 0 ≤ m (276 + jc) 2 ∧ 0 ≤ m (276 + jc) 3 := (hS.1.1 jc (by omega) (by omega)).1.2.1 (Or.inr (Or.inr (Or.inl e4)))
        have ejc : jc = v5420.toNat := by omega
        subst ejc
        have h3c : 0 ≤ m (276 + v5420.toNat) 3 := hsv.2
        refine y_callP 46 [.ref 8, .ref (276 + v5420.toNat)] [] c176_43 rfl rfl rfl rfl rfl (ycanO km175 ko8) (t175_256 hT (by omega) (by omega) h3c) (fun r5421 hr5421 => ?_)
        refine y_if 53 49 c176_46 rfl rfl (yz_eq (by omega)) (fun hb5422 => ?_) (fun hb5422 => ?_)
        · refine y_iconst 54 c176_53 rfl ?_
          refine y_ireturnK c176_54 (y_fit0 _) ?_
          refine y_i2l 8 c177_7 rfl ?_
          refine y_lastoreN 9 0 c177_8 rfl kl413 (by decide) (by rw [Int32.toInt_toInt64, y_rng (by omega)]) ?_
          have hT5423 := hT.up 413 ((0 : Int).toNat) 0 ((-2147483648)) 2147483647 rfl (by omega)
          have hF5424 := hF.up 413 ((0 : Int).toNat) 0 rfl
          refine y_goto 15 c177_9 rfl ?_
          refine y_iconst 16 c177_15 rfl ?_
          exact y_ireturn c177_16 (y_fit0 _) ⟨_, rfl, by omega, Or.inl rfl, hF5424, Or.inl (CI.fr hC0 (by omega) (by omega) (by omega) hT5423 (fun a q ha => (yup_na (by omega))))⟩
        · refine y_iconst 50 c176_49 rfl ?_
          refine y_goto 54 c176_50 rfl ?_
          refine y_ireturnK c176_54 (y_fit0 _) ?_
          refine y_i2l 8 c177_7 rfl ?_
          refine y_lastoreN 9 1 c177_8 rfl kl413 (by decide) (by rw [Int32.toInt_toInt64, y_rng (by omega)]) ?_
          have hT5425 := hT.up 413 ((0 : Int).toNat) 1 ((-2147483648)) 2147483647 rfl (by omega)
          have hF5426 := hF.up 413 ((0 : Int).toNat) 1 rfl
          refine y_goto 15 c177_9 rfl ?_
          refine y_iconst 16 c177_15 rfl ?_
          exact y_ireturn c177_16 (y_fit0 _) ⟨_, rfl, by omega, Or.inl rfl, hF5426, Or.inl (CI.fr hC0 (by omega) (by omega) (by omega) hT5425 (fun a q ha => (yup_na (by omega))))⟩
      · exfalso; omega
set_option maxRecDepth 100000 in
theorem t181_256 {L : Nat} {xs : Nat → Int32} {d nn : Nat} {m : yM} {a : Int} (ra : -2147483648 ≤ a ∧ a < 2147483648) {b : Int} (rb : -2147483648 ≤ b ∧ b < 2147483648) (hC : CI 256 326 0 m) : YC (gZ L xs) (d + 3) 181 [.ref 0, yI a, yI b, .ref 413] m nn (qW nn m) := by
  have hC0 := hC
  obtain ⟨hT, h04, h05, hS, hM2, h84⟩ := hC
  have hM : MP 266 m := hS.2.2.2.1
  have tb9 := hT.atp 256 9 0 6 rfl
  have tb10 := hT.atp 256 10 0 10 rfl
  have tb11 := hT.atp 256 11 0 8 rfl
  have tb12 := hT.atp 256 12 0 12 rfl
  have tb13 := hT.atp 256 13 0 8 rfl
  have tb14 := hT.atp 256 14 0 12 rfl
  have tb15 := hT.atp 256 15 0 48 rfl
  have tb16 := hT.atp 256 16 0 40 rfl
  refine YC.mkB [some (.ref 0), some (yI a), some (yI b), some (.ref 413), none] kn181 rfl rfl ?_
  have hF : Fr wCl m m := Fr.rf
  refine y_aload 1 c181_0 rfl rfl rfl ?_
  refine y_iconst 2 c181_1 rfl ?_
  refine y_aload 3 c181_2 rfl rfl rfl ?_
  refine y_iload 4 c181_3 rfl rfl ?_
  refine y_iload 5 c181_4 rfl rfl ?_
  refine y_inlB 8 [.ref 0, yI a, yI b] [yI 0, .ref 413] [some (.ref 0), some (yI a), some (yI b)] c181_5 rfl rfl rfl rfl rfl (ycanO km180 ko0) kn180 rfl rfl ?_
  refine y_aload 1 c180_0 rfl rfl rfl ?_
  refine y_iload 2 c180_1 rfl rfl ?_
  refine y_inlB 5 [.ref 0, yI a] [] [some (.ref 0), some (yI a)] c180_2 rfl rfl rfl rfl rfl (ycanO km156 ko0) kn156 rfl rfl ?_
  refine y_iload 1 c156_0 rfl rfl ?_
  refine y_aload 2 c156_1 rfl rfl rfl ?_
  refine y_getS 5 (B := 256) c156_2 rfl kf0_4 (by first | rfl | (rw [show m 0 4 = 0 from by have e : m 0 4 = m 0 4 := rfl; omega]; rfl)) ?_
  refine y_getX 8 (m 256 15) c156_5 rfl kf256_15 rfl ?_
  refine y_inlB 11 [yI a, yI (m 256 15)] [] [some (yI a), some (yI (m 256 15))] c156_8 rfl rfl rfl rfl rfl (ycanS km155) kn155 rfl rfl ?_
  refine y_iload 1 c155_0 rfl rfl ?_
  refine y_if 13 4 c155_1 rfl rfl (yz_lt (by omega)) (fun hb5427 => ?_) (fun hb5427 => ?_)
  · refine y_iconst 14 c155_13 rfl ?_
    refine y_ireturnK c155_14 (y_fit1 (by omega)) ?_
    refine y_ireturnK c156_11 (y_fit1 (by omega)) ?_
    refine y_if 16 8 c180_5 rfl rfl (yz_eq (by omega)) (fun hb5428 => ?_) (fun hb5428 => ?_)
    · refine y_throwB c180_16 rfl ?_
      refine yK_in kh181_5_11 ?_
      refine y_astore 15 c181_13 rfl rfl rfl ?_
      refine y_iconst 16 c181_15 rfl ?_
      exact y_ireturn c181_16 (y_fit0 _) ⟨_, rfl, by omega, Or.inr rfl, hF, Or.inl hC0⟩
    · exfalso; omega
  · refine y_iload 5 c155_4 rfl rfl ?_
    refine y_iload 6 c155_5 rfl rfl ?_
    refine y_icmp 13 9 c155_6 rfl rfl (yc_ge (by omega) (by omega)) (fun hb5429 => ?_) (fun hb5429 => ?_)
    · refine y_iconst 14 c155_13 rfl ?_
      refine y_ireturnK c155_14 (y_fit1 (by omega)) ?_
      refine y_ireturnK c156_11 (y_fit1 (by omega)) ?_
      refine y_if 16 8 c180_5 rfl rfl (yz_eq (by omega)) (fun hb5430 => ?_) (fun hb5430 => ?_)
      · refine y_throwB c180_16 rfl ?_
        refine yK_in kh181_5_11 ?_
        refine y_astore 15 c181_13 rfl rfl rfl ?_
        refine y_iconst 16 c181_15 rfl ?_
        exact y_ireturn c181_16 (y_fit0 _) ⟨_, rfl, by omega, Or.inr rfl, hF, Or.inl hC0⟩
      · exfalso; omega
    · refine y_iconst 10 c155_9 rfl ?_
      refine y_goto 14 c155_10 rfl ?_
      refine y_ireturnK c155_14 (y_fit1 (by omega)) ?_
      refine y_ireturnK c156_11 (y_fit1 (by omega)) ?_
      refine y_if 16 8 c180_5 rfl rfl (yz_eq (by omega)) (fun hb5431 => ?_) (fun hb5431 => ?_)
      · exfalso; omega
      · refine y_aload 9 c180_8 rfl rfl rfl ?_
        refine y_iload 10 c180_9 rfl rfl ?_
        refine y_inlB 13 [.ref 0, yI b] [] [some (.ref 0), some (yI b)] c180_10 rfl rfl rfl rfl rfl (ycanO km156 ko0) kn156 rfl rfl ?_
        refine y_iload 1 c156_0 rfl rfl ?_
        refine y_aload 2 c156_1 rfl rfl rfl ?_
        refine y_getS 5 (B := 256) c156_2 rfl kf0_4 (by first | rfl | (rw [show m 0 4 = 0 from by have e : m 0 4 = m 0 4 := rfl; omega]; rfl)) ?_
        refine y_getX 8 (m 256 15) c156_5 rfl kf256_15 rfl ?_
        refine y_inlB 11 [yI b, yI (m 256 15)] [] [some (yI b), some (yI (m 256 15))] c156_8 rfl rfl rfl rfl rfl (ycanS km155) kn155 rfl rfl ?_
        refine y_iload 1 c155_0 rfl rfl ?_
        refine y_if 13 4 c155_1 rfl rfl (yz_lt (by omega)) (fun hb5432 => ?_) (fun hb5432 => ?_)
        · refine y_iconst 14 c155_13 rfl ?_
          refine y_ireturnK c155_14 (y_fit1 (by omega)) ?_
          refine y_ireturnK c156_11 (y_fit1 (by omega)) ?_
          refine y_if 24 16 c180_13 rfl rfl (yz_ne (by omega)) (fun hb5433 => ?_) (fun hb5433 => ?_)
          · exfalso; omega
          · refine y_throwB c180_16 rfl ?_
            refine yK_in kh181_5_11 ?_
            refine y_astore 15 c181_13 rfl rfl rfl ?_
            refine y_iconst 16 c181_15 rfl ?_
            exact y_ireturn c181_16 (y_fit0 _) ⟨_, rfl, by omega, Or.inr rfl, hF, Or.inl hC0⟩
        · refine y_iload 5 c155_4 rfl rfl ?_
          refine y_iload 6 c155_5 rfl rfl ?_
          refine y_icmp 13 9 c155_6 rfl rfl (yc_ge (by omega) (by omega)) (fun hb5434 => ?_) (fun hb5434 => ?_)
          · refine y_iconst 14 c155_13 rfl ?_
            refine y_ireturnK c155_14 (y_fit1 (by omega)) ?_
            refine y_ireturnK c156_11 (y_fit1 (by omega)) ?_
            refine y_if 24 16 c180_13 rfl rfl (yz_ne (by omega)) (fun hb5435 => ?_) (fun hb5435 => ?_)
            · exfalso; omega
            · refine y_throwB c180_16 rfl ?_
              refine yK_in kh181_5_11 ?_
              refine y_astore 15 c181_13 rfl rfl rfl ?_
              refine y_iconst 16 c181_15 rfl ?_
              exact y_ireturn c181_16 (y_fit0 _) ⟨_, rfl, by omega, Or.inr rfl, hF, Or.inl hC0⟩
          · refine y_iconst 10 c155_9 rfl ?_
            refine y_goto 14 c155_10 rfl ?_
            refine y_ireturnK c155_14 (y_fit1 (by omega)) ?_
            refine y_ireturnK c156_11 (y_fit1 (by omega)) ?_
            refine y_if 24 16 c180_13 rfl rfl (yz_ne (by omega)) (fun hb5436 => ?_) (fun hb5436 => ?_)
            · refine y_aload 25 c180_24 rfl rfl rfl ?_
              refine y_getR 28 c180_25 rfl kf0_2 ?_
              refine y_iload 29 c180_28 rfl rfl ?_
              refine y_iload 30 c180_29 rfl rfl ?_
              refine y_callP 33 [.ref 8, yI a, yI b] [] c180_30 rfl rfl rfl rfl rfl (ycanO km179 ko8) (t179_256 hT (by omega) (by omega) (by omega)) (fun r5437 hr5437 => ?_)
              refine y_if 40 36 c180_33 rfl rfl (yz_eq (by omega)) (fun hb5438 => ?_) (fun hb5438 => ?_)
              · refine y_iconst 41 c180_40 rfl ?_
                refine y_ireturnK c180_41 (y_fit0 _) ?_
                refine y_i2l 9 c181_8 rfl ?_
                refine y_lastoreN 10 0 c181_9 rfl kl413 (by decide) (by rw [Int32.toInt_toInt64, y_rng (by omega)]) ?_
                have hT5439 := hT.up 413 ((0 : Int).toNat) 0 ((-2147483648)) 2147483647 rfl (by omega)
                have hF5440 := hF.up 413 ((0 : Int).toNat) 0 rfl
                refine y_goto 17 c181_10 rfl ?_
                refine y_iconst 18 c181_17 rfl ?_
                exact y_ireturn c181_18 (y_fit0 _) ⟨_, rfl, by omega, Or.inl rfl, hF5440, Or.inl (CI.fr hC0 (by omega) (by omega) (by omega) hT5439 (fun a q ha => (yup_na (by omega))))⟩
              · refine y_iconst 37 c180_36 rfl ?_
                refine y_goto 41 c180_37 rfl ?_
                refine y_ireturnK c180_41 (y_fit0 _) ?_
                refine y_i2l 9 c181_8 rfl ?_
                refine y_lastoreN 10 1 c181_9 rfl kl413 (by decide) (by rw [Int32.toInt_toInt64, y_rng (by omega)]) ?_
                have hT5441 := hT.up 413 ((0 : Int).toNat) 1 ((-2147483648)) 2147483647 rfl (by omega)
                have hF5442 := hF.up 413 ((0 : Int).toNat) 1 rfl
                refine y_goto 17 c181_10 rfl ?_
                refine y_iconst 18 c181_17 rfl ?_
                exact y_ireturn c181_18 (y_fit0 _) ⟨_, rfl, by omega, Or.inl rfl, hF5442, Or.inl (CI.fr hC0 (by omega) (by omega) (by omega) hT5441 (fun a q ha => (yup_na (by omega))))⟩
            · exfalso; omega
set_option maxRecDepth 100000 in
theorem t184_256 {L : Nat} {xs : Nat → Int32} {d nn : Nat} {m : yM} {a : Int} (ra : -2147483648 ≤ a ∧ a < 2147483648) {b : Int} (rb : -2147483648 ≤ b ∧ b < 2147483648) (hC : CI 256 326 0 m) : YC (gZ L xs) (d + 3) 184 [.ref 0, yI a, yI b, .ref 413] m nn (qW nn m) := by
  have hC0 := hC
  obtain ⟨hT, h04, h05, hS, hM2, h84⟩ := hC
  have hM : MP 266 m := hS.2.2.2.1
  have tb9 := hT.atp 256 9 0 6 rfl
  have tb10 := hT.atp 256 10 0 10 rfl
  have tb11 := hT.atp 256 11 0 8 rfl
  have tb12 := hT.atp 256 12 0 12 rfl
  have tb13 := hT.atp 256 13 0 8 rfl
  have tb14 := hT.atp 256 14 0 12 rfl
  have tb15 := hT.atp 256 15 0 48 rfl
  have tb16 := hT.atp 256 16 0 40 rfl
  refine YC.mkB [some (.ref 0), some (yI a), some (yI b), some (.ref 413), none] kn184 rfl rfl ?_
  have hF : Fr wCl m m := Fr.rf
  refine y_aload 1 c184_0 rfl rfl rfl ?_
  refine y_iconst 2 c184_1 rfl ?_
  refine y_aload 3 c184_2 rfl rfl rfl ?_
  refine y_iload 4 c184_3 rfl rfl ?_
  refine y_iload 5 c184_4 rfl rfl ?_
  refine y_inlB 8 [.ref 0, yI a, yI b] [yI 0, .ref 413] [some (.ref 0), some (yI a), some (yI b), none] c184_5 rfl rfl rfl rfl rfl (ycanO km183 ko0) kn183 rfl rfl ?_
  refine y_aload 1 c183_0 rfl rfl rfl ?_
  refine y_iload 2 c183_1 rfl rfl ?_
  refine y_inlB 5 [.ref 0, yI a] [] [some (.ref 0), some (yI a)] c183_2 rfl rfl rfl rfl rfl (ycanO km167 ko0) kn167 rfl rfl ?_
  refine y_iload 1 c167_0 rfl rfl ?_
  refine y_aload 2 c167_1 rfl rfl rfl ?_
  refine y_getS 5 (B := 256) c167_2 rfl kf0_4 (by first | rfl | (rw [show m 0 4 = 0 from by have e : m 0 4 = m 0 4 := rfl; omega]; rfl)) ?_
  refine y_getX 8 (m 256 10) c167_5 rfl kf256_10 rfl ?_
  refine y_inlB 11 [yI a, yI (m 256 10)] [] [some (yI a), some (yI (m 256 10))] c167_8 rfl rfl rfl rfl rfl (ycanS km155) kn155 rfl rfl ?_
  refine y_iload 1 c155_0 rfl rfl ?_
  refine y_if 13 4 c155_1 rfl rfl (yz_lt (by omega)) (fun hb5443 => ?_) (fun hb5443 => ?_)
  · refine y_iconst 14 c155_13 rfl ?_
    refine y_ireturnK c155_14 (y_fit1 (by omega)) ?_
    refine y_ireturnK c167_11 (y_fit1 (by omega)) ?_
    refine y_if 16 8 c183_5 rfl rfl (yz_ne (by omega)) (fun hb5444 => ?_) (fun hb5444 => ?_)
    · exfalso; omega
    · refine y_throwB c183_8 rfl ?_
      refine yK_in kh184_5_11 ?_
      refine y_astore 15 c184_13 rfl rfl rfl ?_
      refine y_iconst 16 c184_15 rfl ?_
      exact y_ireturn c184_16 (y_fit0 _) ⟨_, rfl, by omega, Or.inr rfl, hF, Or.inl hC0⟩
  · refine y_iload 5 c155_4 rfl rfl ?_
    refine y_iload 6 c155_5 rfl rfl ?_
    refine y_icmp 13 9 c155_6 rfl rfl (yc_ge (by omega) (by omega)) (fun hb5445 => ?_) (fun hb5445 => ?_)
    · refine y_iconst 14 c155_13 rfl ?_
      refine y_ireturnK c155_14 (y_fit1 (by omega)) ?_
      refine y_ireturnK c167_11 (y_fit1 (by omega)) ?_
      refine y_if 16 8 c183_5 rfl rfl (yz_ne (by omega)) (fun hb5446 => ?_) (fun hb5446 => ?_)
      · exfalso; omega
      · refine y_throwB c183_8 rfl ?_
        refine yK_in kh184_5_11 ?_
        refine y_astore 15 c184_13 rfl rfl rfl ?_
        refine y_iconst 16 c184_15 rfl ?_
        exact y_ireturn c184_16 (y_fit0 _) ⟨_, rfl, by omega, Or.inr rfl, hF, Or.inl hC0⟩
    · refine y_iconst 10 c155_9 rfl ?_
      refine y_goto 14 c155_10 rfl ?_
      refine y_ireturnK c155_14 (y_fit1 (by omega)) ?_
      refine y_ireturnK c167_11 (y_fit1 (by omega)) ?_
      refine y_if 16 8 c183_5 rfl rfl (yz_ne (by omega)) (fun hb5447 => ?_) (fun hb5447 => ?_)
      · refine y_aload 17 c183_16 rfl rfl rfl ?_
        refine y_getS 20 (B := 256) c183_17 rfl kf0_4 (by first | rfl | (rw [show m 0 4 = 0 from by have e : m 0 4 = m 0 4 := rfl; omega]; rfl)) ?_
        refine y_getR 23 c183_20 rfl kf256_5 ?_
        refine y_iload 24 c183_23 rfl rfl ?_
        refine y_aaload 25 c183_24 rfl kr262 (by omega) ?_
        refine y_astore 26 c183_25 rfl rfl rfl ?_
        refine y_iload 27 c183_26 rfl rfl ?_
        by_cases hk5448 : b = 0
        · refine y_top 0 hk5448 ?_
          refine y_tsw 60 c183_27 (by decide) (by decide) rfl rfl ?_
          refine y_aload 61 c183_60 rfl rfl rfl ?_
          refine y_getX 64 (m (266 + a.toNat) 2) c183_61 rfl (ff266_2 (by omega)) rfl ?_
          have tb5449 := hT.atp (266 + a.toNat) 2 0 46 (ft266_2 (by omega))
          refine y_ireturnK c183_64 (y_fit0 _) ?_
          refine y_i2l 9 c184_8 rfl ?_
          refine y_lastoreN 10 (m (266 + a.toNat) 2) c184_9 rfl kl413 (by decide) (by rw [Int32.toInt_toInt64, y_rng (by omega)]) ?_
          have hT5450 := hT.up 413 ((0 : Int).toNat) (m (266 + a.toNat) 2) ((-2147483648)) 2147483647 rfl (by omega)
          have hF5451 := hF.up 413 ((0 : Int).toNat) (m (266 + a.toNat) 2) rfl
          refine y_goto 21 c184_10 rfl ?_
          refine y_iconst 22 c184_21 rfl ?_
          exact y_ireturn c184_22 (y_fit0 _) ⟨_, rfl, by omega, Or.inl rfl, hF5451, Or.inl (CI.fr hC0 (by omega) (by omega) (by omega) hT5450 (fun a q ha => (yup_na (by omega))))⟩
        by_cases hk5452 : b = 1
        · refine y_top 1 hk5452 ?_
          refine y_tsw 65 c183_27 (by decide) (by decide) rfl rfl ?_
          refine y_aload 66 c183_65 rfl rfl rfl ?_
          refine y_callP 69 [.ref (266 + a.toNat)] [] c183_66 rfl rfl rfl rfl rfl (ycanO km57 (fo266 (by omega))) (t57_256 hT (by omega)) (fun r5453 hr5453 => ?_)
          refine y_ireturnK c183_69 (y_fit0 _) ?_
          refine y_i2l 9 c184_8 rfl ?_
          refine y_lastoreN 10 r5453 c184_9 rfl kl413 (by decide) (by rw [Int32.toInt_toInt64, y_rng (by omega)]) ?_
          have hT5454 := hT.up 413 ((0 : Int).toNat) r5453 ((-2147483648)) 2147483647 rfl (by omega)
          have hF5455 := hF.up 413 ((0 : Int).toNat) r5453 rfl
          refine y_goto 21 c184_10 rfl ?_
          refine y_iconst 22 c184_21 rfl ?_
          exact y_ireturn c184_22 (y_fit0 _) ⟨_, rfl, by omega, Or.inl rfl, hF5455, Or.inl (CI.fr hC0 (by omega) (by omega) (by omega) hT5454 (fun a q ha => (yup_na (by omega))))⟩
        by_cases hk5456 : b = 2
        · refine y_top 2 hk5456 ?_
          refine y_tsw 70 c183_27 (by decide) (by decide) rfl rfl ?_
          refine y_aload 71 c183_70 rfl rfl rfl ?_
          refine y_iconst 72 c183_71 rfl ?_
          refine y_callP 75 [.ref (266 + a.toNat), yI 0] [] c183_72 rfl rfl rfl rfl rfl (ycanO km87 (fo266 (by omega))) (t87_256 hT (by omega) (by omega) hM) (fun r5457 hr5457 => ?_)
          refine y_ireturnK c183_75 (y_fit0 _) ?_
          refine y_i2l 9 c184_8 rfl ?_
          refine y_lastoreN 10 r5457 c184_9 rfl kl413 (by decide) (by rw [Int32.toInt_toInt64, y_rng (by omega)]) ?_
          have hT5458 := hT.up 413 ((0 : Int).toNat) r5457 ((-2147483648)) 2147483647 rfl (by omega)
          have hF5459 := hF.up 413 ((0 : Int).toNat) r5457 rfl
          refine y_goto 21 c184_10 rfl ?_
          refine y_iconst 22 c184_21 rfl ?_
          exact y_ireturn c184_22 (y_fit0 _) ⟨_, rfl, by omega, Or.inl rfl, hF5459, Or.inl (CI.fr hC0 (by omega) (by omega) (by omega) hT5458 (fun a q ha => (yup_na (by omega))))⟩
        by_cases hk5460 : b = 3
        · refine y_top 3 hk5460 ?_
          refine y_tsw 76 c183_27 (by decide) (by decide) rfl rfl ?_
          refine y_aload 77 c183_76 rfl rfl rfl ?_
          refine y_iconst 78 c183_77 rfl ?_
          refine y_callP 81 [.ref (266 + a.toNat), yI 1] [] c183_78 rfl rfl rfl rfl rfl (ycanO km87 (fo266 (by omega))) (t87_256 hT (by omega) (by omega) hM) (fun r5461 hr5461 => ?_)
          refine y_ireturnK c183_81 (y_fit0 _) ?_
          refine y_i2l 9 c184_8 rfl ?_
          refine y_lastoreN 10 r5461 c184_9 rfl kl413 (by decide) (by rw [Int32.toInt_toInt64, y_rng (by omega)]) ?_
          have hT5462 := hT.up 413 ((0 : Int).toNat) r5461 ((-2147483648)) 2147483647 rfl (by omega)
          have hF5463 := hF.up 413 ((0 : Int).toNat) r5461 rfl
          refine y_goto 21 c184_10 rfl ?_
          refine y_iconst 22 c184_21 rfl ?_
          exact y_ireturn c184_22 (y_fit0 _) ⟨_, rfl, by omega, Or.inl rfl, hF5463, Or.inl (CI.fr hC0 (by omega) (by omega) (by omega) hT5462 (fun a q ha => (yup_na (by omega))))⟩
        by_cases hk5464 : b = 4
        · refine y_top 4 hk5464 ?_
          refine y_tsw 82 c183_27 (by decide) (by decide) rfl rfl ?_
          refine y_aload 83 c183_82 rfl rfl rfl ?_
          refine y_getX 86 (m (266 + a.toNat) 1) c183_83 rfl (ff266_1 (by omega)) rfl ?_
          have tb5465 := hT.atp (266 + a.toNat) 1 0 5 (ft266_1 (by omega))
          refine y_ireturnK c183_86 (y_fit0 _) ?_
          refine y_i2l 9 c184_8 rfl ?_
          refine y_lastoreN 10 (m (266 + a.toNat) 1) c184_9 rfl kl413 (by decide) (by rw [Int32.toInt_toInt64, y_rng (by omega)]) ?_
          have hT5466 := hT.up 413 ((0 : Int).toNat) (m (266 + a.toNat) 1) ((-2147483648)) 2147483647 rfl (by omega)
          have hF5467 := hF.up 413 ((0 : Int).toNat) (m (266 + a.toNat) 1) rfl
          refine y_goto 21 c184_10 rfl ?_
          refine y_iconst 22 c184_21 rfl ?_
          exact y_ireturn c184_22 (y_fit0 _) ⟨_, rfl, by omega, Or.inl rfl, hF5467, Or.inl (CI.fr hC0 (by omega) (by omega) (by omega) hT5466 (fun a q ha => (yup_na (by omega))))⟩
        refine y_tswd 87 c183_27 (by omega) (by omega) rfl ?_
        refine y_throwB c183_87 rfl ?_
        refine yK_in kh184_5_9 ?_
        refine y_astore 19 c184_17 rfl rfl rfl ?_
        refine y_iconst 20 c184_19 rfl ?_
        exact y_ireturn c184_20 (y_fit0 _) ⟨_, rfl, by omega, Or.inr rfl, hF, Or.inl hC0⟩
      · exfalso; omega
set_option maxRecDepth 100000 in
theorem t213_256 {L : Nat} {xs : Nat → Int32} {d nn : Nat} {m : yM} {a : Int} (ra : -2147483648 ≤ a ∧ a < 2147483648) {b : Int} (rb : -2147483648 ≤ b ∧ b < 2147483648) (hC : CI 256 326 0 m) : YC (gZ L xs) (d + 3) 213 [.ref 0, yI a, yI b, .ref 413] m nn (qW nn m) := by
  have hC0 := hC
  obtain ⟨hT, h04, h05, hS, hM2, h84⟩ := hC
  have hM : MP 266 m := hS.2.2.2.1
  have tb9 := hT.atp 256 9 0 6 rfl
  have tb10 := hT.atp 256 10 0 10 rfl
  have tb11 := hT.atp 256 11 0 8 rfl
  have tb12 := hT.atp 256 12 0 12 rfl
  have tb13 := hT.atp 256 13 0 8 rfl
  have tb14 := hT.atp 256 14 0 12 rfl
  have tb15 := hT.atp 256 15 0 48 rfl
  have tb16 := hT.atp 256 16 0 40 rfl
  refine YC.mkB [some (.ref 0), some (yI a), some (yI b), some (.ref 413), none] kn213 rfl rfl ?_
  have hF : Fr wCl m m := Fr.rf
  refine y_aload 1 c213_0 rfl rfl rfl ?_
  refine y_iconst 2 c213_1 rfl ?_
  refine y_aload 3 c213_2 rfl rfl rfl ?_
  refine y_iload 4 c213_3 rfl rfl ?_
  refine y_iload 5 c213_4 rfl rfl ?_
  refine y_inlB 8 [.ref 0, yI a, yI b] [yI 0, .ref 413] [some (.ref 0), some (yI a), some (yI b)] c213_5 rfl rfl rfl rfl rfl (ycanO km212 ko0) kn212 rfl rfl ?_
  refine y_aload 1 c212_0 rfl rfl rfl ?_
  refine y_iload 2 c212_1 rfl rfl ?_
  refine y_inlB 5 [.ref 0, yI a] [] [some (.ref 0), some (yI a)] c212_2 rfl rfl rfl rfl rfl (ycanO km156 ko0) kn156 rfl rfl ?_
  refine y_iload 1 c156_0 rfl rfl ?_
  refine y_aload 2 c156_1 rfl rfl rfl ?_
  refine y_getS 5 (B := 256) c156_2 rfl kf0_4 (by first | rfl | (rw [show m 0 4 = 0 from by have e : m 0 4 = m 0 4 := rfl; omega]; rfl)) ?_
  refine y_getX 8 (m 256 15) c156_5 rfl kf256_15 rfl ?_
  refine y_inlB 11 [yI a, yI (m 256 15)] [] [some (yI a), some (yI (m 256 15))] c156_8 rfl rfl rfl rfl rfl (ycanS km155) kn155 rfl rfl ?_
  refine y_iload 1 c155_0 rfl rfl ?_
  refine y_if 13 4 c155_1 rfl rfl (yz_lt (by omega)) (fun hb5468 => ?_) (fun hb5468 => ?_)
  · refine y_iconst 14 c155_13 rfl ?_
    refine y_ireturnK c155_14 (y_fit1 (by omega)) ?_
    refine y_ireturnK c156_11 (y_fit1 (by omega)) ?_
    refine y_if 16 8 c212_5 rfl rfl (yz_eq (by omega)) (fun hb5469 => ?_) (fun hb5469 => ?_)
    · refine y_throwB c212_16 rfl ?_
      refine yK_in kh213_5_11 ?_
      refine y_astore 15 c213_13 rfl rfl rfl ?_
      refine y_iconst 16 c213_15 rfl ?_
      exact y_ireturn c213_16 (y_fit0 _) ⟨_, rfl, by omega, Or.inr rfl, hF, Or.inl hC0⟩
    · exfalso; omega
  · refine y_iload 5 c155_4 rfl rfl ?_
    refine y_iload 6 c155_5 rfl rfl ?_
    refine y_icmp 13 9 c155_6 rfl rfl (yc_ge (by omega) (by omega)) (fun hb5470 => ?_) (fun hb5470 => ?_)
    · refine y_iconst 14 c155_13 rfl ?_
      refine y_ireturnK c155_14 (y_fit1 (by omega)) ?_
      refine y_ireturnK c156_11 (y_fit1 (by omega)) ?_
      refine y_if 16 8 c212_5 rfl rfl (yz_eq (by omega)) (fun hb5471 => ?_) (fun hb5471 => ?_)
      · refine y_throwB c212_16 rfl ?_
        refine yK_in kh213_5_11 ?_
        refine y_astore 15 c213_13 rfl rfl rfl ?_
        refine y_iconst 16 c213_15 rfl ?_
        exact y_ireturn c213_16 (y_fit0 _) ⟨_, rfl, by omega, Or.inr rfl, hF, Or.inl hC0⟩
      · exfalso; omega
    · refine y_iconst 10 c155_9 rfl ?_
      refine y_goto 14 c155_10 rfl ?_
      refine y_ireturnK c155_14 (y_fit1 (by omega)) ?_
      refine y_ireturnK c156_11 (y_fit1 (by omega)) ?_
      refine y_if 16 8 c212_5 rfl rfl (yz_eq (by omega)) (fun hb5472 => ?_) (fun hb5472 => ?_)
      · exfalso; omega
      · refine y_aload 9 c212_8 rfl rfl rfl ?_
        refine y_iload 10 c212_9 rfl rfl ?_
        refine y_inlB 13 [.ref 0, yI b] [] [some (.ref 0), some (yI b)] c212_10 rfl rfl rfl rfl rfl (ycanO km157 ko0) kn157 rfl rfl ?_
        refine y_iload 1 c157_0 rfl rfl ?_
        refine y_aload 2 c157_1 rfl rfl rfl ?_
        refine y_getS 5 (B := 256) c157_2 rfl kf0_4 (by first | rfl | (rw [show m 0 4 = 0 from by have e : m 0 4 = m 0 4 := rfl; omega]; rfl)) ?_
        refine y_getX 8 (m 256 14) c157_5 rfl kf256_14 rfl ?_
        refine y_inlB 11 [yI b, yI (m 256 14)] [] [some (yI b), some (yI (m 256 14))] c157_8 rfl rfl rfl rfl rfl (ycanS km155) kn155 rfl rfl ?_
        refine y_iload 1 c155_0 rfl rfl ?_
        refine y_if 13 4 c155_1 rfl rfl (yz_lt (by omega)) (fun hb5473 => ?_) (fun hb5473 => ?_)
        · refine y_iconst 14 c155_13 rfl ?_
          refine y_ireturnK c155_14 (y_fit1 (by omega)) ?_
          refine y_ireturnK c157_11 (y_fit1 (by omega)) ?_
          refine y_if 24 16 c212_13 rfl rfl (yz_ne (by omega)) (fun hb5474 => ?_) (fun hb5474 => ?_)
          · exfalso; omega
          · refine y_throwB c212_16 rfl ?_
            refine yK_in kh213_5_11 ?_
            refine y_astore 15 c213_13 rfl rfl rfl ?_
            refine y_iconst 16 c213_15 rfl ?_
            exact y_ireturn c213_16 (y_fit0 _) ⟨_, rfl, by omega, Or.inr rfl, hF, Or.inl hC0⟩
        · refine y_iload 5 c155_4 rfl rfl ?_
          refine y_iload 6 c155_5 rfl rfl ?_
          refine y_icmp 13 9 c155_6 rfl rfl (yc_ge (by omega) (by omega)) (fun hb5475 => ?_) (fun hb5475 => ?_)
          · refine y_iconst 14 c155_13 rfl ?_
            refine y_ireturnK c155_14 (y_fit1 (by omega)) ?_
            refine y_ireturnK c157_11 (y_fit1 (by omega)) ?_
            refine y_if 24 16 c212_13 rfl rfl (yz_ne (by omega)) (fun hb5476 => ?_) (fun hb5476 => ?_)
            · exfalso; omega
            · refine y_throwB c212_16 rfl ?_
              refine yK_in kh213_5_11 ?_
              refine y_astore 15 c213_13 rfl rfl rfl ?_
              refine y_iconst 16 c213_15 rfl ?_
              exact y_ireturn c213_16 (y_fit0 _) ⟨_, rfl, by omega, Or.inr rfl, hF, Or.inl hC0⟩
          · refine y_iconst 10 c155_9 rfl ?_
            refine y_goto 14 c155_10 rfl ?_
            refine y_ireturnK c155_14 (y_fit1 (by omega)) ?_
            refine y_ireturnK c157_11 (y_fit1 (by omega)) ?_
            refine y_if 24 16 c212_13 rfl rfl (yz_ne (by omega)) (fun hb5477 => ?_) (fun hb5477 => ?_)
            · refine y_aload 25 c212_24 rfl rfl rfl ?_
              refine y_getR 28 c212_25 rfl kf0_3 ?_
              refine y_getR 31 c212_28 rfl kf169_0 ?_
              refine y_iload 32 c212_31 rfl rfl ?_
              refine y_aaload 33 c212_32 rfl kr170 (by omega) ?_
              refine y_iload 34 c212_33 rfl rfl ?_
              refine y_iaT 35 ((-2147483648)) 2147483647 c212_34 rfl (fa171 (by omega)) (by omega) hT (fz171 (by omega)) (fun v5478 hv5478 gv5478 => ?_)
              refine y_ireturnK c212_35 (y_fit0 _) ?_
              refine y_i2l 9 c213_8 rfl ?_
              refine y_lastoreN 10 v5478 c213_9 rfl kl413 (by decide) (by rw [Int32.toInt_toInt64, y_rng (by omega)]) ?_
              have hT5479 := hT.up 413 ((0 : Int).toNat) v5478 ((-2147483648)) 2147483647 rfl (by omega)
              have hF5480 := hF.up 413 ((0 : Int).toNat) v5478 rfl
              refine y_goto 17 c213_10 rfl ?_
              refine y_iconst 18 c213_17 rfl ?_
              exact y_ireturn c213_18 (y_fit0 _) ⟨_, rfl, by omega, Or.inl rfl, hF5480, Or.inl (CI.fr hC0 (by omega) (by omega) (by omega) hT5479 (fun a q ha => (yup_na (by omega))))⟩
            · exfalso; omega
set_option maxRecDepth 100000 in
theorem t216_256 {L : Nat} {xs : Nat → Int32} {d nn : Nat} {m : yM} {a : Int} (ra : -2147483648 ≤ a ∧ a < 2147483648) (hC : CI 256 326 0 m) : YC (gZ L xs) (d + 3) 216 [.ref 0, yI a, .ref 413] m nn (qW nn m) := by
  have hC0 := hC
  obtain ⟨hT, h04, h05, hS, hM2, h84⟩ := hC
  have hM : MP 266 m := hS.2.2.2.1
  have tb9 := hT.atp 256 9 0 6 rfl
  have tb10 := hT.atp 256 10 0 10 rfl
  have tb11 := hT.atp 256 11 0 8 rfl
  have tb12 := hT.atp 256 12 0 12 rfl
  have tb13 := hT.atp 256 13 0 8 rfl
  have tb14 := hT.atp 256 14 0 12 rfl
  have tb15 := hT.atp 256 15 0 48 rfl
  have tb16 := hT.atp 256 16 0 40 rfl
  refine YC.mkB [some (.ref 0), some (yI a), some (.ref 413), none] kn216 rfl rfl ?_
  have hF : Fr wCl m m := Fr.rf
  refine y_aload 1 c216_0 rfl rfl rfl ?_
  refine y_iconst 2 c216_1 rfl ?_
  refine y_aload 3 c216_2 rfl rfl rfl ?_
  refine y_iload 4 c216_3 rfl rfl ?_
  refine y_inlB 7 [.ref 0, yI a] [yI 0, .ref 413] [some (.ref 0), some (yI a)] c216_4 rfl rfl rfl rfl rfl (ycanO km215 ko0) kn215 rfl rfl ?_
  refine y_iload 1 c215_0 rfl rfl ?_
  by_cases hk5481 : a = 0
  · refine y_top 0 hk5481 ?_
    refine y_tsw 56 c215_1 (by decide) (by decide) rfl rfl ?_
    refine y_aload 57 c215_56 rfl rfl rfl ?_
    refine y_getS 60 (B := 256) c215_57 rfl kf0_4 (by first | rfl | (rw [show m 0 4 = 0 from by have e : m 0 4 = m 0 4 := rfl; omega]; rfl)) ?_
    refine y_getX 63 (m 256 9) c215_60 rfl kf256_9 rfl ?_
    refine y_ireturnK c215_63 (y_fit0 _) ?_
    refine y_i2l 8 c216_7 rfl ?_
    refine y_lastoreN 9 (m 256 9) c216_8 rfl kl413 (by decide) (by rw [Int32.toInt_toInt64, y_rng (by omega)]) ?_
    have hT5482 := hT.up 413 ((0 : Int).toNat) (m 256 9) ((-2147483648)) 2147483647 rfl (by omega)
    have hF5483 := hF.up 413 ((0 : Int).toNat) (m 256 9) rfl
    refine y_goto 15 c216_9 rfl ?_
    refine y_iconst 16 c216_15 rfl ?_
    exact y_ireturn c216_16 (y_fit0 _) ⟨_, rfl, by omega, Or.inl rfl, hF5483, Or.inl (CI.fr hC0 (by omega) (by omega) (by omega) hT5482 (fun a q ha => (yup_na (by omega))))⟩
  by_cases hk5484 : a = 1
  · refine y_top 1 hk5484 ?_
    refine y_tsw 64 c215_1 (by decide) (by decide) rfl rfl ?_
    refine y_aload 65 c215_64 rfl rfl rfl ?_
    refine y_getS 68 (B := 256) c215_65 rfl kf0_4 (by first | rfl | (rw [show m 0 4 = 0 from by have e : m 0 4 = m 0 4 := rfl; omega]; rfl)) ?_
    refine y_getX 71 (m 256 10) c215_68 rfl kf256_10 rfl ?_
    refine y_ireturnK c215_71 (y_fit0 _) ?_
    refine y_i2l 8 c216_7 rfl ?_
    refine y_lastoreN 9 (m 256 10) c216_8 rfl kl413 (by decide) (by rw [Int32.toInt_toInt64, y_rng (by omega)]) ?_
    have hT5485 := hT.up 413 ((0 : Int).toNat) (m 256 10) ((-2147483648)) 2147483647 rfl (by omega)
    have hF5486 := hF.up 413 ((0 : Int).toNat) (m 256 10) rfl
    refine y_goto 15 c216_9 rfl ?_
    refine y_iconst 16 c216_15 rfl ?_
    exact y_ireturn c216_16 (y_fit0 _) ⟨_, rfl, by omega, Or.inl rfl, hF5486, Or.inl (CI.fr hC0 (by omega) (by omega) (by omega) hT5485 (fun a q ha => (yup_na (by omega))))⟩
  by_cases hk5487 : a = 2
  · refine y_top 2 hk5487 ?_
    refine y_tsw 72 c215_1 (by decide) (by decide) rfl rfl ?_
    refine y_aload 73 c215_72 rfl rfl rfl ?_
    refine y_getS 76 (B := 256) c215_73 rfl kf0_4 (by first | rfl | (rw [show m 0 4 = 0 from by have e : m 0 4 = m 0 4 := rfl; omega]; rfl)) ?_
    refine y_getX 79 (m 256 11) c215_76 rfl kf256_11 rfl ?_
    refine y_ireturnK c215_79 (y_fit0 _) ?_
    refine y_i2l 8 c216_7 rfl ?_
    refine y_lastoreN 9 (m 256 11) c216_8 rfl kl413 (by decide) (by rw [Int32.toInt_toInt64, y_rng (by omega)]) ?_
    have hT5488 := hT.up 413 ((0 : Int).toNat) (m 256 11) ((-2147483648)) 2147483647 rfl (by omega)
    have hF5489 := hF.up 413 ((0 : Int).toNat) (m 256 11) rfl
    refine y_goto 15 c216_9 rfl ?_
    refine y_iconst 16 c216_15 rfl ?_
    exact y_ireturn c216_16 (y_fit0 _) ⟨_, rfl, by omega, Or.inl rfl, hF5489, Or.inl (CI.fr hC0 (by omega) (by omega) (by omega) hT5488 (fun a q ha => (yup_na (by omega))))⟩
  by_cases hk5490 : a = 3
  · refine y_top 3 hk5490 ?_
    refine y_tsw 80 c215_1 (by decide) (by decide) rfl rfl ?_
    refine y_aload 81 c215_80 rfl rfl rfl ?_
    refine y_getS 84 (B := 256) c215_81 rfl kf0_4 (by first | rfl | (rw [show m 0 4 = 0 from by have e : m 0 4 = m 0 4 := rfl; omega]; rfl)) ?_
    refine y_getX 87 (m 256 12) c215_84 rfl kf256_12 rfl ?_
    refine y_ireturnK c215_87 (y_fit0 _) ?_
    refine y_i2l 8 c216_7 rfl ?_
    refine y_lastoreN 9 (m 256 12) c216_8 rfl kl413 (by decide) (by rw [Int32.toInt_toInt64, y_rng (by omega)]) ?_
    have hT5491 := hT.up 413 ((0 : Int).toNat) (m 256 12) ((-2147483648)) 2147483647 rfl (by omega)
    have hF5492 := hF.up 413 ((0 : Int).toNat) (m 256 12) rfl
    refine y_goto 15 c216_9 rfl ?_
    refine y_iconst 16 c216_15 rfl ?_
    exact y_ireturn c216_16 (y_fit0 _) ⟨_, rfl, by omega, Or.inl rfl, hF5492, Or.inl (CI.fr hC0 (by omega) (by omega) (by omega) hT5491 (fun a q ha => (yup_na (by omega))))⟩
  by_cases hk5493 : a = 4
  · refine y_top 4 hk5493 ?_
    refine y_tsw 88 c215_1 (by decide) (by decide) rfl rfl ?_
    refine y_aload 89 c215_88 rfl rfl rfl ?_
    refine y_getS 92 (B := 256) c215_89 rfl kf0_4 (by first | rfl | (rw [show m 0 4 = 0 from by have e : m 0 4 = m 0 4 := rfl; omega]; rfl)) ?_
    refine y_getX 95 (m 256 13) c215_92 rfl kf256_13 rfl ?_
    refine y_ireturnK c215_95 (y_fit0 _) ?_
    refine y_i2l 8 c216_7 rfl ?_
    refine y_lastoreN 9 (m 256 13) c216_8 rfl kl413 (by decide) (by rw [Int32.toInt_toInt64, y_rng (by omega)]) ?_
    have hT5494 := hT.up 413 ((0 : Int).toNat) (m 256 13) ((-2147483648)) 2147483647 rfl (by omega)
    have hF5495 := hF.up 413 ((0 : Int).toNat) (m 256 13) rfl
    refine y_goto 15 c216_9 rfl ?_
    refine y_iconst 16 c216_15 rfl ?_
    exact y_ireturn c216_16 (y_fit0 _) ⟨_, rfl, by omega, Or.inl rfl, hF5495, Or.inl (CI.fr hC0 (by omega) (by omega) (by omega) hT5494 (fun a q ha => (yup_na (by omega))))⟩
  by_cases hk5496 : a = 5
  · refine y_top 5 hk5496 ?_
    refine y_tsw 96 c215_1 (by decide) (by decide) rfl rfl ?_
    refine y_aload 97 c215_96 rfl rfl rfl ?_
    refine y_getS 100 (B := 256) c215_97 rfl kf0_4 (by first | rfl | (rw [show m 0 4 = 0 from by have e : m 0 4 = m 0 4 := rfl; omega]; rfl)) ?_
    refine y_getX 103 (m 256 14) c215_100 rfl kf256_14 rfl ?_
    refine y_ireturnK c215_103 (y_fit0 _) ?_
    refine y_i2l 8 c216_7 rfl ?_
    refine y_lastoreN 9 (m 256 14) c216_8 rfl kl413 (by decide) (by rw [Int32.toInt_toInt64, y_rng (by omega)]) ?_
    have hT5497 := hT.up 413 ((0 : Int).toNat) (m 256 14) ((-2147483648)) 2147483647 rfl (by omega)
    have hF5498 := hF.up 413 ((0 : Int).toNat) (m 256 14) rfl
    refine y_goto 15 c216_9 rfl ?_
    refine y_iconst 16 c216_15 rfl ?_
    exact y_ireturn c216_16 (y_fit0 _) ⟨_, rfl, by omega, Or.inl rfl, hF5498, Or.inl (CI.fr hC0 (by omega) (by omega) (by omega) hT5497 (fun a q ha => (yup_na (by omega))))⟩
  by_cases hk5499 : a = 6
  · refine y_top 6 hk5499 ?_
    refine y_tsw 104 c215_1 (by decide) (by decide) rfl rfl ?_
    refine y_aload 105 c215_104 rfl rfl rfl ?_
    refine y_getS 108 (B := 256) c215_105 rfl kf0_4 (by first | rfl | (rw [show m 0 4 = 0 from by have e : m 0 4 = m 0 4 := rfl; omega]; rfl)) ?_
    refine y_getX 111 (m 256 15) c215_108 rfl kf256_15 rfl ?_
    refine y_ireturnK c215_111 (y_fit0 _) ?_
    refine y_i2l 8 c216_7 rfl ?_
    refine y_lastoreN 9 (m 256 15) c216_8 rfl kl413 (by decide) (by rw [Int32.toInt_toInt64, y_rng (by omega)]) ?_
    have hT5500 := hT.up 413 ((0 : Int).toNat) (m 256 15) ((-2147483648)) 2147483647 rfl (by omega)
    have hF5501 := hF.up 413 ((0 : Int).toNat) (m 256 15) rfl
    refine y_goto 15 c216_9 rfl ?_
    refine y_iconst 16 c216_15 rfl ?_
    exact y_ireturn c216_16 (y_fit0 _) ⟨_, rfl, by omega, Or.inl rfl, hF5501, Or.inl (CI.fr hC0 (by omega) (by omega) (by omega) hT5500 (fun a q ha => (yup_na (by omega))))⟩
  by_cases hk5502 : a = 7
  · refine y_top 7 hk5502 ?_
    refine y_tsw 112 c215_1 (by decide) (by decide) rfl rfl ?_
    refine y_aload 113 c215_112 rfl rfl rfl ?_
    refine y_getR 116 c215_113 rfl kf0_2 ?_
    refine y_getX 119 (m 8 6) c215_116 rfl kf8_6 rfl ?_
    have tb5503 := hT.atp 8 6 0 2001 rfl
    refine y_ireturnK c215_119 (y_fit0 _) ?_
    refine y_i2l 8 c216_7 rfl ?_
    refine y_lastoreN 9 (m 8 6) c216_8 rfl kl413 (by decide) (by rw [Int32.toInt_toInt64, y_rng (by omega)]) ?_
    have hT5504 := hT.up 413 ((0 : Int).toNat) (m 8 6) ((-2147483648)) 2147483647 rfl (by omega)
    have hF5505 := hF.up 413 ((0 : Int).toNat) (m 8 6) rfl
    refine y_goto 15 c216_9 rfl ?_
    refine y_iconst 16 c216_15 rfl ?_
    exact y_ireturn c216_16 (y_fit0 _) ⟨_, rfl, by omega, Or.inl rfl, hF5505, Or.inl (CI.fr hC0 (by omega) (by omega) (by omega) hT5504 (fun a q ha => (yup_na (by omega))))⟩
  by_cases hk5506 : a = 8
  · refine y_top 8 hk5506 ?_
    refine y_tsw 120 c215_1 (by decide) (by decide) rfl rfl ?_
    refine y_aload 121 c215_120 rfl rfl rfl ?_
    refine y_getR 124 c215_121 rfl kf0_3 ?_
    refine y_getX 127 (m 169 5) c215_124 rfl kf169_5 rfl ?_
    have tb5507 := hT.atp 169 5 0 30 rfl
    refine y_ireturnK c215_127 (y_fit0 _) ?_
    refine y_i2l 8 c216_7 rfl ?_
    refine y_lastoreN 9 (m 169 5) c216_8 rfl kl413 (by decide) (by rw [Int32.toInt_toInt64, y_rng (by omega)]) ?_
    have hT5508 := hT.up 413 ((0 : Int).toNat) (m 169 5) ((-2147483648)) 2147483647 rfl (by omega)
    have hF5509 := hF.up 413 ((0 : Int).toNat) (m 169 5) rfl
    refine y_goto 15 c216_9 rfl ?_
    refine y_iconst 16 c216_15 rfl ?_
    exact y_ireturn c216_16 (y_fit0 _) ⟨_, rfl, by omega, Or.inl rfl, hF5509, Or.inl (CI.fr hC0 (by omega) (by omega) (by omega) hT5508 (fun a q ha => (yup_na (by omega))))⟩
  by_cases hk5510 : a = 9
  · refine y_top 9 hk5510 ?_
    refine y_tsw 128 c215_1 (by decide) (by decide) rfl rfl ?_
    refine y_aload 129 c215_128 rfl rfl rfl ?_
    refine y_getX 132 (m 0 6) c215_129 rfl kf0_6 rfl ?_
    have tb5511 := hT.atp 0 6 0 320 rfl
    refine y_ireturnK c215_132 (y_fit0 _) ?_
    refine y_i2l 8 c216_7 rfl ?_
    refine y_lastoreN 9 (m 0 6) c216_8 rfl kl413 (by decide) (by rw [Int32.toInt_toInt64, y_rng (by omega)]) ?_
    have hT5512 := hT.up 413 ((0 : Int).toNat) (m 0 6) ((-2147483648)) 2147483647 rfl (by omega)
    have hF5513 := hF.up 413 ((0 : Int).toNat) (m 0 6) rfl
    refine y_goto 15 c216_9 rfl ?_
    refine y_iconst 16 c216_15 rfl ?_
    exact y_ireturn c216_16 (y_fit0 _) ⟨_, rfl, by omega, Or.inl rfl, hF5513, Or.inl (CI.fr hC0 (by omega) (by omega) (by omega) hT5512 (fun a q ha => (yup_na (by omega))))⟩
  refine y_tswd 133 c215_1 (by omega) (by omega) rfl ?_
  refine y_throwB c215_133 rfl ?_
  refine yK_in kh216_4_9 ?_
  refine y_astore 13 c216_12 rfl rfl rfl ?_
  refine y_iconst 14 c216_13 rfl ?_
  exact y_ireturn c216_14 (y_fit0 _) ⟨_, rfl, by omega, Or.inr rfl, hF, Or.inl hC0⟩
theorem wPs256_o {a q : Nat} (h : (256 ≤ a ∧ a < 376) ∧ ¬ (256 ≤ a ∧ a < 316)) : wPs256 a q = false := by
  cases e : wPs256 a q with
  | false => rfl
  | true => simp [wPs256] at e <;> omega
theorem wPs316_o {a q : Nat} (h : (256 ≤ a ∧ a < 376) ∧ ¬ (316 ≤ a ∧ a < 376)) : wPs316 a q = false := by
  cases e : wPs316 a q with
  | false => rfl
  | true => simp [wPs316] at e <;> omega
set_option maxRecDepth 100000 in
theorem t95_256 {L : Nat} {xs : Nat → Int32} {d nn : Nat} {m : yM}  (hC : CI 256 326 0 m) : YC (gZ L xs) (d + 17) 95 [.ref 0, .ref 413] m nn (qW nn m) := by
  have hC0 := hC
  obtain ⟨hT, h04, h05, hS, hM2, h84⟩ := hC
  have hM : MP 266 m := hS.2.2.2.1
  have tb9 := hT.atp 256 9 0 6 rfl
  have tb10 := hT.atp 256 10 0 10 rfl
  have tb11 := hT.atp 256 11 0 8 rfl
  have tb12 := hT.atp 256 12 0 12 rfl
  have tb13 := hT.atp 256 13 0 8 rfl
  have tb14 := hT.atp 256 14 0 12 rfl
  have tb15 := hT.atp 256 15 0 48 rfl
  have tb16 := hT.atp 256 16 0 40 rfl
  refine YC.mkB [some (.ref 0), some (.ref 413), none] kn95 rfl rfl ?_
  have hF : Fr wCl m m := Fr.rf
  refine y_aload 1 c95_0 rfl rfl rfl ?_
  refine y_iconst 2 c95_1 rfl ?_
  refine y_aload 3 c95_2 rfl rfl rfl ?_
  refine y_inlB 6 [.ref 0] [yI 0, .ref 413] [some (.ref 0), none] c95_3 rfl rfl rfl rfl rfl (ycanO km94 ko0) kn94 rfl rfl ?_
  refine y_aload 1 c94_0 rfl rfl rfl ?_
  refine y_aload 2 c94_1 rfl rfl rfl ?_
  refine y_getR 5 c94_2 rfl kf0_1 ?_
  refine y_aload 6 c94_5 rfl rfl rfl ?_
  refine y_getR 9 c94_6 rfl kf0_0 ?_
  refine y_aload 10 c94_9 rfl rfl rfl ?_
  refine y_getX 13 (m 0 6) c94_10 rfl kf0_6 rfl ?_
  have tb5514 := hT.atp 0 6 0 320 rfl
  refine y_aload 14 c94_13 rfl rfl rfl ?_
  refine y_getS 17 (B := 316) c94_14 rfl kf0_5 (by first | rfl | (rw [show m 0 5 = 1 from by have e : m 0 5 = m 0 5 := rfl; omega]; rfl)) ?_
  refine y_callIB 20 [.ref 2, .ref 1, yI (m 0 6), .ref 316] [.ref 0] c94_17 rfl rfl rfl rfl rfl (ycanO km74 ko2) (t74_316 hT (by omega) hM2) (fun rq5515 mq5515 nq5515 hq5515 => ?_)
  obtain ⟨rfl, hTq5515, hFq5515, hq5515, hMq, hPq⟩ := hq5515
  have hF5516 := hF.tr hFq5515 wPs316_wCl
  refine y_putI 23 c94_20 rfl kf0_7 (y_fit0 _) ?_
  have hT5517 := hTq5515.up 0 7 rq5515 ((-2147483648)) 2147483647 rfl (by omega)
  have hF5518 := hF5516.up 0 7 rq5515 rfl
  refine y_aload 24 c94_23 rfl rfl rfl ?_
  refine y_getX 27 rq5515 c94_24 rfl kf0_7 rfl ?_
  refine y_iconst 28 c94_27 rfl ?_
  refine y_icmp 39 31 c94_28 rfl rfl (yc_eq (by omega) (by omega)) (fun hb5519 => ?_) (fun hb5519 => ?_)
  · refine y_aload 40 c94_39 rfl rfl rfl ?_
    refine y_getS 43 (B := 256) c94_40 rfl kf0_4 (by first | rfl | (rw [show (yup mq5515 0 7 rq5515) 0 4 = 0 from by have e : (yup mq5515 0 7 rq5515) 0 4 = m 0 4 := ((yup_nk (by decide)).trans (hFq5515 0 4 rfl)); omega]; rfl)) ?_
    refine y_astore 44 c94_43 rfl rfl rfl ?_
    refine y_aload 45 c94_44 rfl rfl rfl ?_
    refine y_aload 46 c94_45 rfl rfl rfl ?_
    refine y_getS 49 (B := 316) c94_46 rfl kf0_5 (by first | rfl | (rw [show (yup mq5515 0 7 rq5515) 0 5 = 1 from by have e : (yup mq5515 0 7 rq5515) 0 5 = m 0 5 := ((yup_nk (by decide)).trans (hFq5515 0 5 rfl)); omega]; rfl)) ?_
    refine y_putS 52 1 c94_49 rfl kf0_4 rfl ?_
    have hT5520 := hT5517.up 0 4 (((1 : Nat) : Int)) 0 1 rfl (by omega)
    have hF5521 := hF5518.up 0 4 (((1 : Nat) : Int)) rfl
    refine y_aload 53 c94_52 rfl rfl rfl ?_
    refine y_aload 54 c94_53 rfl rfl rfl ?_
    refine y_putS 57 0 c94_54 rfl kf0_5 rfl ?_
    have hT5522 := hT5520.up 0 5 (((0 : Nat) : Int)) 0 1 rfl (by omega)
    have hF5523 := hF5521.up 0 5 (((0 : Nat) : Int)) rfl
    refine y_aload 58 c94_57 rfl rfl rfl ?_
    refine y_getR 61 c94_58 rfl kf0_2 ?_
    refine y_aload 62 c94_61 rfl rfl rfl ?_
    refine y_getS 65 (B := 316) c94_62 rfl kf0_4 (by first | rfl | (rw [show (yup (yup (yup mq5515 0 7 rq5515) 0 4 (((1 : Nat) : Int))) 0 5 (((0 : Nat) : Int))) 0 4 = 1 from by have e : (yup (yup (yup mq5515 0 7 rq5515) 0 4 (((1 : Nat) : Int))) 0 5 (((0 : Nat) : Int))) 0 4 = ((1 : Nat) : Int) := rfl; omega]; rfl)) ?_
    have hPq2 : PS 316 (yup (yup (yup mq5515 0 7 rq5515) 0 4 (((1 : Nat) : Int))) 0 5 (((0 : Nat) : Int))) := (hPq (by omega)).fr (hTq5515.atp 316 16 0 40 rfl).2 (hTq5515.atp 316 10 0 10 rfl).2 (fun k q hk => ((yup_na (by omega)).trans ((yup_na (by omega)).trans (yup_na (by omega)))))
    refine y_callUB 68 [.ref 8, .ref 316] [] c94_65 rfl rfl rfl rfl rfl (ycanO km91 ko8) (t91_316 hT5522 hPq2.2.2.2.1 hPq2.1 hPq2.2.2.1) (fun mq5524 nq5524 hq5524 => ?_)
    obtain ⟨rfl, hTq5524, hFq5524, hq5524⟩ := hq5524
    have hF5525 := hF5523.tr hFq5524 wFd8_wCl
    refine y_aload 69 c94_68 rfl rfl rfl ?_
    refine y_getR 72 c94_69 rfl kf0_3 ?_
    refine y_callUB 75 [.ref 169] [] c94_72 rfl rfl rfl rfl rfl (ycanO km92 ko169) (t92 hTq5524) (fun mq5526 nq5526 hq5526 => ?_)
    obtain ⟨rfl, hTq5526, hFq5526⟩ := hq5526
    have hF5527 := hF5525.tr hFq5526 wMx_wCl
    refine y_aload 76 c94_75 rfl rfl rfl ?_
    refine y_getR 79 c94_76 rfl kf0_2 ?_
    have es5528 : mq5526 8 4 = mq5524 8 4 := (hFq5526 8 4 rfl)
    have tb5529 := hTq5524.atp 8 4 ((-1)) 1 rfl
    refine y_callP 82 [.ref 8] [] c94_79 rfl rfl rfl rfl rfl (ycanO km93 ko8) (t93_316 hTq5526 (by omega)) (fun r5530 hr5530 => ?_)
    refine y_ireturnK c94_82 (y_fit0 _) ?_
    refine y_i2l 7 c95_6 rfl ?_
    refine y_lastoreN 8 r5530 c95_7 rfl kl413 (by decide) (by rw [Int32.toInt_toInt64, y_rng (by omega)]) ?_
    have hT5531 := hTq5526.up 413 ((0 : Int).toNat) r5530 ((-2147483648)) 2147483647 rfl (by omega)
    have hF5532 := hF5527.up 413 ((0 : Int).toNat) r5530 rfl
    refine y_goto 14 c95_8 rfl ?_
    refine y_iconst 15 c95_14 rfl ?_
    have es5533 : (yup mq5526 413 ((0 : Int).toNat) r5530) 0 4 = ((1 : Nat) : Int) := ((yup_na (by decide)).trans ((hFq5526 0 4 rfl).trans ((hFq5524 0 4 rfl).trans ((yup_nk (by decide)).trans (yup_eq _ _ _ _)))))
    have es5534 : (yup mq5526 413 ((0 : Int).toNat) r5530) 0 5 = ((0 : Nat) : Int) := ((yup_na (by decide)).trans ((hFq5526 0 5 rfl).trans ((hFq5524 0 5 rfl).trans (yup_eq _ _ _ _))))
    have es5535 : (yup mq5526 413 ((0 : Int).toNat) r5530) 8 4 = mq5524 8 4 := ((yup_na (by decide)).trans (hFq5526 8 4 rfl))
    have hP3 : PS 316 (yup mq5526 413 ((0 : Int).toNat) r5530) := (hPq (by omega)).fr (hTq5515.atp 316 16 0 40 rfl).2 (hTq5515.atp 316 10 0 10 rfl).2 (fun k q hk => ((yup_na (by omega)).trans ((hFq5526 _ _ (wMx_h (by omega))).trans ((hFq5524 _ _ (wFd8_h (by omega))).trans ((yup_na (by omega)).trans ((yup_na (by omega)).trans (yup_na (by omega))))))))
    have hu : ∀ a q, 256 ≤ a ∧ a < 316 → (yup mq5526 413 ((0 : Int).toNat) r5530) a q = m a q := fun a q ha => (((yup_na (by omega)).trans ((hFq5526 _ _ (wMx_h (by omega))).trans ((hFq5524 _ _ (wFd8_h (by omega))).trans ((yup_na (by omega)).trans ((yup_na (by omega)).trans (yup_na (by omega)))))))).trans (hFq5515 _ _ (wPs316_o (by omega)))
    refine y_ireturn c95_15 (y_fit0 _) ⟨_, rfl, by omega, Or.inl rfl, hF5532, Or.inr ⟨hT5531, by omega, by omega, hP3, hM.fr (fun k hk => hu _ _ (by omega)) (fun k hk => hu _ _ (by omega)), Or.inl (by omega)⟩⟩
  · refine y_throwB c94_31 rfl ?_
    refine yK_in kh95_3_9 ?_
    refine y_astore 12 c95_11 rfl rfl rfl ?_
    refine y_iconst 13 c95_12 rfl ?_
    have es5536 : (yup mq5515 0 7 rq5515) 0 4 = m 0 4 := ((yup_nk (by decide)).trans (hFq5515 0 4 rfl))
    have tb5537 := hT.atp 0 4 0 1 rfl
    have es5538 : (yup mq5515 0 7 rq5515) 0 5 = m 0 5 := ((yup_nk (by decide)).trans (hFq5515 0 5 rfl))
    have tb5539 := hT.atp 0 5 0 1 rfl
    have es5540 : (yup mq5515 0 7 rq5515) 8 4 = m 8 4 := ((yup_na (by decide)).trans (hFq5515 8 4 rfl))
    have tb5541 := hT.atp 8 4 ((-1)) 1 rfl
    have hu : ∀ k q, k < 60 → (yup mq5515 0 7 rq5515) (256 + k) q = m (256 + k) q := fun k q hk => (yup_na (by omega)).trans (hFq5515 _ _ (wPs316_o (by omega)))
    refine y_ireturn c95_13 (y_fit0 _) ⟨_, rfl, by omega, Or.inr rfl, hF5518, Or.inl ⟨hT5517, by omega, by omega, hS.fr (by omega) (by omega) hu, hMq.fr (fun k hk => yup_na (by omega)) (fun k hk => yup_na (by omega)), ?_⟩⟩
    have e13 := hu 0 13 (by omega)
    have e15 := hu 0 15 (by omega)
    simp only [Nat.add_zero] at e13 e15
    omega
set_option maxRecDepth 100000 in
theorem t198b_256 {L : Nat} {xs : Nat → Int32} {d nn : Nat} {m : yM} (hT : Ty gT m) (hp : m 169 4 = 0) (hS : PS 256 m) (hst : 0 ≤ m 256 17) : YW (gZ L xs) 198 (603 + d + 3) 5 [some (.ref 169), some (.ref 256), none, none] [] m nn (qTU nn m (fun _ => True)) := by
  have hB : BR256 L xs (603 + d + 2) 0 := tBR_256 201 0 (by omega)
  have hF : Fr wMx m m := Fr.rf
  have tb16 := hT.atp 256 16 0 40 rfl
  have tb10 := hT.atp 256 10 0 10 rfl
  have tb17 := hT.atp 256 17 (-1) 9 rfl
  have h17 := hS.2.2.2.2.2
  have hes : m (266 + (m 256 17).toNat) 5 ≤ m 256 16 := hS.2.2.2.2.1 (m 256 17).toNat (by omega)
  refine y_aload 6 c198_5 rfl rfl rfl ?_
  refine y_callUB 9 [.ref 169] [] c198_6 rfl rfl rfl rfl rfl (ycanO km92 ko169) (t92 hT) (fun mq5542 nq5542 hq5542 => ?_)
  obtain ⟨rfl, hTq5542, hFq5542⟩ := hq5542
  have hF5543 := hF.tr hFq5542 (fun _ _ e => e)
  refine y_aload 10 c198_9 rfl rfl rfl ?_
  refine y_iconst 11 c198_10 rfl ?_
  refine y_putI 14 c198_11 rfl kf169_5 (y_fit0 _) ?_
  have hT5544 := hTq5542.up 169 5 0 0 30 rfl (by omega)
  have hF5545 := hF5543.up 169 5 0 rfl
  refine y_aload 15 c198_14 rfl rfl rfl ?_
  refine y_iconst 16 c198_15 rfl ?_
  refine y_putI 19 c198_16 rfl kf169_6 (y_fit0 _) ?_
  have hT5546 := hT5544.up 169 6 0 0 200 rfl (by omega)
  have hF5547 := hF5545.up 169 6 0 rfl
  refine y_aload 20 c198_19 rfl rfl rfl ?_
  refine y_iconst 21 c198_20 rfl ?_
  have es5549 : (yup (yup mq5542 169 5 0) 169 6 0) 169 6 = 0 := rfl
  refine y_mI 24 [.ref 169, yI 0] [] c198_21 rfl rfl rfl rfl rfl (ycanO km186 ko169) kg198 qOut.U hF5547 (t186 hT5546 (by omega)) (fun rq5548 mq5548 hTq5548 hFq5548 hq5548 => ?_)
  have hF5550 := hF5547.tr' hFq5548
  refine y_istore 25 c198_24 rfl rfl ?_
  refine y_aload 26 c198_25 rfl rfl rfl ?_
  refine y_getS 29 (B := 256) c198_26 rfl kf169_4 (by first | rfl | (rw [show mq5548 169 4 = 0 from by have e : mq5548 169 4 = m 169 4 := ((hFq5548 169 4 rfl).trans ((yup_nk (by decide)).trans ((yup_nk (by decide)).trans (hFq5542 169 4 rfl)))); omega]; rfl)) ?_
  refine y_getR 32 c198_29 rfl kf256_5 ?_
  refine y_aload 33 c198_32 rfl rfl rfl ?_
  refine y_getS 36 (B := 256) c198_33 rfl kf169_4 (by first | rfl | (rw [show mq5548 169 4 = 0 from by have e : mq5548 169 4 = m 169 4 := ((hFq5548 169 4 rfl).trans ((yup_nk (by decide)).trans ((yup_nk (by decide)).trans (hFq5542 169 4 rfl)))); omega]; rfl)) ?_
  refine y_getX 39 (m 256 17) c198_36 rfl kf256_17 ((hFq5548 256 17 rfl).trans ((yup_na (by decide)).trans ((yup_na (by decide)).trans (hFq5542 256 17 rfl)))) ?_
  refine y_aaload 40 c198_39 rfl kr262 (by omega) ?_
  refine y_astore 41 c198_40 rfl rfl rfl ?_
  refine y_aload 42 c198_41 rfl rfl rfl ?_
  refine y_aload 43 c198_42 rfl rfl rfl ?_
  refine y_iconst 44 c198_43 rfl ?_
  have tb5552 := hTq5548.atp 169 6 0 200 rfl
  refine y_mA 47 [.ref 169, yI 0] [.ref 169] c198_44 rfl rfl rfl rfl rfl (ycanO km187 ko169) kg198 qOut.U hF5550 (t187 hTq5548 (by omega)) (fun rq5551 mq5551 hTq5551 hFq5551 hq5551 => ?_)
  have hF5553 := hF5550.tr' hFq5551
  obtain ⟨rfl, hq5551⟩ := hq5551
  refine y_aload 48 c198_47 rfl rfl rfl ?_
  refine y_callP 51 [.ref (266 + (m 256 17).toNat)] [.ref (252 + ((0 : Int)).toNat), .ref 169] c198_48 rfl rfl rfl rfl rfl (ycanO km57 (fo266 (by omega))) (t57_256 hTq5551 (by omega)) (fun r5554 hr5554 => ?_)
  refine y_iload 52 c198_51 rfl rfl ?_
  have tb5556 := hTq5551.atp 169 6 0 200 rfl
  refine y_callUB 55 [.ref 169, .ref (252 + ((0 : Int)).toNat), yI r5554, yI rq5548] [] c198_52 rfl rfl rfl rfl rfl (ycanO km188 ko169) (t188 hTq5551 (by omega) (by omega) (by omega)) (fun mq5555 nq5555 hq5555 => ?_)
  obtain ⟨rfl, hTq5555, hFq5555, hq5555⟩ := hq5555
  have hF5557 := hF5553.tr hFq5555 (fun _ _ e => e)
  refine y_aload 56 c198_55 rfl rfl rfl ?_
  refine y_aload 57 c198_56 rfl rfl rfl ?_
  refine y_getX 60 (m (266 + (m 256 17).toNat) 4) c198_57 rfl (ff266_4 (by omega)) ((hFq5555 (266 + (m 256 17).toNat) 4 (wMx_h (by omega))).trans ((hFq5551 (266 + (m 256 17).toNat) 4 (wMx_h (by omega))).trans ((hFq5548 (266 + (m 256 17).toNat) 4 (wMx_h (by omega))).trans ((yup_na (by omega)).trans ((yup_na (by omega)).trans (hFq5542 (266 + (m 256 17).toNat) 4 (wMx_h (by omega)))))))) ?_
  have tb5558 := hT.atp (266 + (m 256 17).toNat) 4 0 40 (ft266_4 (by omega))
  refine y_aload 61 c198_60 rfl rfl rfl ?_
  refine y_getX 64 (m (266 + (m 256 17).toNat) 5) c198_61 rfl (ff266_5 (by omega)) ((hFq5555 (266 + (m 256 17).toNat) 5 (wMx_h (by omega))).trans ((hFq5551 (266 + (m 256 17).toNat) 5 (wMx_h (by omega))).trans ((hFq5548 (266 + (m 256 17).toNat) 5 (wMx_h (by omega))).trans ((yup_na (by omega)).trans ((yup_na (by omega)).trans (hFq5542 (266 + (m 256 17).toNat) 5 (wMx_h (by omega)))))))) ?_
  have tb5559 := hT.atp (266 + (m 256 17).toNat) 5 0 40 (ft266_5 (by omega))
  refine y_iconst 65 c198_64 rfl ?_
  have es5561 : mq5555 169 4 = m 169 4 := ((hFq5555 169 4 rfl).trans ((hFq5551 169 4 rfl).trans ((hFq5548 169 4 rfl).trans ((yup_nk (by decide)).trans ((yup_nk (by decide)).trans (hFq5542 169 4 rfl))))))
  have tb5562 := hT.atp 169 4 ((-1)) 1 rfl
  have tb5563 := hTq5555.atp 169 6 0 200 rfl
  have es5564 : mq5555 256 16 = m 256 16 := ((hFq5555 256 16 rfl).trans ((hFq5551 256 16 rfl).trans ((hFq5548 256 16 rfl).trans ((yup_na (by decide)).trans ((yup_na (by decide)).trans (hFq5542 256 16 rfl))))))
  have es5565 : mq5555 256 10 = m 256 10 := ((hFq5555 256 10 rfl).trans ((hFq5551 256 10 rfl).trans ((hFq5548 256 10 rfl).trans ((yup_na (by decide)).trans ((yup_na (by decide)).trans (hFq5542 256 10 rfl))))))
  refine y_mI 68 [.ref 169, yI (m (266 + (m 256 17).toNat) 4), yI (m (266 + (m 256 17).toNat) 5), yI 0] [] c198_65 rfl rfl rfl rfl rfl (ycanO km197 ko169) kg198 qOut.U hF5557 (hB _ _ _ _ _ _ (by omega) hTq5555 (by omega) (hS.fr (by omega) (by omega) (fun k q _ => hF5557 _ _ (wMx_h (by omega)))) (by omega) (by omega) (by omega) (by omega)) (fun rq5560 mq5560 hTq5560 hFq5560 hq5560 => ?_)
  have hF5566 := hF5557.tr' hFq5560
  refine y_pop 69 c198_68 rfl rfl ?_
  exact y_mRU c198_69 hTq5560 hF5566 (trivial)
def wMz (a q : Nat) : Bool := wMx a q || (a == 169 && q == 4)
theorem wMx_wMz : ∀ a q, wMx a q = true → wMz a q = true := by
  intro a q h
  simp [wMz, h]
theorem wMz_h {a q : Nat} (h : 256 ≤ a) : wMz a q = false := by
  cases e : wMz a q with
  | false => rfl
  | true => simp [wMz, wMx] at e <;> omega
theorem wMz_wCl : ∀ a q, wMz a q = true → wCl a q = true := wCl_of (fun a q h => by simp [wMz, wMx] at h; omega)
def qE (nn : Nat) (m : yM) : xO → yM → Nat → Prop := fun o m' n' => (o = .inl none ∧ n' = nn ∧ Ty gT m' ∧ Fr wMz m m') ∨ (∃ q x, o = .inr (q, x) ∧ n' = nn + 1 ∧ Ty gT m' ∧ Fr wMz m m' ∧ 10 ≤ q ∧ q ≤ 13)
set_option maxRecDepth 100000 in
theorem t198_256 {L : Nat} {xs : Nat → Int32} {d nn : Nat} {m : yM} (hT : Ty gT m) (hS : PS 256 m) (hst : 0 ≤ m 256 17) : YC (gZ L xs) (603 + d + 3) 198 [.ref 169, .ref 256] m nn (qE nn m) := by
  refine YC.mkB [some (.ref 169), some (.ref 256), none, none] kn198 rfl rfl ?_
  refine y_aload 1 c198_0 rfl rfl rfl ?_
  refine y_aload 2 c198_1 rfl rfl rfl ?_
  refine y_putS 5 0 c198_2 rfl kf169_4 rfl ?_
  have hT5567 := hT.up 169 4 (((0 : Nat) : Int)) ((-1)) 1 rfl (by omega)
  refine YW.mono (t198b_256 (m := yup m 169 4 (((0 : Nat) : Int))) hT5567 (yup_eq _ _ _ _) (hS.fr (hT.atp 256 16 0 40 rfl).2 (hT.atp 256 10 0 10 rfl).2 (fun k q _ => yup_na (by omega))) (by rw [yup_na (by decide)]; exact hst)) (fun o m2 n2 h => ?_)
  have hz : Fr wMz m (yup m 169 4 (((0 : Nat) : Int))) := Fr.rf.up 169 4 _ rfl
  rcases h with ⟨e1, e2, e3, e4, -⟩ | ⟨q, x, e1, e2, e3, e4, e5⟩
  · exact Or.inl ⟨e1, e2, e3, hz.tr e4 wMx_wMz⟩
  · exact Or.inr ⟨q, x, e1, e2, e3, hz.tr e4 wMx_wMz, e5⟩
theorem wMz_c {a q : Nat} (h : (a = 0 ∧ (q = 4 ∨ q = 5)) ∨ (a = 8 ∧ q = 4) ∨ (256 ≤ a ∧ a < 376)) : wMz a q = false := by
  cases e : wMz a q with
  | false => rfl
  | true => simp [wMz, wMx] at e <;> omega
set_option maxRecDepth 100000 in
theorem t200_256 {L : Nat} {xs : Nat → Int32} {d nn : Nat} {m : yM} (hC : CI 256 326 0 m) : YC (gZ L xs) (603 + d + 5) 200 [.ref 0, .ref 413] m nn (qW nn m) := by
  have hC0 := hC
  obtain ⟨hT, h04, h05, hS, hM2, h84⟩ := hC
  have hM : MP 266 m := hS.2.2.2.1
  have tb9 := hT.atp 256 9 0 6 rfl
  have tb10 := hT.atp 256 10 0 10 rfl
  have tb11 := hT.atp 256 11 0 8 rfl
  have tb12 := hT.atp 256 12 0 12 rfl
  have tb13 := hT.atp 256 13 0 8 rfl
  have tb14 := hT.atp 256 14 0 12 rfl
  have tb15 := hT.atp 256 15 0 48 rfl
  have tb16 := hT.atp 256 16 0 40 rfl
  have tb17 := hT.atp 256 17 (-1) 9 rfl
  refine YC.mkB [some (.ref 0), some (.ref 413), none] kn200 rfl rfl ?_
  have hF : Fr wCl m m := Fr.rf
  refine y_aload 1 c200_0 rfl rfl rfl ?_
  refine y_iconst 2 c200_1 rfl ?_
  refine y_aload 3 c200_2 rfl rfl rfl ?_
  refine y_inlB 6 [.ref 0] [yI 0, .ref 413] [some (.ref 0)] c200_3 rfl rfl rfl rfl rfl (ycanO km199 ko0) kn199 rfl rfl ?_
  refine y_aload 1 c199_0 rfl rfl rfl ?_
  refine y_getS 4 (B := 256) c199_1 rfl kf0_4 (by first | rfl | (rw [show m 0 4 = 0 from by have e : m 0 4 = m 0 4 := rfl; omega]; rfl)) ?_
  refine y_getX 7 (m 256 17) c199_4 rfl kf256_17 rfl ?_
  refine y_iconst 8 c199_7 rfl ?_
  refine y_icmp 19 11 c199_8 rfl rfl (yc_ne (by omega) (by omega)) (fun hb5569 => ?_) (fun hb5569 => ?_)
  · refine y_aload 20 c199_19 rfl rfl rfl ?_
    refine y_getR 23 c199_20 rfl kf0_3 ?_
    refine y_aload 24 c199_23 rfl rfl rfl ?_
    refine y_getS 27 (B := 256) c199_24 rfl kf0_4 (by first | rfl | (rw [show m 0 4 = 0 from by have e : m 0 4 = m 0 4 := rfl; omega]; rfl)) ?_
    refine y_call 30 c199_27 rfl rfl rfl (Nat.le_of_ble_eq_true rfl) (Nat.le_of_ble_eq_true rfl) (ycanO km198 ko169) (t198_256 (d := d) hT hS (by omega)) (fun v mq5570 nq5570 hq5570 => ?_) (fun qq5570 xq5570 mq5570 nq5570 hq5570 => ?_)
    · rcases hq5570 with ⟨e, rfl, hTq5570, hFq5570⟩ | ⟨q, x, e, -⟩
      · cases e
        have hF5571 := hF.tr hFq5570 wMz_wCl
        show YW (gZ L xs) _ _ _ _ [] _ _ _
        refine y_aload 31 c199_30 rfl rfl rfl ?_
        refine y_getR 34 c199_31 rfl kf0_3 ?_
        refine y_getX 37 (mq5570 169 6) c199_34 rfl kf169_6 rfl ?_
        have tb5572 := hTq5570.atp 169 6 0 200 rfl
        refine y_ireturnK c199_37 (y_fit0 _) ?_
        refine y_i2l 7 c200_6 rfl ?_
        refine y_lastoreN 8 (mq5570 169 6) c200_7 rfl kl413 (by decide) (by rw [Int32.toInt_toInt64, y_rng (by omega)]) ?_
        have hT5573 := hTq5570.up 413 ((0 : Int).toNat) (mq5570 169 6) ((-2147483648)) 2147483647 rfl (by omega)
        have hF5574 := hF5571.up 413 ((0 : Int).toNat) (mq5570 169 6) rfl
        refine y_goto 23 c200_8 rfl ?_
        refine y_iconst 24 c200_23 rfl ?_
        exact y_ireturn c200_24 (y_fit0 _) ⟨_, rfl, by omega, Or.inl rfl, hF5574, Or.inl (CI.fr hC0 (by omega) (by omega) (by omega) hT5573 (fun a q ha => ((yup_na (by omega)).trans (hFq5570 a q (wMz_c ha)))))⟩
      · cases e
    · rcases hq5570 with ⟨e, -⟩ | ⟨q, x, e, rfl, hTq5570, hFq5570, g1, g2⟩
      · cases e
      · cases e
        refine Or.inr ⟨khn kg199, ?_⟩
        have hF5575 := hF.tr hFq5570 wMz_wCl
        have hq4 : qq5570 = 10 ∨ qq5570 = 11 ∨ qq5570 = 12 ∨ qq5570 = 13 := by omega
        rcases hq4 with rfl | rfl | rfl | rfl
        · refine yK_in kh200_3_10 ?_
          refine y_astore 21 c200_20 rfl rfl rfl ?_
          refine y_iconst 22 c200_21 rfl ?_
          exact y_ireturn c200_22 (y_fit0 _) ⟨_, rfl, by omega, Or.inr rfl, hF5575, Or.inl (CI.fr hC0 (by omega) (by omega) (by omega) hTq5570 (fun a q ha => (hFq5570 a q (wMz_c ha))))⟩
        · refine yK_in kh200_3_11 ?_
          refine y_astore 12 c200_11 rfl rfl rfl ?_
          refine y_iconst 13 c200_12 rfl ?_
          exact y_ireturn c200_13 (y_fit0 _) ⟨_, rfl, by omega, Or.inr rfl, hF5575, Or.inl (CI.fr hC0 (by omega) (by omega) (by omega) hTq5570 (fun a q ha => (hFq5570 a q (wMz_c ha))))⟩
        · refine yK_in kh200_3_12 ?_
          refine y_astore 15 c200_14 rfl rfl rfl ?_
          refine y_iconst 16 c200_15 rfl ?_
          exact y_ireturn c200_16 (y_fit0 _) ⟨_, rfl, by omega, Or.inr rfl, hF5575, Or.inl (CI.fr hC0 (by omega) (by omega) (by omega) hTq5570 (fun a q ha => (hFq5570 a q (wMz_c ha))))⟩
        · refine yK_in kh200_3_13 ?_
          refine y_astore 18 c200_17 rfl rfl rfl ?_
          refine y_iconst 19 c200_18 rfl ?_
          exact y_ireturn c200_19 (y_fit0 _) ⟨_, rfl, by omega, Or.inr rfl, hF5575, Or.inl (CI.fr hC0 (by omega) (by omega) (by omega) hTq5570 (fun a q ha => (hFq5570 a q (wMz_c ha))))⟩
  · refine y_throwB c199_11 rfl ?_
    refine yK_in kh200_3_11 ?_
    refine y_astore 12 c200_11 rfl rfl rfl ?_
    refine y_iconst 13 c200_12 rfl ?_
    exact y_ireturn c200_13 (y_fit0 _) ⟨_, rfl, by omega, Or.inr rfl, hF, Or.inl hC0⟩
