section
/-! CONTRACTS: the class's calls. Printed by wip/whole/gen94.py -/
set_option maxRecDepth 100000 in
theorem t175a_256 {L : Nat} {xs : Nat → Int32} {d nn : Nat} {m : yM} {k : Int} (hT : Ty gT m) (hp : m 8 4 = 0) (hk : 0 ≤ k ∧ k ≤ 39) (h3 : 0 ≤ m (276 + k.toNat) 3) : ∀ (km : Nat) (i : Int), m 256 14 - i = km → 0 ≤ i ∧ i ≤ m 256 14 → YW (gZ L xs) 175 (d + 1) 2 [some (.ref 8), some (.ref (276 + k.toNat)), some (yI i)] [] m nn (qP m nn (fun r => r = 0 ∨ r = 1)) := by
  intro km
  induction km using Nat.strongRecOn with
  | ind km ih =>
    intro i hk hi
    have tb := hT.atp 256 14 0 12 rfl
    refine y_iload 3 c175_2 rfl rfl ?_
    refine y_aload 4 c175_3 rfl rfl rfl ?_
    refine y_getS 7 (B := 256) c175_4 rfl kf8_4 (by first | rfl | (rw [show m 8 4 = 0 from by have e : m 8 4 = m 8 4 := rfl; omega]; rfl)) ?_
    refine y_getX 10 (m 256 14) c175_7 rfl kf256_14 rfl ?_
    refine y_icmp 59 13 c175_10 rfl rfl (yc_ge (by omega) (by omega)) (fun hb5349 => ?_) (fun hb5349 => ?_)
    · refine y_iconst 60 c175_59 rfl ?_
      exact y_retP c175_60 (y_fit1 (by omega)) (by omega)
    · refine y_aload 14 c175_13 rfl rfl rfl ?_
      refine y_getR 17 c175_14 rfl kf8_0 ?_
      refine y_aload 18 c175_17 rfl rfl rfl ?_
      refine y_getX 21 (m (276 + k.toNat) 3) c175_18 rfl (ff276_3 (by omega)) rfl ?_
      have tb5350 := hT.atp (276 + k.toNat) 3 ((-1)) 47 (ft276_3 (by omega))
      refine y_aaload 22 c175_21 rfl kr9 (by omega) ?_
      refine y_iload 23 c175_22 rfl rfl ?_
      refine y_iaT 24 ((-2147483648)) 2147483647 c175_23 rfl (fa10 (by omega)) (by omega) hT (fz10 (by omega)) (fun v5351 hv5351 gv5351 => ?_)
      refine y_iconst 25 c175_24 rfl ?_
      refine y_icmp 53 28 c175_25 rfl rfl (yc_eq (by omega) (by omega)) (fun hb5352 => ?_) (fun hb5352 => ?_)
      · refine y_iinc 56 c175_53 rfl rfl rfl ?_
        refine y_goto 2 c175_56 rfl ?_
        exact ih (m 256 14 - (i + 1) : Int).toNat (by omega) (i + 1)   (by omega) (by omega)
      · refine y_aload 29 c175_28 rfl rfl rfl ?_
        refine y_getS 32 (B := 256) c175_29 rfl kf8_4 (by first | rfl | (rw [show m 8 4 = 0 from by have e : m 8 4 = m 8 4 := rfl; omega]; rfl)) ?_
        refine y_aload 33 c175_32 rfl rfl rfl ?_
        refine y_getS 36 (B := 256) c175_33 rfl kf8_4 (by first | rfl | (rw [show m 8 4 = 0 from by have e : m 8 4 = m 8 4 := rfl; omega]; rfl)) ?_
        refine y_getR 39 c175_36 rfl kf256_7 ?_
        refine y_iload 40 c175_39 rfl rfl ?_
        refine y_iaT 41 0 5 c175_40 rfl ka264 (by omega) hT rfl (fun v5353 hv5353 gv5353 => ?_)
        refine y_aload 42 c175_41 rfl rfl rfl ?_
        refine y_getX 45 (m (276 + k.toNat) 7) c175_42 rfl (ff276_7 (by omega)) rfl ?_
        have tb5354 := hT.atp (276 + k.toNat) 7 ((-1)) 5 (ft276_7 (by omega))
        refine y_callP 48 [.ref 256, yI v5353, yI (m (276 + k.toNat) 7)] [] c175_45 rfl rfl rfl rfl rfl (ycanO km81 ko256) (t81_256 hT (by omega) (by omega)) (fun r5355 hr5355 => ?_)
        refine y_if 53 51 c175_48 rfl rfl (yz_ne (by omega)) (fun hb5356 => ?_) (fun hb5356 => ?_)
        · refine y_iinc 56 c175_53 rfl rfl rfl ?_
          refine y_goto 2 c175_56 rfl ?_
          exact ih (m 256 14 - (i + 1) : Int).toNat (by omega) (i + 1)   (by omega) (by omega)
        · refine y_iconst 52 c175_51 rfl ?_
          exact y_retP c175_52 (y_fit1 (by omega)) (by omega)
set_option maxRecDepth 100000 in
theorem t175_256 {L : Nat} {xs : Nat → Int32} {d nn : Nat} {m : yM} {k : Int} (hT : Ty gT m) (hp : m 8 4 = 0) (hk : 0 ≤ k ∧ k ≤ 39) (h3 : 0 ≤ m (276 + k.toNat) 3) : YC (gZ L xs) (d + 1) 175 [.ref 8, .ref (276 + k.toNat)] m nn (qP m nn (fun r => r = 0 ∨ r = 1)) := by
  refine YC.mkB [some (.ref 8), some (.ref (276 + k.toNat)), none] kn175 rfl rfl ?_
  refine y_iconst 1 c175_0 rfl ?_
  refine y_istore 2 c175_1 rfl rfl ?_
  have tb := hT.atp 256 14 0 12 rfl
  exact t175a_256 hT hp hk h3 (m 256 14 - 0).toNat 0 (by omega) (by omega)
set_option maxRecDepth 100000 in
theorem t179a_256 {L : Nat} {xs : Nat → Int32} {d nn : Nat} {m : yM} {v u : Int} (hT : Ty gT m) (hp : m 8 4 = 0) (hv : 0 ≤ v ∧ v ≤ 47) (hu : 0 ≤ u ∧ u ≤ 47) : ∀ (km : Nat) (i : Int), m 256 14 - i = km → 0 ≤ i ∧ i ≤ m 256 14 → YW (gZ L xs) 179 d 2 [some (.ref 8), some (yI v), some (yI u), some (yI i)] [] m nn (qP m nn (fun r => r = 0 ∨ r = 1)) := by
  intro km
  induction km using Nat.strongRecOn with
  | ind km ih =>
    intro i hk hi
    have tb := hT.atp 256 14 0 12 rfl
    refine y_iload 3 c179_2 rfl rfl ?_
    refine y_aload 4 c179_3 rfl rfl rfl ?_
    refine y_getS 7 (B := 256) c179_4 rfl kf8_4 (by first | rfl | (rw [show m 8 4 = 0 from by have e : m 8 4 = m 8 4 := rfl; omega]; rfl)) ?_
    refine y_getX 10 (m 256 14) c179_7 rfl kf256_14 rfl ?_
    refine y_icmp 45 13 c179_10 rfl rfl (yc_ge (by omega) (by omega)) (fun hb5357 => ?_) (fun hb5357 => ?_)
    · refine y_iconst 46 c179_45 rfl ?_
      exact y_retP c179_46 (y_fit1 (by omega)) (by omega)
    · refine y_aload 14 c179_13 rfl rfl rfl ?_
      refine y_getR 17 c179_14 rfl kf8_0 ?_
      refine y_iload 18 c179_17 rfl rfl ?_
      refine y_aaload 19 c179_18 rfl kr9 (by omega) ?_
      refine y_iload 20 c179_19 rfl rfl ?_
      refine y_iaT 21 ((-2147483648)) 2147483647 c179_20 rfl (fa10 (by omega)) (by omega) hT (fz10 (by omega)) (fun v5358 hv5358 gv5358 => ?_)
      refine y_iconst 22 c179_21 rfl ?_
      refine y_icmp 39 25 c179_22 rfl rfl (yc_eq (by omega) (by omega)) (fun hb5359 => ?_) (fun hb5359 => ?_)
      · refine y_iinc 42 c179_39 rfl rfl rfl ?_
        refine y_goto 2 c179_42 rfl ?_
        exact ih (m 256 14 - (i + 1) : Int).toNat (by omega) (i + 1)   (by omega) (by omega)
      · refine y_aload 26 c179_25 rfl rfl rfl ?_
        refine y_getR 29 c179_26 rfl kf8_0 ?_
        refine y_iload 30 c179_29 rfl rfl ?_
        refine y_aaload 31 c179_30 rfl kr9 (by omega) ?_
        refine y_iload 32 c179_31 rfl rfl ?_
        refine y_iaT 33 ((-2147483648)) 2147483647 c179_32 rfl (fa10 (by omega)) (by omega) hT (fz10 (by omega)) (fun v5360 hv5360 gv5360 => ?_)
        refine y_iconst 34 c179_33 rfl ?_
        refine y_icmp 39 37 c179_34 rfl rfl (yc_eq (by omega) (by omega)) (fun hb5361 => ?_) (fun hb5361 => ?_)
        · refine y_iinc 42 c179_39 rfl rfl rfl ?_
          refine y_goto 2 c179_42 rfl ?_
          exact ih (m 256 14 - (i + 1) : Int).toNat (by omega) (i + 1)   (by omega) (by omega)
        · refine y_iconst 38 c179_37 rfl ?_
          exact y_retP c179_38 (y_fit1 (by omega)) (by omega)
set_option maxRecDepth 100000 in
theorem t179_256 {L : Nat} {xs : Nat → Int32} {d nn : Nat} {m : yM} {v u : Int} (hT : Ty gT m) (hp : m 8 4 = 0) (hv : 0 ≤ v ∧ v ≤ 47) (hu : 0 ≤ u ∧ u ≤ 47) : YC (gZ L xs) d 179 [.ref 8, yI v, yI u] m nn (qP m nn (fun r => r = 0 ∨ r = 1)) := by
  refine YC.mkB [some (.ref 8), some (yI v), some (yI u), none] kn179 rfl rfl ?_
  refine y_iconst 1 c179_0 rfl ?_
  refine y_istore 2 c179_1 rfl rfl ?_
  have tb := hT.atp 256 14 0 12 rfl
  exact t179a_256 hT hp hv hu (m 256 14 - 0).toNat 0 (by omega) (by omega)
set_option maxRecDepth 100000 in
theorem t159_256 {L : Nat} {xs : Nat → Int32} {d nn : Nat} {m : yM} {a : Int} (ra : -2147483648 ≤ a ∧ a < 2147483648) {b : Int} (rb : -2147483648 ≤ b ∧ b < 2147483648) (hC : CI 256 326 0 m) : YC (gZ L xs) (d + 3) 159 [.ref 0, yI a, yI b, .ref 413] m nn (qW nn m) := by
  have hC0 := hC
  obtain ⟨hT, h04, h05, hS, hM2, h84⟩ := hC
  have hM : MP 266 m := hS.2.2.2.1
  have tb9 := hT.atp 256 9 0 6 rfl
  have tb10 := hT.atp 256 10 0 10 rfl
  have tb11 := hT.atp 256 11 0 8 rfl
  have tb12 := hT.atp 256 12 0 12 rfl
  have tb13 := hT.atp 256 13 0 8 rfl
  have tb14 := hT.atp 256 14 0 12 rfl
  have tb15 := hT.atp 256 15 0 48 rfl
  have tb16 := hT.atp 256 16 0 40 rfl
  refine YC.mkB [some (.ref 0), some (yI a), some (yI b), some (.ref 413), none] kn159 rfl rfl ?_
  have hF : Fr wCl m m := Fr.rf
  refine y_aload 1 c159_0 rfl rfl rfl ?_
  refine y_iconst 2 c159_1 rfl ?_
  refine y_aload 3 c159_2 rfl rfl rfl ?_
  refine y_iload 4 c159_3 rfl rfl ?_
  refine y_iload 5 c159_4 rfl rfl ?_
  refine y_inlB 8 [.ref 0, yI a, yI b] [yI 0, .ref 413] [some (.ref 0), some (yI a), some (yI b)] c159_5 rfl rfl rfl rfl rfl (ycanO km158 ko0) kn158 rfl rfl ?_
  refine y_aload 1 c158_0 rfl rfl rfl ?_
  refine y_iload 2 c158_1 rfl rfl ?_
  refine y_inlB 5 [.ref 0, yI a] [] [some (.ref 0), some (yI a)] c158_2 rfl rfl rfl rfl rfl (ycanO km156 ko0) kn156 rfl rfl ?_
  refine y_iload 1 c156_0 rfl rfl ?_
  refine y_aload 2 c156_1 rfl rfl rfl ?_
  refine y_getS 5 (B := 256) c156_2 rfl kf0_4 (by first | rfl | (rw [show m 0 4 = 0 from by have e : m 0 4 = m 0 4 := rfl; omega]; rfl)) ?_
  refine y_getX 8 (m 256 15) c156_5 rfl kf256_15 rfl ?_
  refine y_inlB 11 [yI a, yI (m 256 15)] [] [some (yI a), some (yI (m 256 15))] c156_8 rfl rfl rfl rfl rfl (ycanS km155) kn155 rfl rfl ?_
  refine y_iload 1 c155_0 rfl rfl ?_
  refine y_if 13 4 c155_1 rfl rfl (yz_lt (by omega)) (fun hb5362 => ?_) (fun hb5362 => ?_)
  · refine y_iconst 14 c155_13 rfl ?_
    refine y_ireturnK c155_14 (y_fit1 (by omega)) ?_
    refine y_ireturnK c156_11 (y_fit1 (by omega)) ?_
    refine y_if 16 8 c158_5 rfl rfl (yz_eq (by omega)) (fun hb5363 => ?_) (fun hb5363 => ?_)
    · refine y_throwB c158_16 rfl ?_
      refine yK_in kh159_5_11 ?_
      refine y_astore 15 c159_13 rfl rfl rfl ?_
      refine y_iconst 16 c159_15 rfl ?_
      exact y_ireturn c159_16 (y_fit0 _) ⟨_, rfl, by omega, Or.inr rfl, hF, Or.inl hC0⟩
    · exfalso; omega
  · refine y_iload 5 c155_4 rfl rfl ?_
    refine y_iload 6 c155_5 rfl rfl ?_
    refine y_icmp 13 9 c155_6 rfl rfl (yc_ge (by omega) (by omega)) (fun hb5364 => ?_) (fun hb5364 => ?_)
    · refine y_iconst 14 c155_13 rfl ?_
      refine y_ireturnK c155_14 (y_fit1 (by omega)) ?_
      refine y_ireturnK c156_11 (y_fit1 (by omega)) ?_
      refine y_if 16 8 c158_5 rfl rfl (yz_eq (by omega)) (fun hb5365 => ?_) (fun hb5365 => ?_)
      · refine y_throwB c158_16 rfl ?_
        refine yK_in kh159_5_11 ?_
        refine y_astore 15 c159_13 rfl rfl rfl ?_
        refine y_iconst 16 c159_15 rfl ?_
        exact y_ireturn c159_16 (y_fit0 _) ⟨_, rfl, by omega, Or.inr rfl, hF, Or.inl hC0⟩
      · exfalso; omega
    · refine y_iconst 10 c155_9 rfl ?_
      refine y_goto 14 c155_10 rfl ?_
      refine y_ireturnK c155_14 (y_fit1 (by omega)) ?_
      refine y_ireturnK c156_11 (y_fit1 (by omega)) ?_
      refine y_if 16 8 c158_5 rfl rfl (yz_eq (by omega)) (fun hb5366 => ?_) (fun hb5366 => ?_)
      · exfalso; omega
      · refine y_aload 9 c158_8 rfl rfl rfl ?_
        refine y_iload 10 c158_9 rfl rfl ?_
        refine y_inlB 13 [.ref 0, yI b] [] [some (.ref 0), some (yI b)] c158_10 rfl rfl rfl rfl rfl (ycanO km157 ko0) kn157 rfl rfl ?_
        refine y_iload 1 c157_0 rfl rfl ?_
        refine y_aload 2 c157_1 rfl rfl rfl ?_
        refine y_getS 5 (B := 256) c157_2 rfl kf0_4 (by first | rfl | (rw [show m 0 4 = 0 from by have e : m 0 4 = m 0 4 := rfl; omega]; rfl)) ?_
        refine y_getX 8 (m 256 14) c157_5 rfl kf256_14 rfl ?_
        refine y_inlB 11 [yI b, yI (m 256 14)] [] [some (yI b), some (yI (m 256 14))] c157_8 rfl rfl rfl rfl rfl (ycanS km155) kn155 rfl rfl ?_
        refine y_iload 1 c155_0 rfl rfl ?_
        refine y_if 13 4 c155_1 rfl rfl (yz_lt (by omega)) (fun hb5367 => ?_) (fun hb5367 => ?_)
        · refine y_iconst 14 c155_13 rfl ?_
          refine y_ireturnK c155_14 (y_fit1 (by omega)) ?_
          refine y_ireturnK c157_11 (y_fit1 (by omega)) ?_
          refine y_if 24 16 c158_13 rfl rfl (yz_ne (by omega)) (fun hb5368 => ?_) (fun hb5368 => ?_)
          · exfalso; omega
          · refine y_throwB c158_16 rfl ?_
            refine yK_in kh159_5_11 ?_
            refine y_astore 15 c159_13 rfl rfl rfl ?_
            refine y_iconst 16 c159_15 rfl ?_
            exact y_ireturn c159_16 (y_fit0 _) ⟨_, rfl, by omega, Or.inr rfl, hF, Or.inl hC0⟩
        · refine y_iload 5 c155_4 rfl rfl ?_
          refine y_iload 6 c155_5 rfl rfl ?_
          refine y_icmp 13 9 c155_6 rfl rfl (yc_ge (by omega) (by omega)) (fun hb5369 => ?_) (fun hb5369 => ?_)
          · refine y_iconst 14 c155_13 rfl ?_
            refine y_ireturnK c155_14 (y_fit1 (by omega)) ?_
            refine y_ireturnK c157_11 (y_fit1 (by omega)) ?_
            refine y_if 24 16 c158_13 rfl rfl (yz_ne (by omega)) (fun hb5370 => ?_) (fun hb5370 => ?_)
            · exfalso; omega
            · refine y_throwB c158_16 rfl ?_
              refine yK_in kh159_5_11 ?_
              refine y_astore 15 c159_13 rfl rfl rfl ?_
              refine y_iconst 16 c159_15 rfl ?_
              exact y_ireturn c159_16 (y_fit0 _) ⟨_, rfl, by omega, Or.inr rfl, hF, Or.inl hC0⟩
          · refine y_iconst 10 c155_9 rfl ?_
            refine y_goto 14 c155_10 rfl ?_
            refine y_ireturnK c155_14 (y_fit1 (by omega)) ?_
            refine y_ireturnK c157_11 (y_fit1 (by omega)) ?_
            refine y_if 24 16 c158_13 rfl rfl (yz_ne (by omega)) (fun hb5371 => ?_) (fun hb5371 => ?_)
            · refine y_aload 25 c158_24 rfl rfl rfl ?_
              refine y_getR 28 c158_25 rfl kf0_2 ?_
              refine y_getR 31 c158_28 rfl kf8_0 ?_
              refine y_iload 32 c158_31 rfl rfl ?_
              refine y_aaload 33 c158_32 rfl kr9 (by omega) ?_
              refine y_iload 34 c158_33 rfl rfl ?_
              refine y_iaT 35 ((-2147483648)) 2147483647 c158_34 rfl (fa10 (by omega)) (by omega) hT (fz10 (by omega)) (fun v5372 hv5372 gv5372 => ?_)
              refine y_ireturnK c158_35 (y_fit0 _) ?_
              refine y_i2l 9 c159_8 rfl ?_
              refine y_lastoreN 10 v5372 c159_9 rfl kl413 (by decide) (by rw [Int32.toInt_toInt64, y_rng (by omega)]) ?_
              have hT5373 := hT.up 413 ((0 : Int).toNat) v5372 ((-2147483648)) 2147483647 rfl (by omega)
              have hF5374 := hF.up 413 ((0 : Int).toNat) v5372 rfl
              refine y_goto 17 c159_10 rfl ?_
              refine y_iconst 18 c159_17 rfl ?_
              exact y_ireturn c159_18 (y_fit0 _) ⟨_, rfl, by omega, Or.inl rfl, hF5374, Or.inl (CI.fr hC0 (by omega) (by omega) (by omega) hT5373 (fun a q ha => (yup_na (by omega))))⟩
            · exfalso; omega
set_option maxRecDepth 100000 in
theorem t165_256 {L : Nat} {xs : Nat → Int32} {d nn : Nat} {m : yM} {a : Int} (ra : -2147483648 ≤ a ∧ a < 2147483648) {b : Int} (rb : -2147483648 ≤ b ∧ b < 2147483648) {c : Int} (rc : -2147483648 ≤ c ∧ c < 2147483648) (hC : CI 256 326 0 m) : YC (gZ L xs) (d + 3) 165 [.ref 0, yI a, yI b, yI c, .ref 413] m nn (qW nn m) := by
  have hC0 := hC
  obtain ⟨hT, h04, h05, hS, hM2, h84⟩ := hC
  have hM : MP 266 m := hS.2.2.2.1
  have tb9 := hT.atp 256 9 0 6 rfl
  have tb10 := hT.atp 256 10 0 10 rfl
  have tb11 := hT.atp 256 11 0 8 rfl
  have tb12 := hT.atp 256 12 0 12 rfl
  have tb13 := hT.atp 256 13 0 8 rfl
  have tb14 := hT.atp 256 14 0 12 rfl
  have tb15 := hT.atp 256 15 0 48 rfl
  have tb16 := hT.atp 256 16 0 40 rfl
  refine YC.mkB [some (.ref 0), some (yI a), some (yI b), some (yI c), some (.ref 413), none] kn165 rfl rfl ?_
  have hF : Fr wCl m m := Fr.rf
  refine y_aload 2 c165_0 rfl rfl rfl ?_
  refine y_iconst 3 c165_2 rfl ?_
  refine y_aload 4 c165_3 rfl rfl rfl ?_
  refine y_iload 5 c165_4 rfl rfl ?_
  refine y_iload 6 c165_5 rfl rfl ?_
  refine y_iload 7 c165_6 rfl rfl ?_
  refine y_inlB 10 [.ref 0, yI a, yI b, yI c] [yI 0, .ref 413] [some (.ref 0), some (yI a), some (yI b), some (yI c)] c165_7 rfl rfl rfl rfl rfl (ycanO km164 ko0) kn164 rfl rfl ?_
  refine y_aload 1 c164_0 rfl rfl rfl ?_
  refine y_iload 2 c164_1 rfl rfl ?_
  refine y_inlB 5 [.ref 0, yI a] [] [some (.ref 0), some (yI a)] c164_2 rfl rfl rfl rfl rfl (ycanO km157 ko0) kn157 rfl rfl ?_
  refine y_iload 1 c157_0 rfl rfl ?_
  refine y_aload 2 c157_1 rfl rfl rfl ?_
  refine y_getS 5 (B := 256) c157_2 rfl kf0_4 (by first | rfl | (rw [show m 0 4 = 0 from by have e : m 0 4 = m 0 4 := rfl; omega]; rfl)) ?_
  refine y_getX 8 (m 256 14) c157_5 rfl kf256_14 rfl ?_
  refine y_inlB 11 [yI a, yI (m 256 14)] [] [some (yI a), some (yI (m 256 14))] c157_8 rfl rfl rfl rfl rfl (ycanS km155) kn155 rfl rfl ?_
  refine y_iload 1 c155_0 rfl rfl ?_
  refine y_if 13 4 c155_1 rfl rfl (yz_lt (by omega)) (fun hb5375 => ?_) (fun hb5375 => ?_)
  · refine y_iconst 14 c155_13 rfl ?_
    refine y_ireturnK c155_14 (y_fit1 (by omega)) ?_
    refine y_ireturnK c157_11 (y_fit1 (by omega)) ?_
    refine y_if 30 8 c164_5 rfl rfl (yz_eq (by omega)) (fun hb5376 => ?_) (fun hb5376 => ?_)
    · refine y_throwB c164_30 rfl ?_
      refine yK_in kh165_7_11 ?_
      refine y_astore 17 c165_15 rfl rfl rfl ?_
      refine y_iconst 18 c165_17 rfl ?_
      exact y_ireturn c165_18 (y_fit0 _) ⟨_, rfl, by omega, Or.inr rfl, hF, Or.inl hC0⟩
    · exfalso; omega
  · refine y_iload 5 c155_4 rfl rfl ?_
    refine y_iload 6 c155_5 rfl rfl ?_
    refine y_icmp 13 9 c155_6 rfl rfl (yc_ge (by omega) (by omega)) (fun hb5377 => ?_) (fun hb5377 => ?_)
    · refine y_iconst 14 c155_13 rfl ?_
      refine y_ireturnK c155_14 (y_fit1 (by omega)) ?_
      refine y_ireturnK c157_11 (y_fit1 (by omega)) ?_
      refine y_if 30 8 c164_5 rfl rfl (yz_eq (by omega)) (fun hb5378 => ?_) (fun hb5378 => ?_)
      · refine y_throwB c164_30 rfl ?_
        refine yK_in kh165_7_11 ?_
        refine y_astore 17 c165_15 rfl rfl rfl ?_
        refine y_iconst 18 c165_17 rfl ?_
        exact y_ireturn c165_18 (y_fit0 _) ⟨_, rfl, by omega, Or.inr rfl, hF, Or.inl hC0⟩
      · exfalso; omega
    · refine y_iconst 10 c155_9 rfl ?_
      refine y_goto 14 c155_10 rfl ?_
      refine y_ireturnK c155_14 (y_fit1 (by omega)) ?_
      refine y_ireturnK c157_11 (y_fit1 (by omega)) ?_
      refine y_if 30 8 c164_5 rfl rfl (yz_eq (by omega)) (fun hb5379 => ?_) (fun hb5379 => ?_)
      · exfalso; omega
      · refine y_iload 9 c164_8 rfl rfl ?_
        refine y_aload 10 c164_9 rfl rfl rfl ?_
        refine y_getS 13 (B := 256) c164_10 rfl kf0_4 (by first | rfl | (rw [show m 0 4 = 0 from by have e : m 0 4 = m 0 4 := rfl; omega]; rfl)) ?_
        refine y_getX 16 (m 256 11) c164_13 rfl kf256_11 rfl ?_
        refine y_inlB 19 [yI b, yI (m 256 11)] [] [some (yI b), some (yI (m 256 11))] c164_16 rfl rfl rfl rfl rfl (ycanS km155) kn155 rfl rfl ?_
        refine y_iload 1 c155_0 rfl rfl ?_
        refine y_if 13 4 c155_1 rfl rfl (yz_lt (by omega)) (fun hb5380 => ?_) (fun hb5380 => ?_)
        · refine y_iconst 14 c155_13 rfl ?_
          refine y_ireturnK c155_14 (y_fit1 (by omega)) ?_
          refine y_if 30 22 c164_19 rfl rfl (yz_eq (by omega)) (fun hb5381 => ?_) (fun hb5381 => ?_)
          · refine y_throwB c164_30 rfl ?_
            refine yK_in kh165_7_11 ?_
            refine y_astore 17 c165_15 rfl rfl rfl ?_
            refine y_iconst 18 c165_17 rfl ?_
            exact y_ireturn c165_18 (y_fit0 _) ⟨_, rfl, by omega, Or.inr rfl, hF, Or.inl hC0⟩
          · exfalso; omega
        · refine y_iload 5 c155_4 rfl rfl ?_
          refine y_iload 6 c155_5 rfl rfl ?_
          refine y_icmp 13 9 c155_6 rfl rfl (yc_ge (by omega) (by omega)) (fun hb5382 => ?_) (fun hb5382 => ?_)
          · refine y_iconst 14 c155_13 rfl ?_
            refine y_ireturnK c155_14 (y_fit1 (by omega)) ?_
            refine y_if 30 22 c164_19 rfl rfl (yz_eq (by omega)) (fun hb5383 => ?_) (fun hb5383 => ?_)
            · refine y_throwB c164_30 rfl ?_
              refine yK_in kh165_7_11 ?_
              refine y_astore 17 c165_15 rfl rfl rfl ?_
              refine y_iconst 18 c165_17 rfl ?_
              exact y_ireturn c165_18 (y_fit0 _) ⟨_, rfl, by omega, Or.inr rfl, hF, Or.inl hC0⟩
            · exfalso; omega
          · refine y_iconst 10 c155_9 rfl ?_
            refine y_goto 14 c155_10 rfl ?_
            refine y_ireturnK c155_14 (y_fit1 (by omega)) ?_
            refine y_if 30 22 c164_19 rfl rfl (yz_eq (by omega)) (fun hb5384 => ?_) (fun hb5384 => ?_)
            · exfalso; omega
            · refine y_aload 23 c164_22 rfl rfl rfl ?_
              refine y_iload 24 c164_23 rfl rfl ?_
              refine y_inlB 27 [.ref 0, yI c] [] [some (.ref 0), some (yI c)] c164_24 rfl rfl rfl rfl rfl (ycanO km157 ko0) kn157 rfl rfl ?_
              refine y_iload 1 c157_0 rfl rfl ?_
              refine y_aload 2 c157_1 rfl rfl rfl ?_
              refine y_getS 5 (B := 256) c157_2 rfl kf0_4 (by first | rfl | (rw [show m 0 4 = 0 from by have e : m 0 4 = m 0 4 := rfl; omega]; rfl)) ?_
              refine y_getX 8 (m 256 14) c157_5 rfl kf256_14 rfl ?_
              refine y_inlB 11 [yI c, yI (m 256 14)] [] [some (yI c), some (yI (m 256 14))] c157_8 rfl rfl rfl rfl rfl (ycanS km155) kn155 rfl rfl ?_
              refine y_iload 1 c155_0 rfl rfl ?_
              refine y_if 13 4 c155_1 rfl rfl (yz_lt (by omega)) (fun hb5385 => ?_) (fun hb5385 => ?_)
              · refine y_iconst 14 c155_13 rfl ?_
                refine y_ireturnK c155_14 (y_fit1 (by omega)) ?_
                refine y_ireturnK c157_11 (y_fit1 (by omega)) ?_
                refine y_if 38 30 c164_27 rfl rfl (yz_ne (by omega)) (fun hb5386 => ?_) (fun hb5386 => ?_)
                · exfalso; omega
                · refine y_throwB c164_30 rfl ?_
                  refine yK_in kh165_7_11 ?_
                  refine y_astore 17 c165_15 rfl rfl rfl ?_
                  refine y_iconst 18 c165_17 rfl ?_
                  exact y_ireturn c165_18 (y_fit0 _) ⟨_, rfl, by omega, Or.inr rfl, hF, Or.inl hC0⟩
              · refine y_iload 5 c155_4 rfl rfl ?_
                refine y_iload 6 c155_5 rfl rfl ?_
                refine y_icmp 13 9 c155_6 rfl rfl (yc_ge (by omega) (by omega)) (fun hb5387 => ?_) (fun hb5387 => ?_)
                · refine y_iconst 14 c155_13 rfl ?_
                  refine y_ireturnK c155_14 (y_fit1 (by omega)) ?_
                  refine y_ireturnK c157_11 (y_fit1 (by omega)) ?_
                  refine y_if 38 30 c164_27 rfl rfl (yz_ne (by omega)) (fun hb5388 => ?_) (fun hb5388 => ?_)
                  · exfalso; omega
                  · refine y_throwB c164_30 rfl ?_
                    refine yK_in kh165_7_11 ?_
                    refine y_astore 17 c165_15 rfl rfl rfl ?_
                    refine y_iconst 18 c165_17 rfl ?_
                    exact y_ireturn c165_18 (y_fit0 _) ⟨_, rfl, by omega, Or.inr rfl, hF, Or.inl hC0⟩
                · refine y_iconst 10 c155_9 rfl ?_
                  refine y_goto 14 c155_10 rfl ?_
                  refine y_ireturnK c155_14 (y_fit1 (by omega)) ?_
                  refine y_ireturnK c157_11 (y_fit1 (by omega)) ?_
                  refine y_if 38 30 c164_27 rfl rfl (yz_ne (by omega)) (fun hb5389 => ?_) (fun hb5389 => ?_)
                  · refine y_aload 39 c164_38 rfl rfl rfl ?_
                    refine y_getR 42 c164_39 rfl kf0_2 ?_
                    refine y_iload 43 c164_42 rfl rfl ?_
                    refine y_iload 44 c164_43 rfl rfl ?_
                    refine y_callAB 47 [.ref 8, yI a, yI b] [] c164_44 rfl rfl rfl rfl rfl (ycanO km83 ko8) (t83 (by omega) (by omega)) (fun Rq5390 mq5390 nq5390 hq5390 => ?_)
                    obtain ⟨rfl, rfl, hmq5390⟩ := hq5390
                    obtain rfl := hmq5390.symm
                    refine y_iload 48 c164_47 rfl rfl ?_
                    refine y_iaT 49 ((-2147483648)) 2147483647 c164_48 rfl (fa73 (by omega)) (by omega) hT (fz73 (by omega)) (fun v5391 hv5391 gv5391 => ?_)
                    refine y_ireturnK c164_49 (y_fit0 _) ?_
                    refine y_i2l 11 c165_10 rfl ?_
                    refine y_lastoreN 12 v5391 c165_11 rfl kl413 (by decide) (by rw [Int32.toInt_toInt64, y_rng (by omega)]) ?_
                    have hT5392 := hT.up 413 ((0 : Int).toNat) v5391 ((-2147483648)) 2147483647 rfl (by omega)
                    have hF5393 := hF.up 413 ((0 : Int).toNat) v5391 rfl
                    refine y_goto 19 c165_12 rfl ?_
                    refine y_iconst 20 c165_19 rfl ?_
                    exact y_ireturn c165_20 (y_fit0 _) ⟨_, rfl, by omega, Or.inl rfl, hF5393, Or.inl (CI.fr hC0 (by omega) (by omega) (by omega) hT5392 (fun a q ha => (yup_na (by omega))))⟩
                  · exfalso; omega
set_option maxRecDepth 100000 in
theorem t169_256 {L : Nat} {xs : Nat → Int32} {d nn : Nat} {m : yM} {a : Int} (ra : -2147483648 ≤ a ∧ a < 2147483648) {b : Int} (rb : -2147483648 ≤ b ∧ b < 2147483648) (hC : CI 256 326 0 m) : YC (gZ L xs) (d + 3) 169 [.ref 0, yI a, yI b, .ref 413] m nn (qW nn m) := by
  have hC0 := hC
  obtain ⟨hT, h04, h05, hS, hM2, h84⟩ := hC
  have hM : MP 266 m := hS.2.2.2.1
  have tb9 := hT.atp 256 9 0 6 rfl
  have tb10 := hT.atp 256 10 0 10 rfl
  have tb11 := hT.atp 256 11 0 8 rfl
  have tb12 := hT.atp 256 12 0 12 rfl
  have tb13 := hT.atp 256 13 0 8 rfl
  have tb14 := hT.atp 256 14 0 12 rfl
  have tb15 := hT.atp 256 15 0 48 rfl
  have tb16 := hT.atp 256 16 0 40 rfl
  refine YC.mkB [some (.ref 0), some (yI a), some (yI b), some (.ref 413), none] kn169 rfl rfl ?_
  have hF : Fr wCl m m := Fr.rf
  refine y_aload 1 c169_0 rfl rfl rfl ?_
  refine y_iconst 2 c169_1 rfl ?_
  refine y_aload 3 c169_2 rfl rfl rfl ?_
  refine y_iload 4 c169_3 rfl rfl ?_
  refine y_iload 5 c169_4 rfl rfl ?_
  refine y_inlB 8 [.ref 0, yI a, yI b] [yI 0, .ref 413] [some (.ref 0), some (yI a), some (yI b)] c169_5 rfl rfl rfl rfl rfl (ycanO km168 ko0) kn168 rfl rfl ?_
  refine y_iload 1 c168_0 rfl rfl ?_
  refine y_aload 2 c168_1 rfl rfl rfl ?_
  refine y_getS 5 (B := 256) c168_2 rfl kf0_4 (by first | rfl | (rw [show m 0 4 = 0 from by have e : m 0 4 = m 0 4 := rfl; omega]; rfl)) ?_
  refine y_getX 8 (m 256 12) c168_5 rfl kf256_12 rfl ?_
  refine y_inlB 11 [yI a, yI (m 256 12)] [] [some (yI a), some (yI (m 256 12))] c168_8 rfl rfl rfl rfl rfl (ycanS km155) kn155 rfl rfl ?_
  refine y_iload 1 c155_0 rfl rfl ?_
  refine y_if 13 4 c155_1 rfl rfl (yz_lt (by omega)) (fun hb5394 => ?_) (fun hb5394 => ?_)
  · refine y_iconst 14 c155_13 rfl ?_
    refine y_ireturnK c155_14 (y_fit1 (by omega)) ?_
    refine y_if 22 14 c168_11 rfl rfl (yz_eq (by omega)) (fun hb5395 => ?_) (fun hb5395 => ?_)
    · refine y_throwB c168_22 rfl ?_
      refine yK_in kh169_5_11 ?_
      refine y_astore 15 c169_13 rfl rfl rfl ?_
      refine y_iconst 16 c169_15 rfl ?_
      exact y_ireturn c169_16 (y_fit0 _) ⟨_, rfl, by omega, Or.inr rfl, hF, Or.inl hC0⟩
    · exfalso; omega
  · refine y_iload 5 c155_4 rfl rfl ?_
    refine y_iload 6 c155_5 rfl rfl ?_
    refine y_icmp 13 9 c155_6 rfl rfl (yc_ge (by omega) (by omega)) (fun hb5396 => ?_) (fun hb5396 => ?_)
    · refine y_iconst 14 c155_13 rfl ?_
      refine y_ireturnK c155_14 (y_fit1 (by omega)) ?_
      refine y_if 22 14 c168_11 rfl rfl (yz_eq (by omega)) (fun hb5397 => ?_) (fun hb5397 => ?_)
      · refine y_throwB c168_22 rfl ?_
        refine yK_in kh169_5_11 ?_
        refine y_astore 15 c169_13 rfl rfl rfl ?_
        refine y_iconst 16 c169_15 rfl ?_
        exact y_ireturn c169_16 (y_fit0 _) ⟨_, rfl, by omega, Or.inr rfl, hF, Or.inl hC0⟩
      · exfalso; omega
    · refine y_iconst 10 c155_9 rfl ?_
      refine y_goto 14 c155_10 rfl ?_
      refine y_ireturnK c155_14 (y_fit1 (by omega)) ?_
      refine y_if 22 14 c168_11 rfl rfl (yz_eq (by omega)) (fun hb5398 => ?_) (fun hb5398 => ?_)
      · exfalso; omega
      · refine y_aload 15 c168_14 rfl rfl rfl ?_
        refine y_iload 16 c168_15 rfl rfl ?_
        refine y_inlB 19 [.ref 0, yI b] [] [some (.ref 0), some (yI b)] c168_16 rfl rfl rfl rfl rfl (ycanO km167 ko0) kn167 rfl rfl ?_
        refine y_iload 1 c167_0 rfl rfl ?_
        refine y_aload 2 c167_1 rfl rfl rfl ?_
        refine y_getS 5 (B := 256) c167_2 rfl kf0_4 (by first | rfl | (rw [show m 0 4 = 0 from by have e : m 0 4 = m 0 4 := rfl; omega]; rfl)) ?_
        refine y_getX 8 (m 256 10) c167_5 rfl kf256_10 rfl ?_
        refine y_inlB 11 [yI b, yI (m 256 10)] [] [some (yI b), some (yI (m 256 10))] c167_8 rfl rfl rfl rfl rfl (ycanS km155) kn155 rfl rfl ?_
        refine y_iload 1 c155_0 rfl rfl ?_
        refine y_if 13 4 c155_1 rfl rfl (yz_lt (by omega)) (fun hb5399 => ?_) (fun hb5399 => ?_)
        · refine y_iconst 14 c155_13 rfl ?_
          refine y_ireturnK c155_14 (y_fit1 (by omega)) ?_
          refine y_ireturnK c167_11 (y_fit1 (by omega)) ?_
          refine y_if 30 22 c168_19 rfl rfl (yz_ne (by omega)) (fun hb5400 => ?_) (fun hb5400 => ?_)
          · exfalso; omega
          · refine y_throwB c168_22 rfl ?_
            refine yK_in kh169_5_11 ?_
            refine y_astore 15 c169_13 rfl rfl rfl ?_
            refine y_iconst 16 c169_15 rfl ?_
            exact y_ireturn c169_16 (y_fit0 _) ⟨_, rfl, by omega, Or.inr rfl, hF, Or.inl hC0⟩
        · refine y_iload 5 c155_4 rfl rfl ?_
          refine y_iload 6 c155_5 rfl rfl ?_
          refine y_icmp 13 9 c155_6 rfl rfl (yc_ge (by omega) (by omega)) (fun hb5401 => ?_) (fun hb5401 => ?_)
          · refine y_iconst 14 c155_13 rfl ?_
            refine y_ireturnK c155_14 (y_fit1 (by omega)) ?_
            refine y_ireturnK c167_11 (y_fit1 (by omega)) ?_
            refine y_if 30 22 c168_19 rfl rfl (yz_ne (by omega)) (fun hb5402 => ?_) (fun hb5402 => ?_)
            · exfalso; omega
            · refine y_throwB c168_22 rfl ?_
              refine yK_in kh169_5_11 ?_
              refine y_astore 15 c169_13 rfl rfl rfl ?_
              refine y_iconst 16 c169_15 rfl ?_
              exact y_ireturn c169_16 (y_fit0 _) ⟨_, rfl, by omega, Or.inr rfl, hF, Or.inl hC0⟩
          · refine y_iconst 10 c155_9 rfl ?_
            refine y_goto 14 c155_10 rfl ?_
            refine y_ireturnK c155_14 (y_fit1 (by omega)) ?_
            refine y_ireturnK c167_11 (y_fit1 (by omega)) ?_
            refine y_if 30 22 c168_19 rfl rfl (yz_ne (by omega)) (fun hb5403 => ?_) (fun hb5403 => ?_)
            · refine y_aload 31 c168_30 rfl rfl rfl ?_
              refine y_getR 34 c168_31 rfl kf0_2 ?_
              refine y_getR 37 c168_34 rfl kf8_1 ?_
              refine y_iload 38 c168_37 rfl rfl ?_
              refine y_aaload 39 c168_38 rfl kr58 (by omega) ?_
              refine y_iload 40 c168_39 rfl rfl ?_
              refine y_iaT 41 ((-2147483648)) 2147483647 c168_40 rfl (fa59 (by omega)) (by omega) hT (fz59 (by omega)) (fun v5404 hv5404 gv5404 => ?_)
              refine y_ireturnK c168_41 (y_fit0 _) ?_
              refine y_i2l 9 c169_8 rfl ?_
              refine y_lastoreN 10 v5404 c169_9 rfl kl413 (by decide) (by rw [Int32.toInt_toInt64, y_rng (by omega)]) ?_
              have hT5405 := hT.up 413 ((0 : Int).toNat) v5404 ((-2147483648)) 2147483647 rfl (by omega)
              have hF5406 := hF.up 413 ((0 : Int).toNat) v5404 rfl
              refine y_goto 17 c169_10 rfl ?_
              refine y_iconst 18 c169_17 rfl ?_
              exact y_ireturn c169_18 (y_fit0 _) ⟨_, rfl, by omega, Or.inl rfl, hF5406, Or.inl (CI.fr hC0 (by omega) (by omega) (by omega) hT5405 (fun a q ha => (yup_na (by omega))))⟩
            · exfalso; omega
set_option maxRecDepth 100000 in
theorem t173_256 {L : Nat} {xs : Nat → Int32} {d nn : Nat} {m : yM} {a : Int} (ra : -2147483648 ≤ a ∧ a < 2147483648) (hC : CI 256 326 0 m) : YC (gZ L xs) (d + 3) 173 [.ref 0, yI a, .ref 413] m nn (qW nn m) := by
  have hC0 := hC
  obtain ⟨hT, h04, h05, hS, hM2, h84⟩ := hC
  have hM : MP 266 m := hS.2.2.2.1
  have tb9 := hT.atp 256 9 0 6 rfl
  have tb10 := hT.atp 256 10 0 10 rfl
  have tb11 := hT.atp 256 11 0 8 rfl
  have tb12 := hT.atp 256 12 0 12 rfl
  have tb13 := hT.atp 256 13 0 8 rfl
  have tb14 := hT.atp 256 14 0 12 rfl
  have tb15 := hT.atp 256 15 0 48 rfl
  have tb16 := hT.atp 256 16 0 40 rfl
  refine YC.mkB [some (.ref 0), some (yI a), some (.ref 413), none] kn173 rfl rfl ?_
  have hF : Fr wCl m m := Fr.rf
  refine y_aload 1 c173_0 rfl rfl rfl ?_
  refine y_iconst 2 c173_1 rfl ?_
  refine y_aload 3 c173_2 rfl rfl rfl ?_
  refine y_iload 4 c173_3 rfl rfl ?_
  refine y_inlB 7 [.ref 0, yI a] [yI 0, .ref 413] [some (.ref 0), some (yI a)] c173_4 rfl rfl rfl rfl rfl (ycanO km172 ko0) kn172 rfl rfl ?_
  refine y_aload 1 c172_0 rfl rfl rfl ?_
  refine y_iload 2 c172_1 rfl rfl ?_
  refine y_inlB 5 [.ref 0, yI a] [] [some (.ref 0), some (yI a)] c172_2 rfl rfl rfl rfl rfl (ycanO km167 ko0) kn167 rfl rfl ?_
  refine y_iload 1 c167_0 rfl rfl ?_
  refine y_aload 2 c167_1 rfl rfl rfl ?_
  refine y_getS 5 (B := 256) c167_2 rfl kf0_4 (by first | rfl | (rw [show m 0 4 = 0 from by have e : m 0 4 = m 0 4 := rfl; omega]; rfl)) ?_
  refine y_getX 8 (m 256 10) c167_5 rfl kf256_10 rfl ?_
  refine y_inlB 11 [yI a, yI (m 256 10)] [] [some (yI a), some (yI (m 256 10))] c167_8 rfl rfl rfl rfl rfl (ycanS km155) kn155 rfl rfl ?_
  refine y_iload 1 c155_0 rfl rfl ?_
  refine y_if 13 4 c155_1 rfl rfl (yz_lt (by omega)) (fun hb5407 => ?_) (fun hb5407 => ?_)
  · refine y_iconst 14 c155_13 rfl ?_
    refine y_ireturnK c155_14 (y_fit1 (by omega)) ?_
    refine y_ireturnK c167_11 (y_fit1 (by omega)) ?_
    refine y_if 16 8 c172_5 rfl rfl (yz_ne (by omega)) (fun hb5408 => ?_) (fun hb5408 => ?_)
    · exfalso; omega
    · refine y_throwB c172_8 rfl ?_
      refine yK_in kh173_4_11 ?_
      refine y_astore 13 c173_12 rfl rfl rfl ?_
      refine y_iconst 14 c173_13 rfl ?_
      exact y_ireturn c173_14 (y_fit0 _) ⟨_, rfl, by omega, Or.inr rfl, hF, Or.inl hC0⟩
  · refine y_iload 5 c155_4 rfl rfl ?_
    refine y_iload 6 c155_5 rfl rfl ?_
    refine y_icmp 13 9 c155_6 rfl rfl (yc_ge (by omega) (by omega)) (fun hb5409 => ?_) (fun hb5409 => ?_)
    · refine y_iconst 14 c155_13 rfl ?_
      refine y_ireturnK c155_14 (y_fit1 (by omega)) ?_
      refine y_ireturnK c167_11 (y_fit1 (by omega)) ?_
      refine y_if 16 8 c172_5 rfl rfl (yz_ne (by omega)) (fun hb5410 => ?_) (fun hb5410 => ?_)
      · exfalso; omega
      · refine y_throwB c172_8 rfl ?_
        refine yK_in kh173_4_11 ?_
        refine y_astore 13 c173_12 rfl rfl rfl ?_
        refine y_iconst 14 c173_13 rfl ?_
        exact y_ireturn c173_14 (y_fit0 _) ⟨_, rfl, by omega, Or.inr rfl, hF, Or.inl hC0⟩
    · refine y_iconst 10 c155_9 rfl ?_
      refine y_goto 14 c155_10 rfl ?_
      refine y_ireturnK c155_14 (y_fit1 (by omega)) ?_
      refine y_ireturnK c167_11 (y_fit1 (by omega)) ?_
      refine y_if 16 8 c172_5 rfl rfl (yz_ne (by omega)) (fun hb5411 => ?_) (fun hb5411 => ?_)
      · refine y_aload 17 c172_16 rfl rfl rfl ?_
        refine y_getR 20 c172_17 rfl kf0_2 ?_
        refine y_getR 23 c172_20 rfl kf8_2 ?_
        refine y_iload 24 c172_23 rfl rfl ?_
        refine y_iaT 25 ((-2147483648)) 2147483647 c172_24 rfl ka71 (by omega) hT rfl (fun v5412 hv5412 gv5412 => ?_)
        refine y_ireturnK c172_25 (y_fit0 _) ?_
        refine y_i2l 8 c173_7 rfl ?_
        refine y_lastoreN 9 v5412 c173_8 rfl kl413 (by decide) (by rw [Int32.toInt_toInt64, y_rng (by omega)]) ?_
        have hT5413 := hT.up 413 ((0 : Int).toNat) v5412 ((-2147483648)) 2147483647 rfl (by omega)
        have hF5414 := hF.up 413 ((0 : Int).toNat) v5412 rfl
        refine y_goto 15 c173_9 rfl ?_
        refine y_iconst 16 c173_15 rfl ?_
        exact y_ireturn c173_16 (y_fit0 _) ⟨_, rfl, by omega, Or.inl rfl, hF5414, Or.inl (CI.fr hC0 (by omega) (by omega) (by omega) hT5413 (fun a q ha => (yup_na (by omega))))⟩
      · exfalso; omega
set_option maxRecDepth 100000 in
theorem t177_256 {L : Nat} {xs : Nat → Int32} {d nn : Nat} {m : yM} {a : Int} (ra : -2147483648 ≤ a ∧ a < 2147483648) (hC : CI 256 326 0 m) : YC (gZ L xs) (d + 3) 177 [.ref 0, yI a, .ref 413] m nn (qW nn m) := by
  have hC0 := hC
  obtain ⟨hT, h04, h05, hS, hM2, h84⟩ := hC
  have hM : MP 266 m := hS.2.2.2.1
  have tb9 := hT.atp 256 9 0 6 rfl
  have tb10 := hT.atp 256 10 0 10 rfl
  have tb11 := hT.atp 256 11 0 8 rfl
  have tb12 := hT.atp 256 12 0 12 rfl
  have tb13 := hT.atp 256 13 0 8 rfl
  have tb14 := hT.atp 256 14 0 12 rfl
  have tb15 := hT.atp 256 15 0 48 rfl
  have tb16 := hT.atp 256 16 0 40 rfl
  refine YC.mkB [some (.ref 0), some (yI a), some (.ref 413), none] kn177 rfl rfl ?_
  have hF : Fr wCl m m := Fr.rf
  refine y_aload 1 c177_0 rfl rfl rfl ?_
  refine y_iconst 2 c177_1 rfl ?_
  refine y_aload 3 c177_2 rfl rfl rfl ?_
  refine y_iload 4 c177_3 rfl rfl ?_
  refine y_inlB 7 [.ref 0, yI a] [yI 0, .ref 413] [some (.ref 0), some (yI a)] c177_4 rfl rfl rfl rfl rfl (ycanO km176 ko0) kn176 rfl rfl ?_
  refine y_iload 1 c176_0 rfl rfl ?_
  refine y_aload 2 c176_1 rfl rfl rfl ?_
  refine y_getS 5 (B := 256) c176_2 rfl kf0_4 (by first | rfl | (rw [show m 0 4 = 0 from by have e : m 0 4 = m 0 4 := rfl; omega]; rfl)) ?_
  refine y_getX 8 (m 256 13) c176_5 rfl kf256_13 rfl ?_
  refine y_inlB 11 [yI a, yI (m 256 13)] [] [some (yI a), some (yI (m 256 13))] c176_8 rfl rfl rfl rfl rfl (ycanS km155) kn155 rfl rfl ?_
  refine y_iload 1 c155_0 rfl rfl ?_
  refine y_if 13 4 c155_1 rfl rfl (yz_lt (by omega)) (fun hb5415 => ?_) (fun hb5415 => ?_)
  · refine y_iconst 14 c155_13 rfl ?_
    refine y_ireturnK c155_14 (y_fit1 (by omega)) ?_
    refine y_if 22 14 c176_11 rfl rfl (yz_ne (by omega)) (fun hb5416 => ?_) (fun hb5416 => ?_)
    · exfalso; omega
    · refine y_throwB c176_14 rfl ?_
      refine yK_in kh177_4_11 ?_
      refine y_astore 13 c177_12 rfl rfl rfl ?_
      refine y_iconst 14 c177_13 rfl ?_
      exact y_ireturn c177_14 (y_fit0 _) ⟨_, rfl, by omega, Or.inr rfl, hF, Or.inl hC0⟩
  · refine y_iload 5 c155_4 rfl rfl ?_
    refine y_iload 6 c155_5 rfl rfl ?_
    refine y_icmp 13 9 c155_6 rfl rfl (yc_ge (by omega) (by omega)) (fun hb5417 => ?_) (fun hb5417 => ?_)
    · refine y_iconst 14 c155_13 rfl ?_
      refine y_ireturnK c155_14 (y_fit1 (by omega)) ?_
      refine y_if 22 14 c176_11 rfl rfl (yz_ne (by omega)) (fun hb5418 => ?_) (fun hb5418 => ?_)
      · exfalso; omega
      · refine y_throwB c176_14 rfl ?_
        refine yK_in kh177_4_11 ?_
        refine y_astore 13 c177_12 rfl rfl rfl ?_
        refine y_iconst 14 c177_13 rfl ?_
        exact y_ireturn c177_14 (y_fit0 _) ⟨_, rfl, by omega, Or.inr rfl, hF, Or.inl hC0⟩
    · refine y_iconst 10 c155_9 rfl ?_
      refine y_goto 14 c155_10 rfl ?_
      refine y_ireturnK c155_14 (y_fit1 (by omega)) ?_
      refine y_if 22 14 c176_11 rfl rfl (yz_ne (by omega)) (fun hb5419 => ?_) (fun hb5419 => ?_)
      · refine y_aload 23 c176_22 rfl rfl rfl ?_
        refine y_getR 26 c176_23 rfl kf0_2 ?_
        refine y_aload 27 c176_26 rfl rfl rfl ?_
        refine y_getS 30 (B := 256) c176_27 rfl kf0_4 (by first | rfl | (rw [show m 0 4 = 0 from by have e : m 0 4 = m 0 4 := rfl; omega]; rfl)) ?_
        refine y_getR 33 c176_30 rfl kf256_6 ?_
        refine y_aload 34 c176_33 rfl rfl rfl ?_
        refine y_getS 37 (B := 256) c176_34 rfl kf0_4 (by first | rfl | (rw [show m 0 4 = 0 from by have e : m 0 4 = m 0 4 := rfl; omega]; rfl)) ?_
        refine y_getR 40 c176_37 rfl kf256_8 ?_
        refine y_iload 41 c176_40 rfl rfl ?_
        refine y_iaT 42 0 39 c176_41 rfl ka265 (by omega) hT rfl (fun v5420 hv5420 gv5420 => ?_)
        refine y_aaload 43 c176_42 rfl kr263 (by omega) ?_
        obtain ⟨jc, e1, e2, e3, e4⟩ : ∃ j : Nat, m 265 a.toNat = j ∧ (0 : Int) ≤ j ∧ (j : Int) < m 256 16 ∧ m (276 + j) 0 = 7 := hS.1.2.2 a.toNat (by omega) (by omega)
        have hsv : 0 ≤ m (276 + jc) 2 ∧ 0 ≤ m (276 + jc) 3 := (hS.1.1 jc (by omega) (by omega)).1.2.1 (Or.inr (Or.inr (Or.inl e4)))
        have ejc : jc = v5420.toNat := by omega
        subst ejc
        have h3c : 0 ≤ m (276 + v5420.toNat) 3 := hsv.2
        refine y_callP 46 [.ref 8, .ref (276 + v5420.toNat)] [] c176_43 rfl rfl rfl rfl rfl (ycanO km175 ko8) (t175_256 hT (by omega) (by omega) h3c) (fun r5421 hr5421 => ?_)
        refine y_if 53 49 c176_46 rfl rfl (yz_eq (by omega)) (fun hb5422 => ?_) (fun hb5422 => ?_)
        · refine y_iconst 54 c176_53 rfl ?_
          refine y_ireturnK c176_54 (y_fit0 _) ?_
          refine y_i2l 8 c177_7 rfl ?_
          refine y_lastoreN 9 0 c177_8 rfl kl413 (by decide) (by rw [Int32.toInt_toInt64, y_rng (by omega)]) ?_
          have hT5423 := hT.up 413 ((0 : Int).toNat) 0 ((-2147483648)) 2147483647 rfl (by omega)
          have hF5424 := hF.up 413 ((0 : Int).toNat) 0 rfl
          refine y_goto 15 c177_9 rfl ?_
          refine y_iconst 16 c177_15 rfl ?_
          exact y_ireturn c177_16 (y_fit0 _) ⟨_, rfl, by omega, Or.inl rfl, hF5424, Or.inl (CI.fr hC0 (by omega) (by omega) (by omega) hT5423 (fun a q ha => (yup_na (by omega))))⟩
        · refine y_iconst 50 c176_49 rfl ?_
          refine y_goto 54 c176_50 rfl ?_
          refine y_ireturnK c176_54 (y_fit0 _) ?_
          refine y_i2l 8 c177_7 rfl ?_
          refine y_lastoreN 9 1 c177_8 rfl kl413 (by decide) (by rw [Int32.toInt_toInt64, y_rng (by omega)]) ?_
          have hT5425 := hT.up 413 ((0 : Int).toNat) 1 ((-2147483648)) 2147483647 rfl (by omega)
          have hF5426 := hF.up 413 ((0 : Int).toNat) 1 rfl
          refine y_goto 15 c177_9 rfl ?_
          refine y_iconst 16 c177_15 rfl ?_
          exact y_ireturn c177_16 (y_fit0 _) ⟨_, rfl, by omega, Or.inl rfl, hF5426, Or.inl (CI.fr hC0 (by omega) (by omega) (by omega) hT5425 (fun a q ha => (yup_na (by omega))))⟩
      · exfalso; omega
set_option maxRecDepth 100000 in
theorem t181_256 {L : Nat} {xs : Nat → Int32} {d nn : Nat} {m : yM} {a : Int} (ra : -2147483648 ≤ a ∧ a < 2147483648) {b : Int} (rb : -2147483648 ≤ b ∧ b < 2147483648) (hC : CI 256 326 0 m) : YC (gZ L xs) (d + 3) 181 [.ref 0, yI a, yI b, .ref 413] m nn (qW nn m) := by
  have hC0 := hC
  obtain ⟨hT, h04, h05, hS, hM2, h84⟩ := hC
  have hM : MP 266 m := hS.2.2.2.1
  have tb9 := hT.atp 256 9 0 6 rfl
  have tb10 := hT.atp 256 10 0 10 rfl
  have tb11 := hT.atp 256 11 0 8 rfl
  have tb12 := hT.atp 256 12 0 12 rfl
  have tb13 := hT.atp 256 13 0 8 rfl
  have tb14 := hT.atp 256 14 0 12 rfl
  have tb15 := hT.atp 256 15 0 48 rfl
  have tb16 := hT.atp 256 16 0 40 rfl
  refine YC.mkB [some (.ref 0), some (yI a), some (yI b), some (.ref 413), none] kn181 rfl rfl ?_
  have hF : Fr wCl m m := Fr.rf
  refine y_aload 1 c181_0 rfl rfl rfl ?_
  refine y_iconst 2 c181_1 rfl ?_
  refine y_aload 3 c181_2 rfl rfl rfl ?_
  refine y_iload 4 c181_3 rfl rfl ?_
  refine y_iload 5 c181_4 rfl rfl ?_
  refine y_inlB 8 [.ref 0, yI a, yI b] [yI 0, .ref 413] [some (.ref 0), some (yI a), some (yI b)] c181_5 rfl rfl rfl rfl rfl (ycanO km180 ko0) kn180 rfl rfl ?_
  refine y_aload 1 c180_0 rfl rfl rfl ?_
  refine y_iload 2 c180_1 rfl rfl ?_
  refine y_inlB 5 [.ref 0, yI a] [] [some (.ref 0), some (yI a)] c180_2 rfl rfl rfl rfl rfl (ycanO km156 ko0) kn156 rfl rfl ?_
  refine y_iload 1 c156_0 rfl rfl ?_
  refine y_aload 2 c156_1 rfl rfl rfl ?_
  refine y_getS 5 (B := 256) c156_2 rfl kf0_4 (by first | rfl | (rw [show m 0 4 = 0 from by have e : m 0 4 = m 0 4 := rfl; omega]; rfl)) ?_
  refine y_getX 8 (m 256 15) c156_5 rfl kf256_15 rfl ?_
  refine y_inlB 11 [yI a, yI (m 256 15)] [] [some (yI a), some (yI (m 256 15))] c156_8 rfl rfl rfl rfl rfl (ycanS km155) kn155 rfl rfl ?_
  refine y_iload 1 c155_0 rfl rfl ?_
  refine y_if 13 4 c155_1 rfl rfl (yz_lt (by omega)) (fun hb5427 => ?_) (fun hb5427 => ?_)
  · refine y_iconst 14 c155_13 rfl ?_
    refine y_ireturnK c155_14 (y_fit1 (by omega)) ?_
    refine y_ireturnK c156_11 (y_fit1 (by omega)) ?_
    refine y_if 16 8 c180_5 rfl rfl (yz_eq (by omega)) (fun hb5428 => ?_) (fun hb5428 => ?_)
    · refine y_throwB c180_16 rfl ?_
      refine yK_in kh181_5_11 ?_
      refine y_astore 15 c181_13 rfl rfl rfl ?_
      refine y_iconst 16 c181_15 rfl ?_
      exact y_ireturn c181_16 (y_fit0 _) ⟨_, rfl, by omega, Or.inr rfl, hF, Or.inl hC0⟩
    · exfalso; omega
  · refine y_iload 5 c155_4 rfl rfl ?_
    refine y_iload 6 c155_5 rfl rfl ?_
    refine y_icmp 13 9 c155_6 rfl rfl (yc_ge (by omega) (by omega)) (fun hb5429 => ?_) (fun hb5429 => ?_)
    · refine y_iconst 14 c155_13 rfl ?_
      refine y_ireturnK c155_14 (y_fit1 (by omega)) ?_
      refine y_ireturnK c156_11 (y_fit1 (by omega)) ?_
      refine y_if 16 8 c180_5 rfl rfl (yz_eq (by omega)) (fun hb5430 => ?_) (fun hb5430 => ?_)
      · refine y_throwB c180_16 rfl ?_
        refine yK_in kh181_5_11 ?_
        refine y_astore 15 c181_13 rfl rfl rfl ?_
        refine y_iconst 16 c181_15 rfl ?_
        exact y_ireturn c181_16 (y_fit0 _) ⟨_, rfl, by omega, Or.inr rfl, hF, Or.inl hC0⟩
      · exfalso; omega
    · refine y_iconst 10 c155_9 rfl ?_
      refine y_goto 14 c155_10 rfl ?_
      refine y_ireturnK c155_14 (y_fit1 (by omega)) ?_
      refine y_ireturnK c156_11 (y_fit1 (by omega)) ?_
      refine y_if 16 8 c180_5 rfl rfl (yz_eq (by omega)) (fun hb5431 => ?_) (fun hb5431 => ?_)
      · exfalso; omega
      · refine y_aload 9 c180_8 rfl rfl rfl ?_
        refine y_iload 10 c180_9 rfl rfl ?_
        refine y_inlB 13 [.ref 0, yI b] [] [some (.ref 0), some (yI b)] c180_10 rfl rfl rfl rfl rfl (ycanO km156 ko0) kn156 rfl rfl ?_
        refine y_iload 1 c156_0 rfl rfl ?_
        refine y_aload 2 c156_1 rfl rfl rfl ?_
        refine y_getS 5 (B := 256) c156_2 rfl kf0_4 (by first | rfl | (rw [show m 0 4 = 0 from by have e : m 0 4 = m 0 4 := rfl; omega]; rfl)) ?_
        refine y_getX 8 (m 256 15) c156_5 rfl kf256_15 rfl ?_
        refine y_inlB 11 [yI b, yI (m 256 15)] [] [some (yI b), some (yI (m 256 15))] c156_8 rfl rfl rfl rfl rfl (ycanS km155) kn155 rfl rfl ?_
        refine y_iload 1 c155_0 rfl rfl ?_
        refine y_if 13 4 c155_1 rfl rfl (yz_lt (by omega)) (fun hb5432 => ?_) (fun hb5432 => ?_)
        · refine y_iconst 14 c155_13 rfl ?_
          refine y_ireturnK c155_14 (y_fit1 (by omega)) ?_
          refine y_ireturnK c156_11 (y_fit1 (by omega)) ?_
          refine y_if 24 16 c180_13 rfl rfl (yz_ne (by omega)) (fun hb5433 => ?_) (fun hb5433 => ?_)
          · exfalso; omega
          · refine y_throwB c180_16 rfl ?_
            refine yK_in kh181_5_11 ?_
            refine y_astore 15 c181_13 rfl rfl rfl ?_
            refine y_iconst 16 c181_15 rfl ?_
            exact y_ireturn c181_16 (y_fit0 _) ⟨_, rfl, by omega, Or.inr rfl, hF, Or.inl hC0⟩
        · refine y_iload 5 c155_4 rfl rfl ?_
          refine y_iload 6 c155_5 rfl rfl ?_
          refine y_icmp 13 9 c155_6 rfl rfl (yc_ge (by omega) (by omega)) (fun hb5434 => ?_) (fun hb5434 => ?_)
          · refine y_iconst 14 c155_13 rfl ?_
            refine y_ireturnK c155_14 (y_fit1 (by omega)) ?_
            refine y_ireturnK c156_11 (y_fit1 (by omega)) ?_
            refine y_if 24 16 c180_13 rfl rfl (yz_ne (by omega)) (fun hb5435 => ?_) (fun hb5435 => ?_)
            · exfalso; omega
            · refine y_throwB c180_16 rfl ?_
              refine yK_in kh181_5_11 ?_
              refine y_astore 15 c181_13 rfl rfl rfl ?_
              refine y_iconst 16 c181_15 rfl ?_
              exact y_ireturn c181_16 (y_fit0 _) ⟨_, rfl, by omega, Or.inr rfl, hF, Or.inl hC0⟩
          · refine y_iconst 10 c155_9 rfl ?_
            refine y_goto 14 c155_10 rfl ?_
            refine y_ireturnK c155_14 (y_fit1 (by omega)) ?_
            refine y_ireturnK c156_11 (y_fit1 (by omega)) ?_
            refine y_if 24 16 c180_13 rfl rfl (yz_ne (by omega)) (fun hb5436 => ?_) (fun hb5436 => ?_)
            · refine y_aload 25 c180_24 rfl rfl rfl ?_
              refine y_getR 28 c180_25 rfl kf0_2 ?_
              refine y_iload 29 c180_28 rfl rfl ?_
              refine y_iload 30 c180_29 rfl rfl ?_
              refine y_callP 33 [.ref 8, yI a, yI b] [] c180_30 rfl rfl rfl rfl rfl (ycanO km179 ko8) (t179_256 hT (by omega) (by omega) (by omega)) (fun r5437 hr5437 => ?_)
              refine y_if 40 36 c180_33 rfl rfl (yz_eq (by omega)) (fun hb5438 => ?_) (fun hb5438 => ?_)
              · refine y_iconst 41 c180_40 rfl ?_
                refine y_ireturnK c180_41 (y_fit0 _) ?_
                refine y_i2l 9 c181_8 rfl ?_
                refine y_lastoreN 10 0 c181_9 rfl kl413 (by decide) (by rw [Int32.toInt_toInt64, y_rng (by omega)]) ?_
                have hT5439 := hT.up 413 ((0 : Int).toNat) 0 ((-2147483648)) 2147483647 rfl (by omega)
                have hF5440 := hF.up 413 ((0 : Int).toNat) 0 rfl
                refine y_goto 17 c181_10 rfl ?_
                refine y_iconst 18 c181_17 rfl ?_
                exact y_ireturn c181_18 (y_fit0 _) ⟨_, rfl, by omega, Or.inl rfl, hF5440, Or.inl (CI.fr hC0 (by omega) (by omega) (by omega) hT5439 (fun a q ha => (yup_na (by omega))))⟩
              · refine y_iconst 37 c180_36 rfl ?_
                refine y_goto 41 c180_37 rfl ?_
                refine y_ireturnK c180_41 (y_fit0 _) ?_
                refine y_i2l 9 c181_8 rfl ?_
                refine y_lastoreN 10 1 c181_9 rfl kl413 (by decide) (by rw [Int32.toInt_toInt64, y_rng (by omega)]) ?_
                have hT5441 := hT.up 413 ((0 : Int).toNat) 1 ((-2147483648)) 2147483647 rfl (by omega)
                have hF5442 := hF.up 413 ((0 : Int).toNat) 1 rfl
                refine y_goto 17 c181_10 rfl ?_
                refine y_iconst 18 c181_17 rfl ?_
                exact y_ireturn c181_18 (y_fit0 _) ⟨_, rfl, by omega, Or.inl rfl, hF5442, Or.inl (CI.fr hC0 (by omega) (by omega) (by omega) hT5441 (fun a q ha => (yup_na (by omega))))⟩
            · exfalso; omega
set_option maxRecDepth 100000 in
theorem t184_256 {L : Nat} {xs : Nat → Int32} {d nn : Nat} {m : yM} {a : Int} (ra : -2147483648 ≤ a ∧ a < 2147483648) {b : Int} (rb : -2147483648 ≤ b ∧ b < 2147483648) (hC : CI 256 326 0 m) : YC (gZ L xs) (d + 3) 184 [.ref 0, yI a, yI b, .ref 413] m nn (qW nn m) := by
  have hC0 := hC
  obtain ⟨hT, h04, h05, hS, hM2, h84⟩ := hC
  have hM : MP 266 m := hS.2.2.2.1
  have tb9 := hT.atp 256 9 0 6 rfl
  have tb10 := hT.atp 256 10 0 10 rfl
  have tb11 := hT.atp 256 11 0 8 rfl
  have tb12 := hT.atp 256 12 0 12 rfl
  have tb13 := hT.atp 256 13 0 8 rfl
  have tb14 := hT.atp 256 14 0 12 rfl
  have tb15 := hT.atp 256 15 0 48 rfl
  have tb16 := hT.atp 256 16 0 40 rfl
  refine YC.mkB [some (.ref 0), some (yI a), some (yI b), some (.ref 413), none] kn184 rfl rfl ?_
  have hF : Fr wCl m m := Fr.rf
  refine y_aload 1 c184_0 rfl rfl rfl ?_
  refine y_iconst 2 c184_1 rfl ?_
  refine y_aload 3 c184_2 rfl rfl rfl ?_
  refine y_iload 4 c184_3 rfl rfl ?_
  refine y_iload 5 c184_4 rfl rfl ?_
  refine y_inlB 8 [.ref 0, yI a, yI b] [yI 0, .ref 413] [some (.ref 0), some (yI a), some (yI b), none] c184_5 rfl rfl rfl rfl rfl (ycanO km183 ko0) kn183 rfl rfl ?_
  refine y_aload 1 c183_0 rfl rfl rfl ?_
  refine y_iload 2 c183_1 rfl rfl ?_
  refine y_inlB 5 [.ref 0, yI a] [] [some (.ref 0), some (yI a)] c183_2 rfl rfl rfl rfl rfl (ycanO km167 ko0) kn167 rfl rfl ?_
  refine y_iload 1 c167_0 rfl rfl ?_
  refine y_aload 2 c167_1 rfl rfl rfl ?_
  refine y_getS 5 (B := 256) c167_2 rfl kf0_4 (by first | rfl | (rw [show m 0 4 = 0 from by have e : m 0 4 = m 0 4 := rfl; omega]; rfl)) ?_
  refine y_getX 8 (m 256 10) c167_5 rfl kf256_10 rfl ?_
  refine y_inlB 11 [yI a, yI (m 256 10)] [] [some (yI a), some (yI (m 256 10))] c167_8 rfl rfl rfl rfl rfl (ycanS km155) kn155 rfl rfl ?_
  refine y_iload 1 c155_0 rfl rfl ?_
  refine y_if 13 4 c155_1 rfl rfl (yz_lt (by omega)) (fun hb5443 => ?_) (fun hb5443 => ?_)
  · refine y_iconst 14 c155_13 rfl ?_
    refine y_ireturnK c155_14 (y_fit1 (by omega)) ?_
    refine y_ireturnK c167_11 (y_fit1 (by omega)) ?_
    refine y_if 16 8 c183_5 rfl rfl (yz_ne (by omega)) (fun hb5444 => ?_) (fun hb5444 => ?_)
    · exfalso; omega
    · refine y_throwB c183_8 rfl ?_
      refine yK_in kh184_5_11 ?_
      refine y_astore 15 c184_13 rfl rfl rfl ?_
      refine y_iconst 16 c184_15 rfl ?_
      exact y_ireturn c184_16 (y_fit0 _) ⟨_, rfl, by omega, Or.inr rfl, hF, Or.inl hC0⟩
  · refine y_iload 5 c155_4 rfl rfl ?_
    refine y_iload 6 c155_5 rfl rfl ?_
    refine y_icmp 13 9 c155_6 rfl rfl (yc_ge (by omega) (by omega)) (fun hb5445 => ?_) (fun hb5445 => ?_)
    · refine y_iconst 14 c155_13 rfl ?_
      refine y_ireturnK c155_14 (y_fit1 (by omega)) ?_
      refine y_ireturnK c167_11 (y_fit1 (by omega)) ?_
      refine y_if 16 8 c183_5 rfl rfl (yz_ne (by omega)) (fun hb5446 => ?_) (fun hb5446 => ?_)
      · exfalso; omega
      · refine y_throwB c183_8 rfl ?_
        refine yK_in kh184_5_11 ?_
        refine y_astore 15 c184_13 rfl rfl rfl ?_
        refine y_iconst 16 c184_15 rfl ?_
        exact y_ireturn c184_16 (y_fit0 _) ⟨_, rfl, by omega, Or.inr rfl, hF, Or.inl hC0⟩
    · refine y_iconst 10 c155_9 rfl ?_
      refine y_goto 14 c155_10 rfl ?_
      refine y_ireturnK c155_14 (y_fit1 (by omega)) ?_
      refine y_ireturnK c167_11 (y_fit1 (by omega)) ?_
      refine y_if 16 8 c183_5 rfl rfl (yz_ne (by omega)) (fun hb5447 => ?_) (fun hb5447 => ?_)
      · refine y_aload 17 c183_16 rfl rfl rfl ?_
        refine y_getS 20 (B := 256) c183_17 rfl kf0_4 (by first | rfl | (rw [show m 0 4 = 0 from by have e : m 0 4 = m 0 4 := rfl; omega]; rfl)) ?_
        refine y_getR 23 c183_20 rfl kf256_5 ?_
        refine y_iload 24 c183_23 rfl rfl ?_
        refine y_aaload 25 c183_24 rfl kr262 (by omega) ?_
        refine y_astore 26 c183_25 rfl rfl rfl ?_
        refine y_iload 27 c183_26 rfl rfl ?_
        by_cases hk5448 : b = 0
        · refine y_top 0 hk5448 ?_
          refine y_tsw 60 c183_27 (by decide) (by decide) rfl rfl ?_
          refine y_aload 61 c183_60 rfl rfl rfl ?_
          refine y_getX 64 (m (266 + a.toNat) 2) c183_61 rfl (ff266_2 (by omega)) rfl ?_
          have tb5449 := hT.atp (266 + a.toNat) 2 0 46 (ft266_2 (by omega))
          refine y_ireturnK c183_64 (y_fit0 _) ?_
          refine y_i2l 9 c184_8 rfl ?_
          refine y_lastoreN 10 (m (266 + a.toNat) 2) c184_9 rfl kl413 (by decide) (by rw [Int32.toInt_toInt64, y_rng (by omega)]) ?_
          have hT5450 := hT.up 413 ((0 : Int).toNat) (m (266 + a.toNat) 2) ((-2147483648)) 2147483647 rfl (by omega)
          have hF5451 := hF.up 413 ((0 : Int).toNat) (m (266 + a.toNat) 2) rfl
          refine y_goto 21 c184_10 rfl ?_
          refine y_iconst 22 c184_21 rfl ?_
          exact y_ireturn c184_22 (y_fit0 _) ⟨_, rfl, by omega, Or.inl rfl, hF5451, Or.inl (CI.fr hC0 (by omega) (by omega) (by omega) hT5450 (fun a q ha => (yup_na (by omega))))⟩
        by_cases hk5452 : b = 1
        · refine y_top 1 hk5452 ?_
          refine y_tsw 65 c183_27 (by decide) (by decide) rfl rfl ?_
          refine y_aload 66 c183_65 rfl rfl rfl ?_
          refine y_callP 69 [.ref (266 + a.toNat)] [] c183_66 rfl rfl rfl rfl rfl (ycanO km57 (fo266 (by omega))) (t57_256 hT (by omega)) (fun r5453 hr5453 => ?_)
          refine y_ireturnK c183_69 (y_fit0 _) ?_
          refine y_i2l 9 c184_8 rfl ?_
          refine y_lastoreN 10 r5453 c184_9 rfl kl413 (by decide) (by rw [Int32.toInt_toInt64, y_rng (by omega)]) ?_
          have hT5454 := hT.up 413 ((0 : Int).toNat) r5453 ((-2147483648)) 2147483647 rfl (by omega)
          have hF5455 := hF.up 413 ((0 : Int).toNat) r5453 rfl
          refine y_goto 21 c184_10 rfl ?_
          refine y_iconst 22 c184_21 rfl ?_
          exact y_ireturn c184_22 (y_fit0 _) ⟨_, rfl, by omega, Or.inl rfl, hF5455, Or.inl (CI.fr hC0 (by omega) (by omega) (by omega) hT5454 (fun a q ha => (yup_na (by omega))))⟩
        by_cases hk5456 : b = 2
        · refine y_top 2 hk5456 ?_
          refine y_tsw 70 c183_27 (by decide) (by decide) rfl rfl ?_
          refine y_aload 71 c183_70 rfl rfl rfl ?_
          refine y_iconst 72 c183_71 rfl ?_
          refine y_callP 75 [.ref (266 + a.toNat), yI 0] [] c183_72 rfl rfl rfl rfl rfl (ycanO km87 (fo266 (by omega))) (t87_256 hT (by omega) (by omega) hM) (fun r5457 hr5457 => ?_)
          refine y_ireturnK c183_75 (y_fit0 _) ?_
          refine y_i2l 9 c184_8 rfl ?_
          refine y_lastoreN 10 r5457 c184_9 rfl kl413 (by decide) (by rw [Int32.toInt_toInt64, y_rng (by omega)]) ?_
          have hT5458 := hT.up 413 ((0 : Int).toNat) r5457 ((-2147483648)) 2147483647 rfl (by omega)
          have hF5459 := hF.up 413 ((0 : Int).toNat) r5457 rfl
          refine y_goto 21 c184_10 rfl ?_
          refine y_iconst 22 c184_21 rfl ?_
          exact y_ireturn c184_22 (y_fit0 _) ⟨_, rfl, by omega, Or.inl rfl, hF5459, Or.inl (CI.fr hC0 (by omega) (by omega) (by omega) hT5458 (fun a q ha => (yup_na (by omega))))⟩
        by_cases hk5460 : b = 3
        · refine y_top 3 hk5460 ?_
          refine y_tsw 76 c183_27 (by decide) (by decide) rfl rfl ?_
          refine y_aload 77 c183_76 rfl rfl rfl ?_
          refine y_iconst 78 c183_77 rfl ?_
          refine y_callP 81 [.ref (266 + a.toNat), yI 1] [] c183_78 rfl rfl rfl rfl rfl (ycanO km87 (fo266 (by omega))) (t87_256 hT (by omega) (by omega) hM) (fun r5461 hr5461 => ?_)
          refine y_ireturnK c183_81 (y_fit0 _) ?_
          refine y_i2l 9 c184_8 rfl ?_
          refine y_lastoreN 10 r5461 c184_9 rfl kl413 (by decide) (by rw [Int32.toInt_toInt64, y_rng (by omega)]) ?_
          have hT5462 := hT.up 413 ((0 : Int).toNat) r5461 ((-2147483648)) 2147483647 rfl (by omega)
          have hF5463 := hF.up 413 ((0 : Int).toNat) r5461 rfl
          refine y_goto 21 c184_10 rfl ?_
          refine y_iconst 22 c184_21 rfl ?_
          exact y_ireturn c184_22 (y_fit0 _) ⟨_, rfl, by omega, Or.inl rfl, hF5463, Or.inl (CI.fr hC0 (by omega) (by omega) (by omega) hT5462 (fun a q ha => (yup_na (by omega))))⟩
        by_cases hk5464 : b = 4
        · refine y_top 4 hk5464 ?_
          refine y_tsw 82 c183_27 (by decide) (by decide) rfl rfl ?_
          refine y_aload 83 c183_82 rfl rfl rfl ?_
          refine y_getX 86 (m (266 + a.toNat) 1) c183_83 rfl (ff266_1 (by omega)) rfl ?_
          have tb5465 := hT.atp (266 + a.toNat) 1 0 5 (ft266_1 (by omega))
          refine y_ireturnK c183_86 (y_fit0 _) ?_
          refine y_i2l 9 c184_8 rfl ?_
          refine y_lastoreN 10 (m (266 + a.toNat) 1) c184_9 rfl kl413 (by decide) (by rw [Int32.toInt_toInt64, y_rng (by omega)]) ?_
          have hT5466 := hT.up 413 ((0 : Int).toNat) (m (266 + a.toNat) 1) ((-2147483648)) 2147483647 rfl (by omega)
          have hF5467 := hF.up 413 ((0 : Int).toNat) (m (266 + a.toNat) 1) rfl
          refine y_goto 21 c184_10 rfl ?_
          refine y_iconst 22 c184_21 rfl ?_
          exact y_ireturn c184_22 (y_fit0 _) ⟨_, rfl, by omega, Or.inl rfl, hF5467, Or.inl (CI.fr hC0 (by omega) (by omega) (by omega) hT5466 (fun a q ha => (yup_na (by omega))))⟩
        refine y_tswd 87 c183_27 (by omega) (by omega) rfl ?_
        refine y_throwB c183_87 rfl ?_
        refine yK_in kh184_5_9 ?_
        refine y_astore 19 c184_17 rfl rfl rfl ?_
        refine y_iconst 20 c184_19 rfl ?_
        exact y_ireturn c184_20 (y_fit0 _) ⟨_, rfl, by omega, Or.inr rfl, hF, Or.inl hC0⟩
      · exfalso; omega
set_option maxRecDepth 100000 in
theorem t213_256 {L : Nat} {xs : Nat → Int32} {d nn : Nat} {m : yM} {a : Int} (ra : -2147483648 ≤ a ∧ a < 2147483648) {b : Int} (rb : -2147483648 ≤ b ∧ b < 2147483648) (hC : CI 256 326 0 m) : YC (gZ L xs) (d + 3) 213 [.ref 0, yI a, yI b, .ref 413] m nn (qW nn m) := by
  have hC0 := hC
  obtain ⟨hT, h04, h05, hS, hM2, h84⟩ := hC
  have hM : MP 266 m := hS.2.2.2.1
  have tb9 := hT.atp 256 9 0 6 rfl
  have tb10 := hT.atp 256 10 0 10 rfl
  have tb11 := hT.atp 256 11 0 8 rfl
  have tb12 := hT.atp 256 12 0 12 rfl
  have tb13 := hT.atp 256 13 0 8 rfl
  have tb14 := hT.atp 256 14 0 12 rfl
  have tb15 := hT.atp 256 15 0 48 rfl
  have tb16 := hT.atp 256 16 0 40 rfl
  refine YC.mkB [some (.ref 0), some (yI a), some (yI b), some (.ref 413), none] kn213 rfl rfl ?_
  have hF : Fr wCl m m := Fr.rf
  refine y_aload 1 c213_0 rfl rfl rfl ?_
  refine y_iconst 2 c213_1 rfl ?_
  refine y_aload 3 c213_2 rfl rfl rfl ?_
  refine y_iload 4 c213_3 rfl rfl ?_
  refine y_iload 5 c213_4 rfl rfl ?_
  refine y_inlB 8 [.ref 0, yI a, yI b] [yI 0, .ref 413] [some (.ref 0), some (yI a), some (yI b)] c213_5 rfl rfl rfl rfl rfl (ycanO km212 ko0) kn212 rfl rfl ?_
  refine y_aload 1 c212_0 rfl rfl rfl ?_
  refine y_iload 2 c212_1 rfl rfl ?_
  refine y_inlB 5 [.ref 0, yI a] [] [some (.ref 0), some (yI a)] c212_2 rfl rfl rfl rfl rfl (ycanO km156 ko0) kn156 rfl rfl ?_
  refine y_iload 1 c156_0 rfl rfl ?_
  refine y_aload 2 c156_1 rfl rfl rfl ?_
  refine y_getS 5 (B := 256) c156_2 rfl kf0_4 (by first | rfl | (rw [show m 0 4 = 0 from by have e : m 0 4 = m 0 4 := rfl; omega]; rfl)) ?_
  refine y_getX 8 (m 256 15) c156_5 rfl kf256_15 rfl ?_
  refine y_inlB 11 [yI a, yI (m 256 15)] [] [some (yI a), some (yI (m 256 15))] c156_8 rfl rfl rfl rfl rfl (ycanS km155) kn155 rfl rfl ?_
  refine y_iload 1 c155_0 rfl rfl ?_
  refine y_if 13 4 c155_1 rfl rfl (yz_lt (by omega)) (fun hb5468 => ?_) (fun hb5468 => ?_)
  · refine y_iconst 14 c155_13 rfl ?_
    refine y_ireturnK c155_14 (y_fit1 (by omega)) ?_
    refine y_ireturnK c156_11 (y_fit1 (by omega)) ?_
    refine y_if 16 8 c212_5 rfl rfl (yz_eq (by omega)) (fun hb5469 => ?_) (fun hb5469 => ?_)
    · refine y_throwB c212_16 rfl ?_
      refine yK_in kh213_5_11 ?_
      refine y_astore 15 c213_13 rfl rfl rfl ?_
      refine y_iconst 16 c213_15 rfl ?_
      exact y_ireturn c213_16 (y_fit0 _) ⟨_, rfl, by omega, Or.inr rfl, hF, Or.inl hC0⟩
    · exfalso; omega
  · refine y_iload 5 c155_4 rfl rfl ?_
    refine y_iload 6 c155_5 rfl rfl ?_
    refine y_icmp 13 9 c155_6 rfl rfl (yc_ge (by omega) (by omega)) (fun hb5470 => ?_) (fun hb5470 => ?_)
    · refine y_iconst 14 c155_13 rfl ?_
      refine y_ireturnK c155_14 (y_fit1 (by omega)) ?_
      refine y_ireturnK c156_11 (y_fit1 (by omega)) ?_
      refine y_if 16 8 c212_5 rfl rfl (yz_eq (by omega)) (fun hb5471 => ?_) (fun hb5471 => ?_)
      · refine y_throwB c212_16 rfl ?_
        refine yK_in kh213_5_11 ?_
        refine y_astore 15 c213_13 rfl rfl rfl ?_
        refine y_iconst 16 c213_15 rfl ?_
        exact y_ireturn c213_16 (y_fit0 _) ⟨_, rfl, by omega, Or.inr rfl, hF, Or.inl hC0⟩
      · exfalso; omega
    · refine y_iconst 10 c155_9 rfl ?_
      refine y_goto 14 c155_10 rfl ?_
      refine y_ireturnK c155_14 (y_fit1 (by omega)) ?_
      refine y_ireturnK c156_11 (y_fit1 (by omega)) ?_
      refine y_if 16 8 c212_5 rfl rfl (yz_eq (by omega)) (fun hb5472 => ?_) (fun hb5472 => ?_)
      · exfalso; omega
      · refine y_aload 9 c212_8 rfl rfl rfl ?_
        refine y_iload 10 c212_9 rfl rfl ?_
        refine y_inlB 13 [.ref 0, yI b] [] [some (.ref 0), some (yI b)] c212_10 rfl rfl rfl rfl rfl (ycanO km157 ko0) kn157 rfl rfl ?_
        refine y_iload 1 c157_0 rfl rfl ?_
        refine y_aload 2 c157_1 rfl rfl rfl ?_
        refine y_getS 5 (B := 256) c157_2 rfl kf0_4 (by first | rfl | (rw [show m 0 4 = 0 from by have e : m 0 4 = m 0 4 := rfl; omega]; rfl)) ?_
        refine y_getX 8 (m 256 14) c157_5 rfl kf256_14 rfl ?_
        refine y_inlB 11 [yI b, yI (m 256 14)] [] [some (yI b), some (yI (m 256 14))] c157_8 rfl rfl rfl rfl rfl (ycanS km155) kn155 rfl rfl ?_
        refine y_iload 1 c155_0 rfl rfl ?_
        refine y_if 13 4 c155_1 rfl rfl (yz_lt (by omega)) (fun hb5473 => ?_) (fun hb5473 => ?_)
        · refine y_iconst 14 c155_13 rfl ?_
          refine y_ireturnK c155_14 (y_fit1 (by omega)) ?_
          refine y_ireturnK c157_11 (y_fit1 (by omega)) ?_
          refine y_if 24 16 c212_13 rfl rfl (yz_ne (by omega)) (fun hb5474 => ?_) (fun hb5474 => ?_)
          · exfalso; omega
          · refine y_throwB c212_16 rfl ?_
            refine yK_in kh213_5_11 ?_
            refine y_astore 15 c213_13 rfl rfl rfl ?_
            refine y_iconst 16 c213_15 rfl ?_
            exact y_ireturn c213_16 (y_fit0 _) ⟨_, rfl, by omega, Or.inr rfl, hF, Or.inl hC0⟩
        · refine y_iload 5 c155_4 rfl rfl ?_
          refine y_iload 6 c155_5 rfl rfl ?_
          refine y_icmp 13 9 c155_6 rfl rfl (yc_ge (by omega) (by omega)) (fun hb5475 => ?_) (fun hb5475 => ?_)
          · refine y_iconst 14 c155_13 rfl ?_
            refine y_ireturnK c155_14 (y_fit1 (by omega)) ?_
            refine y_ireturnK c157_11 (y_fit1 (by omega)) ?_
            refine y_if 24 16 c212_13 rfl rfl (yz_ne (by omega)) (fun hb5476 => ?_) (fun hb5476 => ?_)
            · exfalso; omega
            · refine y_throwB c212_16 rfl ?_
              refine yK_in kh213_5_11 ?_
              refine y_astore 15 c213_13 rfl rfl rfl ?_
              refine y_iconst 16 c213_15 rfl ?_
              exact y_ireturn c213_16 (y_fit0 _) ⟨_, rfl, by omega, Or.inr rfl, hF, Or.inl hC0⟩
          · refine y_iconst 10 c155_9 rfl ?_
            refine y_goto 14 c155_10 rfl ?_
            refine y_ireturnK c155_14 (y_fit1 (by omega)) ?_
            refine y_ireturnK c157_11 (y_fit1 (by omega)) ?_
            refine y_if 24 16 c212_13 rfl rfl (yz_ne (by omega)) (fun hb5477 => ?_) (fun hb5477 => ?_)
            · refine y_aload 25 c212_24 rfl rfl rfl ?_
              refine y_getR 28 c212_25 rfl kf0_3 ?_
              refine y_getR 31 c212_28 rfl kf169_0 ?_
              refine y_iload 32 c212_31 rfl rfl ?_
              refine y_aaload 33 c212_32 rfl kr170 (by omega) ?_
              refine y_iload 34 c212_33 rfl rfl ?_
              refine y_iaT 35 ((-2147483648)) 2147483647 c212_34 rfl (fa171 (by omega)) (by omega) hT (fz171 (by omega)) (fun v5478 hv5478 gv5478 => ?_)
              refine y_ireturnK c212_35 (y_fit0 _) ?_
              refine y_i2l 9 c213_8 rfl ?_
              refine y_lastoreN 10 v5478 c213_9 rfl kl413 (by decide) (by rw [Int32.toInt_toInt64, y_rng (by omega)]) ?_
              have hT5479 := hT.up 413 ((0 : Int).toNat) v5478 ((-2147483648)) 2147483647 rfl (by omega)
              have hF5480 := hF.up 413 ((0 : Int).toNat) v5478 rfl
              refine y_goto 17 c213_10 rfl ?_
              refine y_iconst 18 c213_17 rfl ?_
              exact y_ireturn c213_18 (y_fit0 _) ⟨_, rfl, by omega, Or.inl rfl, hF5480, Or.inl (CI.fr hC0 (by omega) (by omega) (by omega) hT5479 (fun a q ha => (yup_na (by omega))))⟩
            · exfalso; omega
set_option maxRecDepth 100000 in
theorem t216_256 {L : Nat} {xs : Nat → Int32} {d nn : Nat} {m : yM} {a : Int} (ra : -2147483648 ≤ a ∧ a < 2147483648) (hC : CI 256 326 0 m) : YC (gZ L xs) (d + 3) 216 [.ref 0, yI a, .ref 413] m nn (qW nn m) := by
  have hC0 := hC
  obtain ⟨hT, h04, h05, hS, hM2, h84⟩ := hC
  have hM : MP 266 m := hS.2.2.2.1
  have tb9 := hT.atp 256 9 0 6 rfl
  have tb10 := hT.atp 256 10 0 10 rfl
  have tb11 := hT.atp 256 11 0 8 rfl
  have tb12 := hT.atp 256 12 0 12 rfl
  have tb13 := hT.atp 256 13 0 8 rfl
  have tb14 := hT.atp 256 14 0 12 rfl
  have tb15 := hT.atp 256 15 0 48 rfl
  have tb16 := hT.atp 256 16 0 40 rfl
  refine YC.mkB [some (.ref 0), some (yI a), some (.ref 413), none] kn216 rfl rfl ?_
  have hF : Fr wCl m m := Fr.rf
  refine y_aload 1 c216_0 rfl rfl rfl ?_
  refine y_iconst 2 c216_1 rfl ?_
  refine y_aload 3 c216_2 rfl rfl rfl ?_
  refine y_iload 4 c216_3 rfl rfl ?_
  refine y_inlB 7 [.ref 0, yI a] [yI 0, .ref 413] [some (.ref 0), some (yI a)] c216_4 rfl rfl rfl rfl rfl (ycanO km215 ko0) kn215 rfl rfl ?_
  refine y_iload 1 c215_0 rfl rfl ?_
  by_cases hk5481 : a = 0
  · refine y_top 0 hk5481 ?_
    refine y_tsw 56 c215_1 (by decide) (by decide) rfl rfl ?_
    refine y_aload 57 c215_56 rfl rfl rfl ?_
    refine y_getS 60 (B := 256) c215_57 rfl kf0_4 (by first | rfl | (rw [show m 0 4 = 0 from by have e : m 0 4 = m 0 4 := rfl; omega]; rfl)) ?_
    refine y_getX 63 (m 256 9) c215_60 rfl kf256_9 rfl ?_
    refine y_ireturnK c215_63 (y_fit0 _) ?_
    refine y_i2l 8 c216_7 rfl ?_
    refine y_lastoreN 9 (m 256 9) c216_8 rfl kl413 (by decide) (by rw [Int32.toInt_toInt64, y_rng (by omega)]) ?_
    have hT5482 := hT.up 413 ((0 : Int).toNat) (m 256 9) ((-2147483648)) 2147483647 rfl (by omega)
    have hF5483 := hF.up 413 ((0 : Int).toNat) (m 256 9) rfl
    refine y_goto 15 c216_9 rfl ?_
    refine y_iconst 16 c216_15 rfl ?_
    exact y_ireturn c216_16 (y_fit0 _) ⟨_, rfl, by omega, Or.inl rfl, hF5483, Or.inl (CI.fr hC0 (by omega) (by omega) (by omega) hT5482 (fun a q ha => (yup_na (by omega))))⟩
  by_cases hk5484 : a = 1
  · refine y_top 1 hk5484 ?_
    refine y_tsw 64 c215_1 (by decide) (by decide) rfl rfl ?_
    refine y_aload 65 c215_64 rfl rfl rfl ?_
    refine y_getS 68 (B := 256) c215_65 rfl kf0_4 (by first | rfl | (rw [show m 0 4 = 0 from by have e : m 0 4 = m 0 4 := rfl; omega]; rfl)) ?_
    refine y_getX 71 (m 256 10) c215_68 rfl kf256_10 rfl ?_
    refine y_ireturnK c215_71 (y_fit0 _) ?_
    refine y_i2l 8 c216_7 rfl ?_
    refine y_lastoreN 9 (m 256 10) c216_8 rfl kl413 (by decide) (by rw [Int32.toInt_toInt64, y_rng (by omega)]) ?_
    have hT5485 := hT.up 413 ((0 : Int).toNat) (m 256 10) ((-2147483648)) 2147483647 rfl (by omega)
    have hF5486 := hF.up 413 ((0 : Int).toNat) (m 256 10) rfl
    refine y_goto 15 c216_9 rfl ?_
    refine y_iconst 16 c216_15 rfl ?_
    exact y_ireturn c216_16 (y_fit0 _) ⟨_, rfl, by omega, Or.inl rfl, hF5486, Or.inl (CI.fr hC0 (by omega) (by omega) (by omega) hT5485 (fun a q ha => (yup_na (by omega))))⟩
  by_cases hk5487 : a = 2
  · refine y_top 2 hk5487 ?_
    refine y_tsw 72 c215_1 (by decide) (by decide) rfl rfl ?_
    refine y_aload 73 c215_72 rfl rfl rfl ?_
    refine y_getS 76 (B := 256) c215_73 rfl kf0_4 (by first | rfl | (rw [show m 0 4 = 0 from by have e : m 0 4 = m 0 4 := rfl; omega]; rfl)) ?_
    refine y_getX 79 (m 256 11) c215_76 rfl kf256_11 rfl ?_
    refine y_ireturnK c215_79 (y_fit0 _) ?_
    refine y_i2l 8 c216_7 rfl ?_
    refine y_lastoreN 9 (m 256 11) c216_8 rfl kl413 (by decide) (by rw [Int32.toInt_toInt64, y_rng (by omega)]) ?_
    have hT5488 := hT.up 413 ((0 : Int).toNat) (m 256 11) ((-2147483648)) 2147483647 rfl (by omega)
    have hF5489 := hF.up 413 ((0 : Int).toNat) (m 256 11) rfl
    refine y_goto 15 c216_9 rfl ?_
    refine y_iconst 16 c216_15 rfl ?_
    exact y_ireturn c216_16 (y_fit0 _) ⟨_, rfl, by omega, Or.inl rfl, hF5489, Or.inl (CI.fr hC0 (by omega) (by omega) (by omega) hT5488 (fun a q ha => (yup_na (by omega))))⟩
  by_cases hk5490 : a = 3
  · refine y_top 3 hk5490 ?_
    refine y_tsw 80 c215_1 (by decide) (by decide) rfl rfl ?_
    refine y_aload 81 c215_80 rfl rfl rfl ?_
    refine y_getS 84 (B := 256) c215_81 rfl kf0_4 (by first | rfl | (rw [show m 0 4 = 0 from by have e : m 0 4 = m 0 4 := rfl; omega]; rfl)) ?_
    refine y_getX 87 (m 256 12) c215_84 rfl kf256_12 rfl ?_
    refine y_ireturnK c215_87 (y_fit0 _) ?_
    refine y_i2l 8 c216_7 rfl ?_
    refine y_lastoreN 9 (m 256 12) c216_8 rfl kl413 (by decide) (by rw [Int32.toInt_toInt64, y_rng (by omega)]) ?_
    have hT5491 := hT.up 413 ((0 : Int).toNat) (m 256 12) ((-2147483648)) 2147483647 rfl (by omega)
    have hF5492 := hF.up 413 ((0 : Int).toNat) (m 256 12) rfl
    refine y_goto 15 c216_9 rfl ?_
    refine y_iconst 16 c216_15 rfl ?_
    exact y_ireturn c216_16 (y_fit0 _) ⟨_, rfl, by omega, Or.inl rfl, hF5492, Or.inl (CI.fr hC0 (by omega) (by omega) (by omega) hT5491 (fun a q ha => (yup_na (by omega))))⟩
  by_cases hk5493 : a = 4
  · refine y_top 4 hk5493 ?_
    refine y_tsw 88 c215_1 (by decide) (by decide) rfl rfl ?_
    refine y_aload 89 c215_88 rfl rfl rfl ?_
    refine y_getS 92 (B := 256) c215_89 rfl kf0_4 (by first | rfl | (rw [show m 0 4 = 0 from by have e : m 0 4 = m 0 4 := rfl; omega]; rfl)) ?_
    refine y_getX 95 (m 256 13) c215_92 rfl kf256_13 rfl ?_
    refine y_ireturnK c215_95 (y_fit0 _) ?_
    refine y_i2l 8 c216_7 rfl ?_
    refine y_lastoreN 9 (m 256 13) c216_8 rfl kl413 (by decide) (by rw [Int32.toInt_toInt64, y_rng (by omega)]) ?_
    have hT5494 := hT.up 413 ((0 : Int).toNat) (m 256 13) ((-2147483648)) 2147483647 rfl (by omega)
    have hF5495 := hF.up 413 ((0 : Int).toNat) (m 256 13) rfl
    refine y_goto 15 c216_9 rfl ?_
    refine y_iconst 16 c216_15 rfl ?_
    exact y_ireturn c216_16 (y_fit0 _) ⟨_, rfl, by omega, Or.inl rfl, hF5495, Or.inl (CI.fr hC0 (by omega) (by omega) (by omega) hT5494 (fun a q ha => (yup_na (by omega))))⟩
  by_cases hk5496 : a = 5
  · refine y_top 5 hk5496 ?_
    refine y_tsw 96 c215_1 (by decide) (by decide) rfl rfl ?_
    refine y_aload 97 c215_96 rfl rfl rfl ?_
    refine y_getS 100 (B := 256) c215_97 rfl kf0_4 (by first | rfl | (rw [show m 0 4 = 0 from by have e : m 0 4 = m 0 4 := rfl; omega]; rfl)) ?_
    refine y_getX 103 (m 256 14) c215_100 rfl kf256_14 rfl ?_
    refine y_ireturnK c215_103 (y_fit0 _) ?_
    refine y_i2l 8 c216_7 rfl ?_
    refine y_lastoreN 9 (m 256 14) c216_8 rfl kl413 (by decide) (by rw [Int32.toInt_toInt64, y_rng (by omega)]) ?_
    have hT5497 := hT.up 413 ((0 : Int).toNat) (m 256 14) ((-2147483648)) 2147483647 rfl (by omega)
    have hF5498 := hF.up 413 ((0 : Int).toNat) (m 256 14) rfl
    refine y_goto 15 c216_9 rfl ?_
    refine y_iconst 16 c216_15 rfl ?_
    exact y_ireturn c216_16 (y_fit0 _) ⟨_, rfl, by omega, Or.inl rfl, hF5498, Or.inl (CI.fr hC0 (by omega) (by omega) (by omega) hT5497 (fun a q ha => (yup_na (by omega))))⟩
  by_cases hk5499 : a = 6
  · refine y_top 6 hk5499 ?_
    refine y_tsw 104 c215_1 (by decide) (by decide) rfl rfl ?_
    refine y_aload 105 c215_104 rfl rfl rfl ?_
    refine y_getS 108 (B := 256) c215_105 rfl kf0_4 (by first | rfl | (rw [show m 0 4 = 0 from by have e : m 0 4 = m 0 4 := rfl; omega]; rfl)) ?_
    refine y_getX 111 (m 256 15) c215_108 rfl kf256_15 rfl ?_
    refine y_ireturnK c215_111 (y_fit0 _) ?_
    refine y_i2l 8 c216_7 rfl ?_
    refine y_lastoreN 9 (m 256 15) c216_8 rfl kl413 (by decide) (by rw [Int32.toInt_toInt64, y_rng (by omega)]) ?_
    have hT5500 := hT.up 413 ((0 : Int).toNat) (m 256 15) ((-2147483648)) 2147483647 rfl (by omega)
    have hF5501 := hF.up 413 ((0 : Int).toNat) (m 256 15) rfl
    refine y_goto 15 c216_9 rfl ?_
    refine y_iconst 16 c216_15 rfl ?_
    exact y_ireturn c216_16 (y_fit0 _) ⟨_, rfl, by omega, Or.inl rfl, hF5501, Or.inl (CI.fr hC0 (by omega) (by omega) (by omega) hT5500 (fun a q ha => (yup_na (by omega))))⟩
  by_cases hk5502 : a = 7
  · refine y_top 7 hk5502 ?_
    refine y_tsw 112 c215_1 (by decide) (by decide) rfl rfl ?_
    refine y_aload 113 c215_112 rfl rfl rfl ?_
    refine y_getR 116 c215_113 rfl kf0_2 ?_
    refine y_getX 119 (m 8 6) c215_116 rfl kf8_6 rfl ?_
    have tb5503 := hT.atp 8 6 0 2001 rfl
    refine y_ireturnK c215_119 (y_fit0 _) ?_
    refine y_i2l 8 c216_7 rfl ?_
    refine y_lastoreN 9 (m 8 6) c216_8 rfl kl413 (by decide) (by rw [Int32.toInt_toInt64, y_rng (by omega)]) ?_
    have hT5504 := hT.up 413 ((0 : Int).toNat) (m 8 6) ((-2147483648)) 2147483647 rfl (by omega)
    have hF5505 := hF.up 413 ((0 : Int).toNat) (m 8 6) rfl
    refine y_goto 15 c216_9 rfl ?_
    refine y_iconst 16 c216_15 rfl ?_
    exact y_ireturn c216_16 (y_fit0 _) ⟨_, rfl, by omega, Or.inl rfl, hF5505, Or.inl (CI.fr hC0 (by omega) (by omega) (by omega) hT5504 (fun a q ha => (yup_na (by omega))))⟩
  by_cases hk5506 : a = 8
  · refine y_top 8 hk5506 ?_
    refine y_tsw 120 c215_1 (by decide) (by decide) rfl rfl ?_
    refine y_aload 121 c215_120 rfl rfl rfl ?_
    refine y_getR 124 c215_121 rfl kf0_3 ?_
    refine y_getX 127 (m 169 5) c215_124 rfl kf169_5 rfl ?_
    have tb5507 := hT.atp 169 5 0 30 rfl
    refine y_ireturnK c215_127 (y_fit0 _) ?_
    refine y_i2l 8 c216_7 rfl ?_
    refine y_lastoreN 9 (m 169 5) c216_8 rfl kl413 (by decide) (by rw [Int32.toInt_toInt64, y_rng (by omega)]) ?_
    have hT5508 := hT.up 413 ((0 : Int).toNat) (m 169 5) ((-2147483648)) 2147483647 rfl (by omega)
    have hF5509 := hF.up 413 ((0 : Int).toNat) (m 169 5) rfl
    refine y_goto 15 c216_9 rfl ?_
    refine y_iconst 16 c216_15 rfl ?_
    exact y_ireturn c216_16 (y_fit0 _) ⟨_, rfl, by omega, Or.inl rfl, hF5509, Or.inl (CI.fr hC0 (by omega) (by omega) (by omega) hT5508 (fun a q ha => (yup_na (by omega))))⟩
  by_cases hk5510 : a = 9
  · refine y_top 9 hk5510 ?_
    refine y_tsw 128 c215_1 (by decide) (by decide) rfl rfl ?_
    refine y_aload 129 c215_128 rfl rfl rfl ?_
    refine y_getX 132 (m 0 6) c215_129 rfl kf0_6 rfl ?_
    have tb5511 := hT.atp 0 6 0 320 rfl
    refine y_ireturnK c215_132 (y_fit0 _) ?_
    refine y_i2l 8 c216_7 rfl ?_
    refine y_lastoreN 9 (m 0 6) c216_8 rfl kl413 (by decide) (by rw [Int32.toInt_toInt64, y_rng (by omega)]) ?_
    have hT5512 := hT.up 413 ((0 : Int).toNat) (m 0 6) ((-2147483648)) 2147483647 rfl (by omega)
    have hF5513 := hF.up 413 ((0 : Int).toNat) (m 0 6) rfl
    refine y_goto 15 c216_9 rfl ?_
    refine y_iconst 16 c216_15 rfl ?_
    exact y_ireturn c216_16 (y_fit0 _) ⟨_, rfl, by omega, Or.inl rfl, hF5513, Or.inl (CI.fr hC0 (by omega) (by omega) (by omega) hT5512 (fun a q ha => (yup_na (by omega))))⟩
  refine y_tswd 133 c215_1 (by omega) (by omega) rfl ?_
  refine y_throwB c215_133 rfl ?_
  refine yK_in kh216_4_9 ?_
  refine y_astore 13 c216_12 rfl rfl rfl ?_
  refine y_iconst 14 c216_13 rfl ?_
  exact y_ireturn c216_14 (y_fit0 _) ⟨_, rfl, by omega, Or.inr rfl, hF, Or.inl hC0⟩
theorem wPs256_o {a q : Nat} (h : (256 ≤ a ∧ a < 376) ∧ ¬ (256 ≤ a ∧ a < 316)) : wPs256 a q = false := by
  cases e : wPs256 a q with
  | false => rfl
  | true => simp [wPs256] at e <;> omega
theorem wPs316_o {a q : Nat} (h : (256 ≤ a ∧ a < 376) ∧ ¬ (316 ≤ a ∧ a < 376)) : wPs316 a q = false := by
  cases e : wPs316 a q with
  | false => rfl
  | true => simp [wPs316] at e <;> omega
set_option maxRecDepth 100000 in
theorem t95_256 {L : Nat} {xs : Nat → Int32} {d nn : Nat} {m : yM}  (hC : CI 256 326 0 m) : YC (gZ L xs) (d + 17) 95 [.ref 0, .ref 413] m nn (qW nn m) := by
  have hC0 := hC
  obtain ⟨hT, h04, h05, hS, hM2, h84⟩ := hC
  have hM : MP 266 m := hS.2.2.2.1
  have tb9 := hT.atp 256 9 0 6 rfl
  have tb10 := hT.atp 256 10 0 10 rfl
  have tb11 := hT.atp 256 11 0 8 rfl
  have tb12 := hT.atp 256 12 0 12 rfl
  have tb13 := hT.atp 256 13 0 8 rfl
  have tb14 := hT.atp 256 14 0 12 rfl
  have tb15 := hT.atp 256 15 0 48 rfl
  have tb16 := hT.atp 256 16 0 40 rfl
  refine YC.mkB [some (.ref 0), some (.ref 413), none] kn95 rfl rfl ?_
  have hF : Fr wCl m m := Fr.rf
  refine y_aload 1 c95_0 rfl rfl rfl ?_
  refine y_iconst 2 c95_1 rfl ?_
  refine y_aload 3 c95_2 rfl rfl rfl ?_
  refine y_inlB 6 [.ref 0] [yI 0, .ref 413] [some (.ref 0), none] c95_3 rfl rfl rfl rfl rfl (ycanO km94 ko0) kn94 rfl rfl ?_
  refine y_aload 1 c94_0 rfl rfl rfl ?_
  refine y_aload 2 c94_1 rfl rfl rfl ?_
  refine y_getR 5 c94_2 rfl kf0_1 ?_
  refine y_aload 6 c94_5 rfl rfl rfl ?_
  refine y_getR 9 c94_6 rfl kf0_0 ?_
  refine y_aload 10 c94_9 rfl rfl rfl ?_
  refine y_getX 13 (m 0 6) c94_10 rfl kf0_6 rfl ?_
  have tb5514 := hT.atp 0 6 0 320 rfl
  refine y_aload 14 c94_13 rfl rfl rfl ?_
  refine y_getS 17 (B := 316) c94_14 rfl kf0_5 (by first | rfl | (rw [show m 0 5 = 1 from by have e : m 0 5 = m 0 5 := rfl; omega]; rfl)) ?_
  refine y_callIB 20 [.ref 2, .ref 1, yI (m 0 6), .ref 316] [.ref 0] c94_17 rfl rfl rfl rfl rfl (ycanO km74 ko2) (t74_316 hT (by omega) hM2) (fun rq5515 mq5515 nq5515 hq5515 => ?_)
  obtain ⟨rfl, hTq5515, hFq5515, hq5515, hMq, hPq⟩ := hq5515
  have hF5516 := hF.tr hFq5515 wPs316_wCl
  refine y_putI 23 c94_20 rfl kf0_7 (y_fit0 _) ?_
  have hT5517 := hTq5515.up 0 7 rq5515 ((-2147483648)) 2147483647 rfl (by omega)
  have hF5518 := hF5516.up 0 7 rq5515 rfl
  refine y_aload 24 c94_23 rfl rfl rfl ?_
  refine y_getX 27 rq5515 c94_24 rfl kf0_7 rfl ?_
  refine y_iconst 28 c94_27 rfl ?_
  refine y_icmp 39 31 c94_28 rfl rfl (yc_eq (by omega) (by omega)) (fun hb5519 => ?_) (fun hb5519 => ?_)
  · refine y_aload 40 c94_39 rfl rfl rfl ?_
    refine y_getS 43 (B := 256) c94_40 rfl kf0_4 (by first | rfl | (rw [show (yup mq5515 0 7 rq5515) 0 4 = 0 from by have e : (yup mq5515 0 7 rq5515) 0 4 = m 0 4 := ((yup_nk (by decide)).trans (hFq5515 0 4 rfl)); omega]; rfl)) ?_
    refine y_astore 44 c94_43 rfl rfl rfl ?_
    refine y_aload 45 c94_44 rfl rfl rfl ?_
    refine y_aload 46 c94_45 rfl rfl rfl ?_
    refine y_getS 49 (B := 316) c94_46 rfl kf0_5 (by first | rfl | (rw [show (yup mq5515 0 7 rq5515) 0 5 = 1 from by have e : (yup mq5515 0 7 rq5515) 0 5 = m 0 5 := ((yup_nk (by decide)).trans (hFq5515 0 5 rfl)); omega]; rfl)) ?_
    refine y_putS 52 1 c94_49 rfl kf0_4 rfl ?_
    have hT5520 := hT5517.up 0 4 (((1 : Nat) : Int)) 0 1 rfl (by omega)
    have hF5521 := hF5518.up 0 4 (((1 : Nat) : Int)) rfl
    refine y_aload 53 c94_52 rfl rfl rfl ?_
    refine y_aload 54 c94_53 rfl rfl rfl ?_
    refine y_putS 57 0 c94_54 rfl kf0_5 rfl ?_
    have hT5522 := hT5520.up 0 5 (((0 : Nat) : Int)) 0 1 rfl (by omega)
    have hF5523 := hF5521.up 0 5 (((0 : Nat) : Int)) rfl
    refine y_aload 58 c94_57 rfl rfl rfl ?_
    refine y_getR 61 c94_58 rfl kf0_2 ?_
    refine y_aload 62 c94_61 rfl rfl rfl ?_
    refine y_getS 65 (B := 316) c94_62 rfl kf0_4 (by first | rfl | (rw [show (yup (yup (yup mq5515 0 7 rq5515) 0 4 (((1 : Nat) : Int))) 0 5 (((0 : Nat) : Int))) 0 4 = 1 from by have e : (yup (yup (yup mq5515 0 7 rq5515) 0 4 (((1 : Nat) : Int))) 0 5 (((0 : Nat) : Int))) 0 4 = ((1 : Nat) : Int) := rfl; omega]; rfl)) ?_
    have hPq2 : PS 316 (yup (yup (yup mq5515 0 7 rq5515) 0 4 (((1 : Nat) : Int))) 0 5 (((0 : Nat) : Int))) := (hPq (by omega)).fr (hTq5515.atp 316 16 0 40 rfl).2 (hTq5515.atp 316 10 0 10 rfl).2 (fun k q hk => ((yup_na (by omega)).trans ((yup_na (by omega)).trans (yup_na (by omega)))))
    refine y_callUB 68 [.ref 8, .ref 316] [] c94_65 rfl rfl rfl rfl rfl (ycanO km91 ko8) (t91_316 hT5522 hPq2.2.2.2.1 hPq2.1 hPq2.2.2.1) (fun mq5524 nq5524 hq5524 => ?_)
    obtain ⟨rfl, hTq5524, hFq5524, hq5524⟩ := hq5524
    have hF5525 := hF5523.tr hFq5524 wFd8_wCl
    refine y_aload 69 c94_68 rfl rfl rfl ?_
    refine y_getR 72 c94_69 rfl kf0_3 ?_
    refine y_callUB 75 [.ref 169] [] c94_72 rfl rfl rfl rfl rfl (ycanO km92 ko169) (t92 hTq5524) (fun mq5526 nq5526 hq5526 => ?_)
    obtain ⟨rfl, hTq5526, hFq5526⟩ := hq5526
    have hF5527 := hF5525.tr hFq5526 wMx_wCl
    refine y_aload 76 c94_75 rfl rfl rfl ?_
    refine y_getR 79 c94_76 rfl kf0_2 ?_
    have es5528 : mq5526 8 4 = mq5524 8 4 := (hFq5526 8 4 rfl)
    have tb5529 := hTq5524.atp 8 4 ((-1)) 1 rfl
    refine y_callP 82 [.ref 8] [] c94_79 rfl rfl rfl rfl rfl (ycanO km93 ko8) (t93_316 hTq5526 (by omega)) (fun r5530 hr5530 => ?_)
    refine y_ireturnK c94_82 (y_fit0 _) ?_
    refine y_i2l 7 c95_6 rfl ?_
    refine y_lastoreN 8 r5530 c95_7 rfl kl413 (by decide) (by rw [Int32.toInt_toInt64, y_rng (by omega)]) ?_
    have hT5531 := hTq5526.up 413 ((0 : Int).toNat) r5530 ((-2147483648)) 2147483647 rfl (by omega)
    have hF5532 := hF5527.up 413 ((0 : Int).toNat) r5530 rfl
    refine y_goto 14 c95_8 rfl ?_
    refine y_iconst 15 c95_14 rfl ?_
    have es5533 : (yup mq5526 413 ((0 : Int).toNat) r5530) 0 4 = ((1 : Nat) : Int) := ((yup_na (by decide)).trans ((hFq5526 0 4 rfl).trans ((hFq5524 0 4 rfl).trans ((yup_nk (by decide)).trans (yup_eq _ _ _ _)))))
    have es5534 : (yup mq5526 413 ((0 : Int).toNat) r5530) 0 5 = ((0 : Nat) : Int) := ((yup_na (by decide)).trans ((hFq5526 0 5 rfl).trans ((hFq5524 0 5 rfl).trans (yup_eq _ _ _ _))))
    have es5535 : (yup mq5526 413 ((0 : Int).toNat) r5530) 8 4 = mq5524 8 4 := ((yup_na (by decide)).trans (hFq5526 8 4 rfl))
    have hP3 : PS 316 (yup mq5526 413 ((0 : Int).toNat) r5530) := (hPq (by omega)).fr (hTq5515.atp 316 16 0 40 rfl).2 (hTq5515.atp 316 10 0 10 rfl).2 (fun k q hk => ((yup_na (by omega)).trans ((hFq5526 _ _ (wMx_h (by omega))).trans ((hFq5524 _ _ (wFd8_h (by omega))).trans ((yup_na (by omega)).trans ((yup_na (by omega)).trans (yup_na (by omega))))))))
    have hu : ∀ a q, 256 ≤ a ∧ a < 316 → (yup mq5526 413 ((0 : Int).toNat) r5530) a q = m a q := fun a q ha => (((yup_na (by omega)).trans ((hFq5526 _ _ (wMx_h (by omega))).trans ((hFq5524 _ _ (wFd8_h (by omega))).trans ((yup_na (by omega)).trans ((yup_na (by omega)).trans (yup_na (by omega)))))))).trans (hFq5515 _ _ (wPs316_o (by omega)))
    refine y_ireturn c95_15 (y_fit0 _) ⟨_, rfl, by omega, Or.inl rfl, hF5532, Or.inr ⟨hT5531, by omega, by omega, hP3, hM.fr (fun k hk => hu _ _ (by omega)) (fun k hk => hu _ _ (by omega)), Or.inl (by omega)⟩⟩
  · refine y_throwB c94_31 rfl ?_
    refine yK_in kh95_3_9 ?_
    refine y_astore 12 c95_11 rfl rfl rfl ?_
    refine y_iconst 13 c95_12 rfl ?_
    have es5536 : (yup mq5515 0 7 rq5515) 0 4 = m 0 4 := ((yup_nk (by decide)).trans (hFq5515 0 4 rfl))
    have tb5537 := hT.atp 0 4 0 1 rfl
    have es5538 : (yup mq5515 0 7 rq5515) 0 5 = m 0 5 := ((yup_nk (by decide)).trans (hFq5515 0 5 rfl))
    have tb5539 := hT.atp 0 5 0 1 rfl
    have es5540 : (yup mq5515 0 7 rq5515) 8 4 = m 8 4 := ((yup_na (by decide)).trans (hFq5515 8 4 rfl))
    have tb5541 := hT.atp 8 4 ((-1)) 1 rfl
    have hu : ∀ k q, k < 60 → (yup mq5515 0 7 rq5515) (256 + k) q = m (256 + k) q := fun k q hk => (yup_na (by omega)).trans (hFq5515 _ _ (wPs316_o (by omega)))
    refine y_ireturn c95_13 (y_fit0 _) ⟨_, rfl, by omega, Or.inr rfl, hF5518, Or.inl ⟨hT5517, by omega, by omega, hS.fr (by omega) (by omega) hu, hMq.fr (fun k hk => yup_na (by omega)) (fun k hk => yup_na (by omega)), ?_⟩⟩
    have e13 := hu 0 13 (by omega)
    have e15 := hu 0 15 (by omega)
    simp only [Nat.add_zero] at e13 e15
    omega
set_option maxRecDepth 100000 in
theorem t198b_256 {L : Nat} {xs : Nat → Int32} {d nn : Nat} {m : yM} (hT : Ty gT m) (hp : m 169 4 = 0) (hS : PS 256 m) (hst : 0 ≤ m 256 17) : YW (gZ L xs) 198 (603 + d + 3) 5 [some (.ref 169), some (.ref 256), none, none] [] m nn (qTU nn m (fun _ => True)) := by
  have hB : BR256 L xs (603 + d + 2) 0 := tBR_256 201 0 (by omega)
  have hF : Fr wMx m m := Fr.rf
  have tb16 := hT.atp 256 16 0 40 rfl
  have tb10 := hT.atp 256 10 0 10 rfl
  have tb17 := hT.atp 256 17 (-1) 9 rfl
  have h17 := hS.2.2.2.2.2
  have hes : m (266 + (m 256 17).toNat) 5 ≤ m 256 16 := hS.2.2.2.2.1 (m 256 17).toNat (by omega)
  refine y_aload 6 c198_5 rfl rfl rfl ?_
  refine y_callUB 9 [.ref 169] [] c198_6 rfl rfl rfl rfl rfl (ycanO km92 ko169) (t92 hT) (fun mq5542 nq5542 hq5542 => ?_)
  obtain ⟨rfl, hTq5542, hFq5542⟩ := hq5542
  have hF5543 := hF.tr hFq5542 (fun _ _ e => e)
  refine y_aload 10 c198_9 rfl rfl rfl ?_
  refine y_iconst 11 c198_10 rfl ?_
  refine y_putI 14 c198_11 rfl kf169_5 (y_fit0 _) ?_
  have hT5544 := hTq5542.up 169 5 0 0 30 rfl (by omega)
  have hF5545 := hF5543.up 169 5 0 rfl
  refine y_aload 15 c198_14 rfl rfl rfl ?_
  refine y_iconst 16 c198_15 rfl ?_
  refine y_putI 19 c198_16 rfl kf169_6 (y_fit0 _) ?_
  have hT5546 := hT5544.up 169 6 0 0 200 rfl (by omega)
  have hF5547 := hF5545.up 169 6 0 rfl
  refine y_aload 20 c198_19 rfl rfl rfl ?_
  refine y_iconst 21 c198_20 rfl ?_
  have es5549 : (yup (yup mq5542 169 5 0) 169 6 0) 169 6 = 0 := rfl
  refine y_mI 24 [.ref 169, yI 0] [] c198_21 rfl rfl rfl rfl rfl (ycanO km186 ko169) kg198 qOut.U hF5547 (t186 hT5546 (by omega)) (fun rq5548 mq5548 hTq5548 hFq5548 hq5548 => ?_)
  have hF5550 := hF5547.tr' hFq5548
  refine y_istore 25 c198_24 rfl rfl ?_
  refine y_aload 26 c198_25 rfl rfl rfl ?_
  refine y_getS 29 (B := 256) c198_26 rfl kf169_4 (by first | rfl | (rw [show mq5548 169 4 = 0 from by have e : mq5548 169 4 = m 169 4 := ((hFq5548 169 4 rfl).trans ((yup_nk (by decide)).trans ((yup_nk (by decide)).trans (hFq5542 169 4 rfl)))); omega]; rfl)) ?_
  refine y_getR 32 c198_29 rfl kf256_5 ?_
  refine y_aload 33 c198_32 rfl rfl rfl ?_
  refine y_getS 36 (B := 256) c198_33 rfl kf169_4 (by first | rfl | (rw [show mq5548 169 4 = 0 from by have e : mq5548 169 4 = m 169 4 := ((hFq5548 169 4 rfl).trans ((yup_nk (by decide)).trans ((yup_nk (by decide)).trans (hFq5542 169 4 rfl)))); omega]; rfl)) ?_
  refine y_getX 39 (m 256 17) c198_36 rfl kf256_17 ((hFq5548 256 17 rfl).trans ((yup_na (by decide)).trans ((yup_na (by decide)).trans (hFq5542 256 17 rfl)))) ?_
  refine y_aaload 40 c198_39 rfl kr262 (by omega) ?_
  refine y_astore 41 c198_40 rfl rfl rfl ?_
  refine y_aload 42 c198_41 rfl rfl rfl ?_
  refine y_aload 43 c198_42 rfl rfl rfl ?_
  refine y_iconst 44 c198_43 rfl ?_
  have tb5552 := hTq5548.atp 169 6 0 200 rfl
  refine y_mA 47 [.ref 169, yI 0] [.ref 169] c198_44 rfl rfl rfl rfl rfl (ycanO km187 ko169) kg198 qOut.U hF5550 (t187 hTq5548 (by omega)) (fun rq5551 mq5551 hTq5551 hFq5551 hq5551 => ?_)
  have hF5553 := hF5550.tr' hFq5551
  obtain ⟨rfl, hq5551⟩ := hq5551
  refine y_aload 48 c198_47 rfl rfl rfl ?_
  refine y_callP 51 [.ref (266 + (m 256 17).toNat)] [.ref (252 + ((0 : Int)).toNat), .ref 169] c198_48 rfl rfl rfl rfl rfl (ycanO km57 (fo266 (by omega))) (t57_256 hTq5551 (by omega)) (fun r5554 hr5554 => ?_)
  refine y_iload 52 c198_51 rfl rfl ?_
  have tb5556 := hTq5551.atp 169 6 0 200 rfl
  refine y_callUB 55 [.ref 169, .ref (252 + ((0 : Int)).toNat), yI r5554, yI rq5548] [] c198_52 rfl rfl rfl rfl rfl (ycanO km188 ko169) (t188 hTq5551 (by omega) (by omega) (by omega)) (fun mq5555 nq5555 hq5555 => ?_)
  obtain ⟨rfl, hTq5555, hFq5555, hq5555⟩ := hq5555
  have hF5557 := hF5553.tr hFq5555 (fun _ _ e => e)
  refine y_aload 56 c198_55 rfl rfl rfl ?_
  refine y_aload 57 c198_56 rfl rfl rfl ?_
  refine y_getX 60 (m (266 + (m 256 17).toNat) 4) c198_57 rfl (ff266_4 (by omega)) ((hFq5555 (266 + (m 256 17).toNat) 4 (wMx_h (by omega))).trans ((hFq5551 (266 + (m 256 17).toNat) 4 (wMx_h (by omega))).trans ((hFq5548 (266 + (m 256 17).toNat) 4 (wMx_h (by omega))).trans ((yup_na (by omega)).trans ((yup_na (by omega)).trans (hFq5542 (266 + (m 256 17).toNat) 4 (wMx_h (by omega)))))))) ?_
  have tb5558 := hT.atp (266 + (m 256 17).toNat) 4 0 40 (ft266_4 (by omega))
  refine y_aload 61 c198_60 rfl rfl rfl ?_
  refine y_getX 64 (m (266 + (m 256 17).toNat) 5) c198_61 rfl (ff266_5 (by omega)) ((hFq5555 (266 + (m 256 17).toNat) 5 (wMx_h (by omega))).trans ((hFq5551 (266 + (m 256 17).toNat) 5 (wMx_h (by omega))).trans ((hFq5548 (266 + (m 256 17).toNat) 5 (wMx_h (by omega))).trans ((yup_na (by omega)).trans ((yup_na (by omega)).trans (hFq5542 (266 + (m 256 17).toNat) 5 (wMx_h (by omega)))))))) ?_
  have tb5559 := hT.atp (266 + (m 256 17).toNat) 5 0 40 (ft266_5 (by omega))
  refine y_iconst 65 c198_64 rfl ?_
  have es5561 : mq5555 169 4 = m 169 4 := ((hFq5555 169 4 rfl).trans ((hFq5551 169 4 rfl).trans ((hFq5548 169 4 rfl).trans ((yup_nk (by decide)).trans ((yup_nk (by decide)).trans (hFq5542 169 4 rfl))))))
  have tb5562 := hT.atp 169 4 ((-1)) 1 rfl
  have tb5563 := hTq5555.atp 169 6 0 200 rfl
  have es5564 : mq5555 256 16 = m 256 16 := ((hFq5555 256 16 rfl).trans ((hFq5551 256 16 rfl).trans ((hFq5548 256 16 rfl).trans ((yup_na (by decide)).trans ((yup_na (by decide)).trans (hFq5542 256 16 rfl))))))
  have es5565 : mq5555 256 10 = m 256 10 := ((hFq5555 256 10 rfl).trans ((hFq5551 256 10 rfl).trans ((hFq5548 256 10 rfl).trans ((yup_na (by decide)).trans ((yup_na (by decide)).trans (hFq5542 256 10 rfl))))))
  refine y_mI 68 [.ref 169, yI (m (266 + (m 256 17).toNat) 4), yI (m (266 + (m 256 17).toNat) 5), yI 0] [] c198_65 rfl rfl rfl rfl rfl (ycanO km197 ko169) kg198 qOut.U hF5557 (hB _ _ _ _ _ _ (by omega) hTq5555 (by omega) (hS.fr (by omega) (by omega) (fun k q _ => hF5557 _ _ (wMx_h (by omega)))) (by omega) (by omega) (by omega) (by omega)) (fun rq5560 mq5560 hTq5560 hFq5560 hq5560 => ?_)
  have hF5566 := hF5557.tr' hFq5560
  refine y_pop 69 c198_68 rfl rfl ?_
  exact y_mRU c198_69 hTq5560 hF5566 (trivial)
def wMz (a q : Nat) : Bool := wMx a q || (a == 169 && q == 4)
theorem wMx_wMz : ∀ a q, wMx a q = true → wMz a q = true := by
  intro a q h
  simp [wMz, h]
theorem wMz_h {a q : Nat} (h : 256 ≤ a) : wMz a q = false := by
  cases e : wMz a q with
  | false => rfl
  | true => simp [wMz, wMx] at e <;> omega
theorem wMz_wCl : ∀ a q, wMz a q = true → wCl a q = true := wCl_of (fun a q h => by simp [wMz, wMx] at h; omega)
def qE (nn : Nat) (m : yM) : xO → yM → Nat → Prop := fun o m' n' => (o = .inl none ∧ n' = nn ∧ Ty gT m' ∧ Fr wMz m m') ∨ (∃ q x, o = .inr (q, x) ∧ n' = nn + 1 ∧ Ty gT m' ∧ Fr wMz m m' ∧ 10 ≤ q ∧ q ≤ 13)
set_option maxRecDepth 100000 in
theorem t198_256 {L : Nat} {xs : Nat → Int32} {d nn : Nat} {m : yM} (hT : Ty gT m) (hS : PS 256 m) (hst : 0 ≤ m 256 17) : YC (gZ L xs) (603 + d + 3) 198 [.ref 169, .ref 256] m nn (qE nn m) := by
  refine YC.mkB [some (.ref 169), some (.ref 256), none, none] kn198 rfl rfl ?_
  refine y_aload 1 c198_0 rfl rfl rfl ?_
  refine y_aload 2 c198_1 rfl rfl rfl ?_
  refine y_putS 5 0 c198_2 rfl kf169_4 rfl ?_
  have hT5567 := hT.up 169 4 (((0 : Nat) : Int)) ((-1)) 1 rfl (by omega)
  refine YW.mono (t198b_256 (m := yup m 169 4 (((0 : Nat) : Int))) hT5567 (yup_eq _ _ _ _) (hS.fr (hT.atp 256 16 0 40 rfl).2 (hT.atp 256 10 0 10 rfl).2 (fun k q _ => yup_na (by omega))) (by rw [yup_na (by decide)]; exact hst)) (fun o m2 n2 h => ?_)
  have hz : Fr wMz m (yup m 169 4 (((0 : Nat) : Int))) := Fr.rf.up 169 4 _ rfl
  rcases h with ⟨e1, e2, e3, e4, -⟩ | ⟨q, x, e1, e2, e3, e4, e5⟩
  · exact Or.inl ⟨e1, e2, e3, hz.tr e4 wMx_wMz⟩
  · exact Or.inr ⟨q, x, e1, e2, e3, hz.tr e4 wMx_wMz, e5⟩
theorem wMz_c {a q : Nat} (h : (a = 0 ∧ (q = 4 ∨ q = 5)) ∨ (a = 8 ∧ q = 4) ∨ (256 ≤ a ∧ a < 376)) : wMz a q = false := by
  cases e : wMz a q with
  | false => rfl
  | true => simp [wMz, wMx] at e <;> omega
set_option maxRecDepth 100000 in
theorem t200_256 {L : Nat} {xs : Nat → Int32} {d nn : Nat} {m : yM} (hC : CI 256 326 0 m) : YC (gZ L xs) (603 + d + 5) 200 [.ref 0, .ref 413] m nn (qW nn m) := by
  have hC0 := hC
  obtain ⟨hT, h04, h05, hS, hM2, h84⟩ := hC
  have hM : MP 266 m := hS.2.2.2.1
  have tb9 := hT.atp 256 9 0 6 rfl
  have tb10 := hT.atp 256 10 0 10 rfl
  have tb11 := hT.atp 256 11 0 8 rfl
  have tb12 := hT.atp 256 12 0 12 rfl
  have tb13 := hT.atp 256 13 0 8 rfl
  have tb14 := hT.atp 256 14 0 12 rfl
  have tb15 := hT.atp 256 15 0 48 rfl
  have tb16 := hT.atp 256 16 0 40 rfl
  have tb17 := hT.atp 256 17 (-1) 9 rfl
  refine YC.mkB [some (.ref 0), some (.ref 413), none] kn200 rfl rfl ?_
  have hF : Fr wCl m m := Fr.rf
  refine y_aload 1 c200_0 rfl rfl rfl ?_
  refine y_iconst 2 c200_1 rfl ?_
  refine y_aload 3 c200_2 rfl rfl rfl ?_
  refine y_inlB 6 [.ref 0] [yI 0, .ref 413] [some (.ref 0)] c200_3 rfl rfl rfl rfl rfl (ycanO km199 ko0) kn199 rfl rfl ?_
  refine y_aload 1 c199_0 rfl rfl rfl ?_
  refine y_getS 4 (B := 256) c199_1 rfl kf0_4 (by first | rfl | (rw [show m 0 4 = 0 from by have e : m 0 4 = m 0 4 := rfl; omega]; rfl)) ?_
  refine y_getX 7 (m 256 17) c199_4 rfl kf256_17 rfl ?_
  refine y_iconst 8 c199_7 rfl ?_
  refine y_icmp 19 11 c199_8 rfl rfl (yc_ne (by omega) (by omega)) (fun hb5569 => ?_) (fun hb5569 => ?_)
  · refine y_aload 20 c199_19 rfl rfl rfl ?_
    refine y_getR 23 c199_20 rfl kf0_3 ?_
    refine y_aload 24 c199_23 rfl rfl rfl ?_
    refine y_getS 27 (B := 256) c199_24 rfl kf0_4 (by first | rfl | (rw [show m 0 4 = 0 from by have e : m 0 4 = m 0 4 := rfl; omega]; rfl)) ?_
    refine y_call 30 c199_27 rfl rfl rfl (Nat.le_of_ble_eq_true rfl) (Nat.le_of_ble_eq_true rfl) (ycanO km198 ko169) (t198_256 (d := d) hT hS (by omega)) (fun v mq5570 nq5570 hq5570 => ?_) (fun qq5570 xq5570 mq5570 nq5570 hq5570 => ?_)
    · rcases hq5570 with ⟨e, rfl, hTq5570, hFq5570⟩ | ⟨q, x, e, -⟩
      · cases e
        have hF5571 := hF.tr hFq5570 wMz_wCl
        show YW (gZ L xs) _ _ _ _ [] _ _ _
        refine y_aload 31 c199_30 rfl rfl rfl ?_
        refine y_getR 34 c199_31 rfl kf0_3 ?_
        refine y_getX 37 (mq5570 169 6) c199_34 rfl kf169_6 rfl ?_
        have tb5572 := hTq5570.atp 169 6 0 200 rfl
        refine y_ireturnK c199_37 (y_fit0 _) ?_
        refine y_i2l 7 c200_6 rfl ?_
        refine y_lastoreN 8 (mq5570 169 6) c200_7 rfl kl413 (by decide) (by rw [Int32.toInt_toInt64, y_rng (by omega)]) ?_
        have hT5573 := hTq5570.up 413 ((0 : Int).toNat) (mq5570 169 6) ((-2147483648)) 2147483647 rfl (by omega)
        have hF5574 := hF5571.up 413 ((0 : Int).toNat) (mq5570 169 6) rfl
        refine y_goto 23 c200_8 rfl ?_
        refine y_iconst 24 c200_23 rfl ?_
        exact y_ireturn c200_24 (y_fit0 _) ⟨_, rfl, by omega, Or.inl rfl, hF5574, Or.inl (CI.fr hC0 (by omega) (by omega) (by omega) hT5573 (fun a q ha => ((yup_na (by omega)).trans (hFq5570 a q (wMz_c ha)))))⟩
      · cases e
    · rcases hq5570 with ⟨e, -⟩ | ⟨q, x, e, rfl, hTq5570, hFq5570, g1, g2⟩
      · cases e
      · cases e
        refine Or.inr ⟨khn kg199, ?_⟩
        have hF5575 := hF.tr hFq5570 wMz_wCl
        have hq4 : qq5570 = 10 ∨ qq5570 = 11 ∨ qq5570 = 12 ∨ qq5570 = 13 := by omega
        rcases hq4 with rfl | rfl | rfl | rfl
        · refine yK_in kh200_3_10 ?_
          refine y_astore 21 c200_20 rfl rfl rfl ?_
          refine y_iconst 22 c200_21 rfl ?_
          exact y_ireturn c200_22 (y_fit0 _) ⟨_, rfl, by omega, Or.inr rfl, hF5575, Or.inl (CI.fr hC0 (by omega) (by omega) (by omega) hTq5570 (fun a q ha => (hFq5570 a q (wMz_c ha))))⟩
        · refine yK_in kh200_3_11 ?_
          refine y_astore 12 c200_11 rfl rfl rfl ?_
          refine y_iconst 13 c200_12 rfl ?_
          exact y_ireturn c200_13 (y_fit0 _) ⟨_, rfl, by omega, Or.inr rfl, hF5575, Or.inl (CI.fr hC0 (by omega) (by omega) (by omega) hTq5570 (fun a q ha => (hFq5570 a q (wMz_c ha))))⟩
        · refine yK_in kh200_3_12 ?_
          refine y_astore 15 c200_14 rfl rfl rfl ?_
          refine y_iconst 16 c200_15 rfl ?_
          exact y_ireturn c200_16 (y_fit0 _) ⟨_, rfl, by omega, Or.inr rfl, hF5575, Or.inl (CI.fr hC0 (by omega) (by omega) (by omega) hTq5570 (fun a q ha => (hFq5570 a q (wMz_c ha))))⟩
        · refine yK_in kh200_3_13 ?_
          refine y_astore 18 c200_17 rfl rfl rfl ?_
          refine y_iconst 19 c200_18 rfl ?_
          exact y_ireturn c200_19 (y_fit0 _) ⟨_, rfl, by omega, Or.inr rfl, hF5575, Or.inl (CI.fr hC0 (by omega) (by omega) (by omega) hTq5570 (fun a q ha => (hFq5570 a q (wMz_c ha))))⟩
  · refine y_throwB c199_11 rfl ?_
    refine yK_in kh200_3_11 ?_
    refine y_astore 12 c200_11 rfl rfl rfl ?_
    refine y_iconst 13 c200_12 rfl ?_
    exact y_ireturn c200_13 (y_fit0 _) ⟨_, rfl, by omega, Or.inr rfl, hF, Or.inl hC0⟩
end
section
/-! CONTRACTS: the class's calls. Printed by wip/whole/gen94.py -/
set_option maxRecDepth 100000 in
theorem t175a_316 {L : Nat} {xs : Nat → Int32} {d nn : Nat} {m : yM} {k : Int} (hT : Ty gT m) (hp : m 8 4 = 1) (hk : 0 ≤ k ∧ k ≤ 39) (h3 : 0 ≤ m (336 + k.toNat) 3) : ∀ (km : Nat) (i : Int), m 316 14 - i = km → 0 ≤ i ∧ i ≤ m 316 14 → YW (gZ L xs) 175 (d + 1) 2 [some (.ref 8), some (.ref (336 + k.toNat)), some (yI i)] [] m nn (qP m nn (fun r => r = 0 ∨ r = 1)) := by
  intro km
  induction km using Nat.strongRecOn with
  | ind km ih =>
    intro i hk hi
    have tb := hT.atp 316 14 0 12 rfl
    refine y_iload 3 c175_2 rfl rfl ?_
    refine y_aload 4 c175_3 rfl rfl rfl ?_
    refine y_getS 7 (B := 316) c175_4 rfl kf8_4 (by first | rfl | (rw [show m 8 4 = 1 from by have e : m 8 4 = m 8 4 := rfl; omega]; rfl)) ?_
    refine y_getX 10 (m 316 14) c175_7 rfl kf316_14 rfl ?_
    refine y_icmp 59 13 c175_10 rfl rfl (yc_ge (by omega) (by omega)) (fun hb5576 => ?_) (fun hb5576 => ?_)
    · refine y_iconst 60 c175_59 rfl ?_
      exact y_retP c175_60 (y_fit1 (by omega)) (by omega)
    · refine y_aload 14 c175_13 rfl rfl rfl ?_
      refine y_getR 17 c175_14 rfl kf8_0 ?_
      refine y_aload 18 c175_17 rfl rfl rfl ?_
      refine y_getX 21 (m (336 + k.toNat) 3) c175_18 rfl (ff336_3 (by omega)) rfl ?_
      have tb5577 := hT.atp (336 + k.toNat) 3 ((-1)) 47 (ft336_3 (by omega))
      refine y_aaload 22 c175_21 rfl kr9 (by omega) ?_
      refine y_iload 23 c175_22 rfl rfl ?_
      refine y_iaT 24 ((-2147483648)) 2147483647 c175_23 rfl (fa10 (by omega)) (by omega) hT (fz10 (by omega)) (fun v5578 hv5578 gv5578 => ?_)
      refine y_iconst 25 c175_24 rfl ?_
      refine y_icmp 53 28 c175_25 rfl rfl (yc_eq (by omega) (by omega)) (fun hb5579 => ?_) (fun hb5579 => ?_)
      · refine y_iinc 56 c175_53 rfl rfl rfl ?_
        refine y_goto 2 c175_56 rfl ?_
        exact ih (m 316 14 - (i + 1) : Int).toNat (by omega) (i + 1)   (by omega) (by omega)
      · refine y_aload 29 c175_28 rfl rfl rfl ?_
        refine y_getS 32 (B := 316) c175_29 rfl kf8_4 (by first | rfl | (rw [show m 8 4 = 1 from by have e : m 8 4 = m 8 4 := rfl; omega]; rfl)) ?_
        refine y_aload 33 c175_32 rfl rfl rfl ?_
        refine y_getS 36 (B := 316) c175_33 rfl kf8_4 (by first | rfl | (rw [show m 8 4 = 1 from by have e : m 8 4 = m 8 4 := rfl; omega]; rfl)) ?_
        refine y_getR 39 c175_36 rfl kf316_7 ?_
        refine y_iload 40 c175_39 rfl rfl ?_
        refine y_iaT 41 0 5 c175_40 rfl ka324 (by omega) hT rfl (fun v5580 hv5580 gv5580 => ?_)
        refine y_aload 42 c175_41 rfl rfl rfl ?_
        refine y_getX 45 (m (336 + k.toNat) 7) c175_42 rfl (ff336_7 (by omega)) rfl ?_
        have tb5581 := hT.atp (336 + k.toNat) 7 ((-1)) 5 (ft336_7 (by omega))
        refine y_callP 48 [.ref 316, yI v5580, yI (m (336 + k.toNat) 7)] [] c175_45 rfl rfl rfl rfl rfl (ycanO km81 ko316) (t81_316 hT (by omega) (by omega)) (fun r5582 hr5582 => ?_)
        refine y_if 53 51 c175_48 rfl rfl (yz_ne (by omega)) (fun hb5583 => ?_) (fun hb5583 => ?_)
        · refine y_iinc 56 c175_53 rfl rfl rfl ?_
          refine y_goto 2 c175_56 rfl ?_
          exact ih (m 316 14 - (i + 1) : Int).toNat (by omega) (i + 1)   (by omega) (by omega)
        · refine y_iconst 52 c175_51 rfl ?_
          exact y_retP c175_52 (y_fit1 (by omega)) (by omega)
set_option maxRecDepth 100000 in
theorem t175_316 {L : Nat} {xs : Nat → Int32} {d nn : Nat} {m : yM} {k : Int} (hT : Ty gT m) (hp : m 8 4 = 1) (hk : 0 ≤ k ∧ k ≤ 39) (h3 : 0 ≤ m (336 + k.toNat) 3) : YC (gZ L xs) (d + 1) 175 [.ref 8, .ref (336 + k.toNat)] m nn (qP m nn (fun r => r = 0 ∨ r = 1)) := by
  refine YC.mkB [some (.ref 8), some (.ref (336 + k.toNat)), none] kn175 rfl rfl ?_
  refine y_iconst 1 c175_0 rfl ?_
  refine y_istore 2 c175_1 rfl rfl ?_
  have tb := hT.atp 316 14 0 12 rfl
  exact t175a_316 hT hp hk h3 (m 316 14 - 0).toNat 0 (by omega) (by omega)
set_option maxRecDepth 100000 in
theorem t179a_316 {L : Nat} {xs : Nat → Int32} {d nn : Nat} {m : yM} {v u : Int} (hT : Ty gT m) (hp : m 8 4 = 1) (hv : 0 ≤ v ∧ v ≤ 47) (hu : 0 ≤ u ∧ u ≤ 47) : ∀ (km : Nat) (i : Int), m 316 14 - i = km → 0 ≤ i ∧ i ≤ m 316 14 → YW (gZ L xs) 179 d 2 [some (.ref 8), some (yI v), some (yI u), some (yI i)] [] m nn (qP m nn (fun r => r = 0 ∨ r = 1)) := by
  intro km
  induction km using Nat.strongRecOn with
  | ind km ih =>
    intro i hk hi
    have tb := hT.atp 316 14 0 12 rfl
    refine y_iload 3 c179_2 rfl rfl ?_
    refine y_aload 4 c179_3 rfl rfl rfl ?_
    refine y_getS 7 (B := 316) c179_4 rfl kf8_4 (by first | rfl | (rw [show m 8 4 = 1 from by have e : m 8 4 = m 8 4 := rfl; omega]; rfl)) ?_
    refine y_getX 10 (m 316 14) c179_7 rfl kf316_14 rfl ?_
    refine y_icmp 45 13 c179_10 rfl rfl (yc_ge (by omega) (by omega)) (fun hb5584 => ?_) (fun hb5584 => ?_)
    · refine y_iconst 46 c179_45 rfl ?_
      exact y_retP c179_46 (y_fit1 (by omega)) (by omega)
    · refine y_aload 14 c179_13 rfl rfl rfl ?_
      refine y_getR 17 c179_14 rfl kf8_0 ?_
      refine y_iload 18 c179_17 rfl rfl ?_
      refine y_aaload 19 c179_18 rfl kr9 (by omega) ?_
      refine y_iload 20 c179_19 rfl rfl ?_
      refine y_iaT 21 ((-2147483648)) 2147483647 c179_20 rfl (fa10 (by omega)) (by omega) hT (fz10 (by omega)) (fun v5585 hv5585 gv5585 => ?_)
      refine y_iconst 22 c179_21 rfl ?_
      refine y_icmp 39 25 c179_22 rfl rfl (yc_eq (by omega) (by omega)) (fun hb5586 => ?_) (fun hb5586 => ?_)
      · refine y_iinc 42 c179_39 rfl rfl rfl ?_
        refine y_goto 2 c179_42 rfl ?_
        exact ih (m 316 14 - (i + 1) : Int).toNat (by omega) (i + 1)   (by omega) (by omega)
      · refine y_aload 26 c179_25 rfl rfl rfl ?_
        refine y_getR 29 c179_26 rfl kf8_0 ?_
        refine y_iload 30 c179_29 rfl rfl ?_
        refine y_aaload 31 c179_30 rfl kr9 (by omega) ?_
        refine y_iload 32 c179_31 rfl rfl ?_
        refine y_iaT 33 ((-2147483648)) 2147483647 c179_32 rfl (fa10 (by omega)) (by omega) hT (fz10 (by omega)) (fun v5587 hv5587 gv5587 => ?_)
        refine y_iconst 34 c179_33 rfl ?_
        refine y_icmp 39 37 c179_34 rfl rfl (yc_eq (by omega) (by omega)) (fun hb5588 => ?_) (fun hb5588 => ?_)
        · refine y_iinc 42 c179_39 rfl rfl rfl ?_
          refine y_goto 2 c179_42 rfl ?_
          exact ih (m 316 14 - (i + 1) : Int).toNat (by omega) (i + 1)   (by omega) (by omega)
        · refine y_iconst 38 c179_37 rfl ?_
          exact y_retP c179_38 (y_fit1 (by omega)) (by omega)
set_option maxRecDepth 100000 in
theorem t179_316 {L : Nat} {xs : Nat → Int32} {d nn : Nat} {m : yM} {v u : Int} (hT : Ty gT m) (hp : m 8 4 = 1) (hv : 0 ≤ v ∧ v ≤ 47) (hu : 0 ≤ u ∧ u ≤ 47) : YC (gZ L xs) d 179 [.ref 8, yI v, yI u] m nn (qP m nn (fun r => r = 0 ∨ r = 1)) := by
  refine YC.mkB [some (.ref 8), some (yI v), some (yI u), none] kn179 rfl rfl ?_
  refine y_iconst 1 c179_0 rfl ?_
  refine y_istore 2 c179_1 rfl rfl ?_
  have tb := hT.atp 316 14 0 12 rfl
  exact t179a_316 hT hp hv hu (m 316 14 - 0).toNat 0 (by omega) (by omega)
set_option maxRecDepth 100000 in
theorem t159_316 {L : Nat} {xs : Nat → Int32} {d nn : Nat} {m : yM} {a : Int} (ra : -2147483648 ≤ a ∧ a < 2147483648) {b : Int} (rb : -2147483648 ≤ b ∧ b < 2147483648) (hC : CI 316 266 1 m) : YC (gZ L xs) (d + 3) 159 [.ref 0, yI a, yI b, .ref 413] m nn (qW nn m) := by
  have hC0 := hC
  obtain ⟨hT, h04, h05, hS, hM2, h84⟩ := hC
  have hM : MP 326 m := hS.2.2.2.1
  have tb9 := hT.atp 316 9 0 6 rfl
  have tb10 := hT.atp 316 10 0 10 rfl
  have tb11 := hT.atp 316 11 0 8 rfl
  have tb12 := hT.atp 316 12 0 12 rfl
  have tb13 := hT.atp 316 13 0 8 rfl
  have tb14 := hT.atp 316 14 0 12 rfl
  have tb15 := hT.atp 316 15 0 48 rfl
  have tb16 := hT.atp 316 16 0 40 rfl
  refine YC.mkB [some (.ref 0), some (yI a), some (yI b), some (.ref 413), none] kn159 rfl rfl ?_
  have hF : Fr wCl m m := Fr.rf
  refine y_aload 1 c159_0 rfl rfl rfl ?_
  refine y_iconst 2 c159_1 rfl ?_
  refine y_aload 3 c159_2 rfl rfl rfl ?_
  refine y_iload 4 c159_3 rfl rfl ?_
  refine y_iload 5 c159_4 rfl rfl ?_
  refine y_inlB 8 [.ref 0, yI a, yI b] [yI 0, .ref 413] [some (.ref 0), some (yI a), some (yI b)] c159_5 rfl rfl rfl rfl rfl (ycanO km158 ko0) kn158 rfl rfl ?_
  refine y_aload 1 c158_0 rfl rfl rfl ?_
  refine y_iload 2 c158_1 rfl rfl ?_
  refine y_inlB 5 [.ref 0, yI a] [] [some (.ref 0), some (yI a)] c158_2 rfl rfl rfl rfl rfl (ycanO km156 ko0) kn156 rfl rfl ?_
  refine y_iload 1 c156_0 rfl rfl ?_
  refine y_aload 2 c156_1 rfl rfl rfl ?_
  refine y_getS 5 (B := 316) c156_2 rfl kf0_4 (by first | rfl | (rw [show m 0 4 = 1 from by have e : m 0 4 = m 0 4 := rfl; omega]; rfl)) ?_
  refine y_getX 8 (m 316 15) c156_5 rfl kf316_15 rfl ?_
  refine y_inlB 11 [yI a, yI (m 316 15)] [] [some (yI a), some (yI (m 316 15))] c156_8 rfl rfl rfl rfl rfl (ycanS km155) kn155 rfl rfl ?_
  refine y_iload 1 c155_0 rfl rfl ?_
  refine y_if 13 4 c155_1 rfl rfl (yz_lt (by omega)) (fun hb5589 => ?_) (fun hb5589 => ?_)
  · refine y_iconst 14 c155_13 rfl ?_
    refine y_ireturnK c155_14 (y_fit1 (by omega)) ?_
    refine y_ireturnK c156_11 (y_fit1 (by omega)) ?_
    refine y_if 16 8 c158_5 rfl rfl (yz_eq (by omega)) (fun hb5590 => ?_) (fun hb5590 => ?_)
    · refine y_throwB c158_16 rfl ?_
      refine yK_in kh159_5_11 ?_
      refine y_astore 15 c159_13 rfl rfl rfl ?_
      refine y_iconst 16 c159_15 rfl ?_
      exact y_ireturn c159_16 (y_fit0 _) ⟨_, rfl, by omega, Or.inr rfl, hF, Or.inr hC0⟩
    · exfalso; omega
  · refine y_iload 5 c155_4 rfl rfl ?_
    refine y_iload 6 c155_5 rfl rfl ?_
    refine y_icmp 13 9 c155_6 rfl rfl (yc_ge (by omega) (by omega)) (fun hb5591 => ?_) (fun hb5591 => ?_)
    · refine y_iconst 14 c155_13 rfl ?_
      refine y_ireturnK c155_14 (y_fit1 (by omega)) ?_
      refine y_ireturnK c156_11 (y_fit1 (by omega)) ?_
      refine y_if 16 8 c158_5 rfl rfl (yz_eq (by omega)) (fun hb5592 => ?_) (fun hb5592 => ?_)
      · refine y_throwB c158_16 rfl ?_
        refine yK_in kh159_5_11 ?_
        refine y_astore 15 c159_13 rfl rfl rfl ?_
        refine y_iconst 16 c159_15 rfl ?_
        exact y_ireturn c159_16 (y_fit0 _) ⟨_, rfl, by omega, Or.inr rfl, hF, Or.inr hC0⟩
      · exfalso; omega
    · refine y_iconst 10 c155_9 rfl ?_
      refine y_goto 14 c155_10 rfl ?_
      refine y_ireturnK c155_14 (y_fit1 (by omega)) ?_
      refine y_ireturnK c156_11 (y_fit1 (by omega)) ?_
      refine y_if 16 8 c158_5 rfl rfl (yz_eq (by omega)) (fun hb5593 => ?_) (fun hb5593 => ?_)
      · exfalso; omega
      · refine y_aload 9 c158_8 rfl rfl rfl ?_
        refine y_iload 10 c158_9 rfl rfl ?_
        refine y_inlB 13 [.ref 0, yI b] [] [some (.ref 0), some (yI b)] c158_10 rfl rfl rfl rfl rfl (ycanO km157 ko0) kn157 rfl rfl ?_
        refine y_iload 1 c157_0 rfl rfl ?_
        refine y_aload 2 c157_1 rfl rfl rfl ?_
        refine y_getS 5 (B := 316) c157_2 rfl kf0_4 (by first | rfl | (rw [show m 0 4 = 1 from by have e : m 0 4 = m 0 4 := rfl; omega]; rfl)) ?_
        refine y_getX 8 (m 316 14) c157_5 rfl kf316_14 rfl ?_
        refine y_inlB 11 [yI b, yI (m 316 14)] [] [some (yI b), some (yI (m 316 14))] c157_8 rfl rfl rfl rfl rfl (ycanS km155) kn155 rfl rfl ?_
        refine y_iload 1 c155_0 rfl rfl ?_
        refine y_if 13 4 c155_1 rfl rfl (yz_lt (by omega)) (fun hb5594 => ?_) (fun hb5594 => ?_)
        · refine y_iconst 14 c155_13 rfl ?_
          refine y_ireturnK c155_14 (y_fit1 (by omega)) ?_
          refine y_ireturnK c157_11 (y_fit1 (by omega)) ?_
          refine y_if 24 16 c158_13 rfl rfl (yz_ne (by omega)) (fun hb5595 => ?_) (fun hb5595 => ?_)
          · exfalso; omega
          · refine y_throwB c158_16 rfl ?_
            refine yK_in kh159_5_11 ?_
            refine y_astore 15 c159_13 rfl rfl rfl ?_
            refine y_iconst 16 c159_15 rfl ?_
            exact y_ireturn c159_16 (y_fit0 _) ⟨_, rfl, by omega, Or.inr rfl, hF, Or.inr hC0⟩
        · refine y_iload 5 c155_4 rfl rfl ?_
          refine y_iload 6 c155_5 rfl rfl ?_
          refine y_icmp 13 9 c155_6 rfl rfl (yc_ge (by omega) (by omega)) (fun hb5596 => ?_) (fun hb5596 => ?_)
          · refine y_iconst 14 c155_13 rfl ?_
            refine y_ireturnK c155_14 (y_fit1 (by omega)) ?_
            refine y_ireturnK c157_11 (y_fit1 (by omega)) ?_
            refine y_if 24 16 c158_13 rfl rfl (yz_ne (by omega)) (fun hb5597 => ?_) (fun hb5597 => ?_)
            · exfalso; omega
            · refine y_throwB c158_16 rfl ?_
              refine yK_in kh159_5_11 ?_
              refine y_astore 15 c159_13 rfl rfl rfl ?_
              refine y_iconst 16 c159_15 rfl ?_
              exact y_ireturn c159_16 (y_fit0 _) ⟨_, rfl, by omega, Or.inr rfl, hF, Or.inr hC0⟩
          · refine y_iconst 10 c155_9 rfl ?_
            refine y_goto 14 c155_10 rfl ?_
            refine y_ireturnK c155_14 (y_fit1 (by omega)) ?_
            refine y_ireturnK c157_11 (y_fit1 (by omega)) ?_
            refine y_if 24 16 c158_13 rfl rfl (yz_ne (by omega)) (fun hb5598 => ?_) (fun hb5598 => ?_)
            · refine y_aload 25 c158_24 rfl rfl rfl ?_
              refine y_getR 28 c158_25 rfl kf0_2 ?_
              refine y_getR 31 c158_28 rfl kf8_0 ?_
              refine y_iload 32 c158_31 rfl rfl ?_
              refine y_aaload 33 c158_32 rfl kr9 (by omega) ?_
              refine y_iload 34 c158_33 rfl rfl ?_
              refine y_iaT 35 ((-2147483648)) 2147483647 c158_34 rfl (fa10 (by omega)) (by omega) hT (fz10 (by omega)) (fun v5599 hv5599 gv5599 => ?_)
              refine y_ireturnK c158_35 (y_fit0 _) ?_
              refine y_i2l 9 c159_8 rfl ?_
              refine y_lastoreN 10 v5599 c159_9 rfl kl413 (by decide) (by rw [Int32.toInt_toInt64, y_rng (by omega)]) ?_
              have hT5600 := hT.up 413 ((0 : Int).toNat) v5599 ((-2147483648)) 2147483647 rfl (by omega)
              have hF5601 := hF.up 413 ((0 : Int).toNat) v5599 rfl
              refine y_goto 17 c159_10 rfl ?_
              refine y_iconst 18 c159_17 rfl ?_
              exact y_ireturn c159_18 (y_fit0 _) ⟨_, rfl, by omega, Or.inl rfl, hF5601, Or.inr (CI.fr hC0 (by omega) (by omega) (by omega) hT5600 (fun a q ha => (yup_na (by omega))))⟩
            · exfalso; omega
set_option maxRecDepth 100000 in
theorem t165_316 {L : Nat} {xs : Nat → Int32} {d nn : Nat} {m : yM} {a : Int} (ra : -2147483648 ≤ a ∧ a < 2147483648) {b : Int} (rb : -2147483648 ≤ b ∧ b < 2147483648) {c : Int} (rc : -2147483648 ≤ c ∧ c < 2147483648) (hC : CI 316 266 1 m) : YC (gZ L xs) (d + 3) 165 [.ref 0, yI a, yI b, yI c, .ref 413] m nn (qW nn m) := by
  have hC0 := hC
  obtain ⟨hT, h04, h05, hS, hM2, h84⟩ := hC
  have hM : MP 326 m := hS.2.2.2.1
  have tb9 := hT.atp 316 9 0 6 rfl
  have tb10 := hT.atp 316 10 0 10 rfl
  have tb11 := hT.atp 316 11 0 8 rfl
  have tb12 := hT.atp 316 12 0 12 rfl
  have tb13 := hT.atp 316 13 0 8 rfl
  have tb14 := hT.atp 316 14 0 12 rfl
  have tb15 := hT.atp 316 15 0 48 rfl
  have tb16 := hT.atp 316 16 0 40 rfl
  refine YC.mkB [some (.ref 0), some (yI a), some (yI b), some (yI c), some (.ref 413), none] kn165 rfl rfl ?_
  have hF : Fr wCl m m := Fr.rf
  refine y_aload 2 c165_0 rfl rfl rfl ?_
  refine y_iconst 3 c165_2 rfl ?_
  refine y_aload 4 c165_3 rfl rfl rfl ?_
  refine y_iload 5 c165_4 rfl rfl ?_
  refine y_iload 6 c165_5 rfl rfl ?_
  refine y_iload 7 c165_6 rfl rfl ?_
  refine y_inlB 10 [.ref 0, yI a, yI b, yI c] [yI 0, .ref 413] [some (.ref 0), some (yI a), some (yI b), some (yI c)] c165_7 rfl rfl rfl rfl rfl (ycanO km164 ko0) kn164 rfl rfl ?_
  refine y_aload 1 c164_0 rfl rfl rfl ?_
  refine y_iload 2 c164_1 rfl rfl ?_
  refine y_inlB 5 [.ref 0, yI a] [] [some (.ref 0), some (yI a)] c164_2 rfl rfl rfl rfl rfl (ycanO km157 ko0) kn157 rfl rfl ?_
  refine y_iload 1 c157_0 rfl rfl ?_
  refine y_aload 2 c157_1 rfl rfl rfl ?_
  refine y_getS 5 (B := 316) c157_2 rfl kf0_4 (by first | rfl | (rw [show m 0 4 = 1 from by have e : m 0 4 = m 0 4 := rfl; omega]; rfl)) ?_
  refine y_getX 8 (m 316 14) c157_5 rfl kf316_14 rfl ?_
  refine y_inlB 11 [yI a, yI (m 316 14)] [] [some (yI a), some (yI (m 316 14))] c157_8 rfl rfl rfl rfl rfl (ycanS km155) kn155 rfl rfl ?_
  refine y_iload 1 c155_0 rfl rfl ?_
  refine y_if 13 4 c155_1 rfl rfl (yz_lt (by omega)) (fun hb5602 => ?_) (fun hb5602 => ?_)
  · refine y_iconst 14 c155_13 rfl ?_
    refine y_ireturnK c155_14 (y_fit1 (by omega)) ?_
    refine y_ireturnK c157_11 (y_fit1 (by omega)) ?_
    refine y_if 30 8 c164_5 rfl rfl (yz_eq (by omega)) (fun hb5603 => ?_) (fun hb5603 => ?_)
    · refine y_throwB c164_30 rfl ?_
      refine yK_in kh165_7_11 ?_
      refine y_astore 17 c165_15 rfl rfl rfl ?_
      refine y_iconst 18 c165_17 rfl ?_
      exact y_ireturn c165_18 (y_fit0 _) ⟨_, rfl, by omega, Or.inr rfl, hF, Or.inr hC0⟩
    · exfalso; omega
  · refine y_iload 5 c155_4 rfl rfl ?_
    refine y_iload 6 c155_5 rfl rfl ?_
    refine y_icmp 13 9 c155_6 rfl rfl (yc_ge (by omega) (by omega)) (fun hb5604 => ?_) (fun hb5604 => ?_)
    · refine y_iconst 14 c155_13 rfl ?_
      refine y_ireturnK c155_14 (y_fit1 (by omega)) ?_
      refine y_ireturnK c157_11 (y_fit1 (by omega)) ?_
      refine y_if 30 8 c164_5 rfl rfl (yz_eq (by omega)) (fun hb5605 => ?_) (fun hb5605 => ?_)
      · refine y_throwB c164_30 rfl ?_
        refine yK_in kh165_7_11 ?_
        refine y_astore 17 c165_15 rfl rfl rfl ?_
        refine y_iconst 18 c165_17 rfl ?_
        exact y_ireturn c165_18 (y_fit0 _) ⟨_, rfl, by omega, Or.inr rfl, hF, Or.inr hC0⟩
      · exfalso; omega
    · refine y_iconst 10 c155_9 rfl ?_
      refine y_goto 14 c155_10 rfl ?_
      refine y_ireturnK c155_14 (y_fit1 (by omega)) ?_
      refine y_ireturnK c157_11 (y_fit1 (by omega)) ?_
      refine y_if 30 8 c164_5 rfl rfl (yz_eq (by omega)) (fun hb5606 => ?_) (fun hb5606 => ?_)
      · exfalso; omega
      · refine y_iload 9 c164_8 rfl rfl ?_
        refine y_aload 10 c164_9 rfl rfl rfl ?_
        refine y_getS 13 (B := 316) c164_10 rfl kf0_4 (by first | rfl | (rw [show m 0 4 = 1 from by have e : m 0 4 = m 0 4 := rfl; omega]; rfl)) ?_
        refine y_getX 16 (m 316 11) c164_13 rfl kf316_11 rfl ?_
        refine y_inlB 19 [yI b, yI (m 316 11)] [] [some (yI b), some (yI (m 316 11))] c164_16 rfl rfl rfl rfl rfl (ycanS km155) kn155 rfl rfl ?_
        refine y_iload 1 c155_0 rfl rfl ?_
        refine y_if 13 4 c155_1 rfl rfl (yz_lt (by omega)) (fun hb5607 => ?_) (fun hb5607 => ?_)
        · refine y_iconst 14 c155_13 rfl ?_
          refine y_ireturnK c155_14 (y_fit1 (by omega)) ?_
          refine y_if 30 22 c164_19 rfl rfl (yz_eq (by omega)) (fun hb5608 => ?_) (fun hb5608 => ?_)
          · refine y_throwB c164_30 rfl ?_
            refine yK_in kh165_7_11 ?_
            refine y_astore 17 c165_15 rfl rfl rfl ?_
            refine y_iconst 18 c165_17 rfl ?_
            exact y_ireturn c165_18 (y_fit0 _) ⟨_, rfl, by omega, Or.inr rfl, hF, Or.inr hC0⟩
          · exfalso; omega
        · refine y_iload 5 c155_4 rfl rfl ?_
          refine y_iload 6 c155_5 rfl rfl ?_
          refine y_icmp 13 9 c155_6 rfl rfl (yc_ge (by omega) (by omega)) (fun hb5609 => ?_) (fun hb5609 => ?_)
          · refine y_iconst 14 c155_13 rfl ?_
            refine y_ireturnK c155_14 (y_fit1 (by omega)) ?_
            refine y_if 30 22 c164_19 rfl rfl (yz_eq (by omega)) (fun hb5610 => ?_) (fun hb5610 => ?_)
            · refine y_throwB c164_30 rfl ?_
              refine yK_in kh165_7_11 ?_
              refine y_astore 17 c165_15 rfl rfl rfl ?_
              refine y_iconst 18 c165_17 rfl ?_
              exact y_ireturn c165_18 (y_fit0 _) ⟨_, rfl, by omega, Or.inr rfl, hF, Or.inr hC0⟩
            · exfalso; omega
          · refine y_iconst 10 c155_9 rfl ?_
            refine y_goto 14 c155_10 rfl ?_
            refine y_ireturnK c155_14 (y_fit1 (by omega)) ?_
            refine y_if 30 22 c164_19 rfl rfl (yz_eq (by omega)) (fun hb5611 => ?_) (fun hb5611 => ?_)
            · exfalso; omega
            · refine y_aload 23 c164_22 rfl rfl rfl ?_
              refine y_iload 24 c164_23 rfl rfl ?_
              refine y_inlB 27 [.ref 0, yI c] [] [some (.ref 0), some (yI c)] c164_24 rfl rfl rfl rfl rfl (ycanO km157 ko0) kn157 rfl rfl ?_
              refine y_iload 1 c157_0 rfl rfl ?_
              refine y_aload 2 c157_1 rfl rfl rfl ?_
              refine y_getS 5 (B := 316) c157_2 rfl kf0_4 (by first | rfl | (rw [show m 0 4 = 1 from by have e : m 0 4 = m 0 4 := rfl; omega]; rfl)) ?_
              refine y_getX 8 (m 316 14) c157_5 rfl kf316_14 rfl ?_
              refine y_inlB 11 [yI c, yI (m 316 14)] [] [some (yI c), some (yI (m 316 14))] c157_8 rfl rfl rfl rfl rfl (ycanS km155) kn155 rfl rfl ?_
              refine y_iload 1 c155_0 rfl rfl ?_
              refine y_if 13 4 c155_1 rfl rfl (yz_lt (by omega)) (fun hb5612 => ?_) (fun hb5612 => ?_)
              · refine y_iconst 14 c155_13 rfl ?_
                refine y_ireturnK c155_14 (y_fit1 (by omega)) ?_
                refine y_ireturnK c157_11 (y_fit1 (by omega)) ?_
                refine y_if 38 30 c164_27 rfl rfl (yz_ne (by omega)) (fun hb5613 => ?_) (fun hb5613 => ?_)
                · exfalso; omega
                · refine y_throwB c164_30 rfl ?_
                  refine yK_in kh165_7_11 ?_
                  refine y_astore 17 c165_15 rfl rfl rfl ?_
                  refine y_iconst 18 c165_17 rfl ?_
                  exact y_ireturn c165_18 (y_fit0 _) ⟨_, rfl, by omega, Or.inr rfl, hF, Or.inr hC0⟩
              · refine y_iload 5 c155_4 rfl rfl ?_
                refine y_iload 6 c155_5 rfl rfl ?_
                refine y_icmp 13 9 c155_6 rfl rfl (yc_ge (by omega) (by omega)) (fun hb5614 => ?_) (fun hb5614 => ?_)
                · refine y_iconst 14 c155_13 rfl ?_
                  refine y_ireturnK c155_14 (y_fit1 (by omega)) ?_
                  refine y_ireturnK c157_11 (y_fit1 (by omega)) ?_
                  refine y_if 38 30 c164_27 rfl rfl (yz_ne (by omega)) (fun hb5615 => ?_) (fun hb5615 => ?_)
                  · exfalso; omega
                  · refine y_throwB c164_30 rfl ?_
                    refine yK_in kh165_7_11 ?_
                    refine y_astore 17 c165_15 rfl rfl rfl ?_
                    refine y_iconst 18 c165_17 rfl ?_
                    exact y_ireturn c165_18 (y_fit0 _) ⟨_, rfl, by omega, Or.inr rfl, hF, Or.inr hC0⟩
                · refine y_iconst 10 c155_9 rfl ?_
                  refine y_goto 14 c155_10 rfl ?_
                  refine y_ireturnK c155_14 (y_fit1 (by omega)) ?_
                  refine y_ireturnK c157_11 (y_fit1 (by omega)) ?_
                  refine y_if 38 30 c164_27 rfl rfl (yz_ne (by omega)) (fun hb5616 => ?_) (fun hb5616 => ?_)
                  · refine y_aload 39 c164_38 rfl rfl rfl ?_
                    refine y_getR 42 c164_39 rfl kf0_2 ?_
                    refine y_iload 43 c164_42 rfl rfl ?_
                    refine y_iload 44 c164_43 rfl rfl ?_
                    refine y_callAB 47 [.ref 8, yI a, yI b] [] c164_44 rfl rfl rfl rfl rfl (ycanO km83 ko8) (t83 (by omega) (by omega)) (fun Rq5617 mq5617 nq5617 hq5617 => ?_)
                    obtain ⟨rfl, rfl, hmq5617⟩ := hq5617
                    obtain rfl := hmq5617.symm
                    refine y_iload 48 c164_47 rfl rfl ?_
                    refine y_iaT 49 ((-2147483648)) 2147483647 c164_48 rfl (fa73 (by omega)) (by omega) hT (fz73 (by omega)) (fun v5618 hv5618 gv5618 => ?_)
                    refine y_ireturnK c164_49 (y_fit0 _) ?_
                    refine y_i2l 11 c165_10 rfl ?_
                    refine y_lastoreN 12 v5618 c165_11 rfl kl413 (by decide) (by rw [Int32.toInt_toInt64, y_rng (by omega)]) ?_
                    have hT5619 := hT.up 413 ((0 : Int).toNat) v5618 ((-2147483648)) 2147483647 rfl (by omega)
                    have hF5620 := hF.up 413 ((0 : Int).toNat) v5618 rfl
                    refine y_goto 19 c165_12 rfl ?_
                    refine y_iconst 20 c165_19 rfl ?_
                    exact y_ireturn c165_20 (y_fit0 _) ⟨_, rfl, by omega, Or.inl rfl, hF5620, Or.inr (CI.fr hC0 (by omega) (by omega) (by omega) hT5619 (fun a q ha => (yup_na (by omega))))⟩
                  · exfalso; omega
set_option maxRecDepth 100000 in
theorem t169_316 {L : Nat} {xs : Nat → Int32} {d nn : Nat} {m : yM} {a : Int} (ra : -2147483648 ≤ a ∧ a < 2147483648) {b : Int} (rb : -2147483648 ≤ b ∧ b < 2147483648) (hC : CI 316 266 1 m) : YC (gZ L xs) (d + 3) 169 [.ref 0, yI a, yI b, .ref 413] m nn (qW nn m) := by
  have hC0 := hC
  obtain ⟨hT, h04, h05, hS, hM2, h84⟩ := hC
  have hM : MP 326 m := hS.2.2.2.1
  have tb9 := hT.atp 316 9 0 6 rfl
  have tb10 := hT.atp 316 10 0 10 rfl
  have tb11 := hT.atp 316 11 0 8 rfl
  have tb12 := hT.atp 316 12 0 12 rfl
  have tb13 := hT.atp 316 13 0 8 rfl
  have tb14 := hT.atp 316 14 0 12 rfl
  have tb15 := hT.atp 316 15 0 48 rfl
  have tb16 := hT.atp 316 16 0 40 rfl
  refine YC.mkB [some (.ref 0), some (yI a), some (yI b), some (.ref 413), none] kn169 rfl rfl ?_
  have hF : Fr wCl m m := Fr.rf
  refine y_aload 1 c169_0 rfl rfl rfl ?_
  refine y_iconst 2 c169_1 rfl ?_
  refine y_aload 3 c169_2 rfl rfl rfl ?_
  refine y_iload 4 c169_3 rfl rfl ?_
  refine y_iload 5 c169_4 rfl rfl ?_
  refine y_inlB 8 [.ref 0, yI a, yI b] [yI 0, .ref 413] [some (.ref 0), some (yI a), some (yI b)] c169_5 rfl rfl rfl rfl rfl (ycanO km168 ko0) kn168 rfl rfl ?_
  refine y_iload 1 c168_0 rfl rfl ?_
  refine y_aload 2 c168_1 rfl rfl rfl ?_
  refine y_getS 5 (B := 316) c168_2 rfl kf0_4 (by first | rfl | (rw [show m 0 4 = 1 from by have e : m 0 4 = m 0 4 := rfl; omega]; rfl)) ?_
  refine y_getX 8 (m 316 12) c168_5 rfl kf316_12 rfl ?_
  refine y_inlB 11 [yI a, yI (m 316 12)] [] [some (yI a), some (yI (m 316 12))] c168_8 rfl rfl rfl rfl rfl (ycanS km155) kn155 rfl rfl ?_
  refine y_iload 1 c155_0 rfl rfl ?_
  refine y_if 13 4 c155_1 rfl rfl (yz_lt (by omega)) (fun hb5621 => ?_) (fun hb5621 => ?_)
  · refine y_iconst 14 c155_13 rfl ?_
    refine y_ireturnK c155_14 (y_fit1 (by omega)) ?_
    refine y_if 22 14 c168_11 rfl rfl (yz_eq (by omega)) (fun hb5622 => ?_) (fun hb5622 => ?_)
    · refine y_throwB c168_22 rfl ?_
      refine yK_in kh169_5_11 ?_
      refine y_astore 15 c169_13 rfl rfl rfl ?_
      refine y_iconst 16 c169_15 rfl ?_
      exact y_ireturn c169_16 (y_fit0 _) ⟨_, rfl, by omega, Or.inr rfl, hF, Or.inr hC0⟩
    · exfalso; omega
  · refine y_iload 5 c155_4 rfl rfl ?_
    refine y_iload 6 c155_5 rfl rfl ?_
    refine y_icmp 13 9 c155_6 rfl rfl (yc_ge (by omega) (by omega)) (fun hb5623 => ?_) (fun hb5623 => ?_)
    · refine y_iconst 14 c155_13 rfl ?_
      refine y_ireturnK c155_14 (y_fit1 (by omega)) ?_
      refine y_if 22 14 c168_11 rfl rfl (yz_eq (by omega)) (fun hb5624 => ?_) (fun hb5624 => ?_)
      · refine y_throwB c168_22 rfl ?_
        refine yK_in kh169_5_11 ?_
        refine y_astore 15 c169_13 rfl rfl rfl ?_
        refine y_iconst 16 c169_15 rfl ?_
        exact y_ireturn c169_16 (y_fit0 _) ⟨_, rfl, by omega, Or.inr rfl, hF, Or.inr hC0⟩
      · exfalso; omega
    · refine y_iconst 10 c155_9 rfl ?_
      refine y_goto 14 c155_10 rfl ?_
      refine y_ireturnK c155_14 (y_fit1 (by omega)) ?_
      refine y_if 22 14 c168_11 rfl rfl (yz_eq (by omega)) (fun hb5625 => ?_) (fun hb5625 => ?_)
      · exfalso; omega
      · refine y_aload 15 c168_14 rfl rfl rfl ?_
        refine y_iload 16 c168_15 rfl rfl ?_
        refine y_inlB 19 [.ref 0, yI b] [] [some (.ref 0), some (yI b)] c168_16 rfl rfl rfl rfl rfl (ycanO km167 ko0) kn167 rfl rfl ?_
        refine y_iload 1 c167_0 rfl rfl ?_
        refine y_aload 2 c167_1 rfl rfl rfl ?_
        refine y_getS 5 (B := 316) c167_2 rfl kf0_4 (by first | rfl | (rw [show m 0 4 = 1 from by have e : m 0 4 = m 0 4 := rfl; omega]; rfl)) ?_
        refine y_getX 8 (m 316 10) c167_5 rfl kf316_10 rfl ?_
        refine y_inlB 11 [yI b, yI (m 316 10)] [] [some (yI b), some (yI (m 316 10))] c167_8 rfl rfl rfl rfl rfl (ycanS km155) kn155 rfl rfl ?_
        refine y_iload 1 c155_0 rfl rfl ?_
        refine y_if 13 4 c155_1 rfl rfl (yz_lt (by omega)) (fun hb5626 => ?_) (fun hb5626 => ?_)
        · refine y_iconst 14 c155_13 rfl ?_
          refine y_ireturnK c155_14 (y_fit1 (by omega)) ?_
          refine y_ireturnK c167_11 (y_fit1 (by omega)) ?_
          refine y_if 30 22 c168_19 rfl rfl (yz_ne (by omega)) (fun hb5627 => ?_) (fun hb5627 => ?_)
          · exfalso; omega
          · refine y_throwB c168_22 rfl ?_
            refine yK_in kh169_5_11 ?_
            refine y_astore 15 c169_13 rfl rfl rfl ?_
            refine y_iconst 16 c169_15 rfl ?_
            exact y_ireturn c169_16 (y_fit0 _) ⟨_, rfl, by omega, Or.inr rfl, hF, Or.inr hC0⟩
        · refine y_iload 5 c155_4 rfl rfl ?_
          refine y_iload 6 c155_5 rfl rfl ?_
          refine y_icmp 13 9 c155_6 rfl rfl (yc_ge (by omega) (by omega)) (fun hb5628 => ?_) (fun hb5628 => ?_)
          · refine y_iconst 14 c155_13 rfl ?_
            refine y_ireturnK c155_14 (y_fit1 (by omega)) ?_
            refine y_ireturnK c167_11 (y_fit1 (by omega)) ?_
            refine y_if 30 22 c168_19 rfl rfl (yz_ne (by omega)) (fun hb5629 => ?_) (fun hb5629 => ?_)
            · exfalso; omega
            · refine y_throwB c168_22 rfl ?_
              refine yK_in kh169_5_11 ?_
              refine y_astore 15 c169_13 rfl rfl rfl ?_
              refine y_iconst 16 c169_15 rfl ?_
              exact y_ireturn c169_16 (y_fit0 _) ⟨_, rfl, by omega, Or.inr rfl, hF, Or.inr hC0⟩
          · refine y_iconst 10 c155_9 rfl ?_
            refine y_goto 14 c155_10 rfl ?_
            refine y_ireturnK c155_14 (y_fit1 (by omega)) ?_
            refine y_ireturnK c167_11 (y_fit1 (by omega)) ?_
            refine y_if 30 22 c168_19 rfl rfl (yz_ne (by omega)) (fun hb5630 => ?_) (fun hb5630 => ?_)
            · refine y_aload 31 c168_30 rfl rfl rfl ?_
              refine y_getR 34 c168_31 rfl kf0_2 ?_
              refine y_getR 37 c168_34 rfl kf8_1 ?_
              refine y_iload 38 c168_37 rfl rfl ?_
              refine y_aaload 39 c168_38 rfl kr58 (by omega) ?_
              refine y_iload 40 c168_39 rfl rfl ?_
              refine y_iaT 41 ((-2147483648)) 2147483647 c168_40 rfl (fa59 (by omega)) (by omega) hT (fz59 (by omega)) (fun v5631 hv5631 gv5631 => ?_)
              refine y_ireturnK c168_41 (y_fit0 _) ?_
              refine y_i2l 9 c169_8 rfl ?_
              refine y_lastoreN 10 v5631 c169_9 rfl kl413 (by decide) (by rw [Int32.toInt_toInt64, y_rng (by omega)]) ?_
              have hT5632 := hT.up 413 ((0 : Int).toNat) v5631 ((-2147483648)) 2147483647 rfl (by omega)
              have hF5633 := hF.up 413 ((0 : Int).toNat) v5631 rfl
              refine y_goto 17 c169_10 rfl ?_
              refine y_iconst 18 c169_17 rfl ?_
              exact y_ireturn c169_18 (y_fit0 _) ⟨_, rfl, by omega, Or.inl rfl, hF5633, Or.inr (CI.fr hC0 (by omega) (by omega) (by omega) hT5632 (fun a q ha => (yup_na (by omega))))⟩
            · exfalso; omega
set_option maxRecDepth 100000 in
theorem t173_316 {L : Nat} {xs : Nat → Int32} {d nn : Nat} {m : yM} {a : Int} (ra : -2147483648 ≤ a ∧ a < 2147483648) (hC : CI 316 266 1 m) : YC (gZ L xs) (d + 3) 173 [.ref 0, yI a, .ref 413] m nn (qW nn m) := by
  have hC0 := hC
  obtain ⟨hT, h04, h05, hS, hM2, h84⟩ := hC
  have hM : MP 326 m := hS.2.2.2.1
  have tb9 := hT.atp 316 9 0 6 rfl
  have tb10 := hT.atp 316 10 0 10 rfl
  have tb11 := hT.atp 316 11 0 8 rfl
  have tb12 := hT.atp 316 12 0 12 rfl
  have tb13 := hT.atp 316 13 0 8 rfl
  have tb14 := hT.atp 316 14 0 12 rfl
  have tb15 := hT.atp 316 15 0 48 rfl
  have tb16 := hT.atp 316 16 0 40 rfl
  refine YC.mkB [some (.ref 0), some (yI a), some (.ref 413), none] kn173 rfl rfl ?_
  have hF : Fr wCl m m := Fr.rf
  refine y_aload 1 c173_0 rfl rfl rfl ?_
  refine y_iconst 2 c173_1 rfl ?_
  refine y_aload 3 c173_2 rfl rfl rfl ?_
  refine y_iload 4 c173_3 rfl rfl ?_
  refine y_inlB 7 [.ref 0, yI a] [yI 0, .ref 413] [some (.ref 0), some (yI a)] c173_4 rfl rfl rfl rfl rfl (ycanO km172 ko0) kn172 rfl rfl ?_
  refine y_aload 1 c172_0 rfl rfl rfl ?_
  refine y_iload 2 c172_1 rfl rfl ?_
  refine y_inlB 5 [.ref 0, yI a] [] [some (.ref 0), some (yI a)] c172_2 rfl rfl rfl rfl rfl (ycanO km167 ko0) kn167 rfl rfl ?_
  refine y_iload 1 c167_0 rfl rfl ?_
  refine y_aload 2 c167_1 rfl rfl rfl ?_
  refine y_getS 5 (B := 316) c167_2 rfl kf0_4 (by first | rfl | (rw [show m 0 4 = 1 from by have e : m 0 4 = m 0 4 := rfl; omega]; rfl)) ?_
  refine y_getX 8 (m 316 10) c167_5 rfl kf316_10 rfl ?_
  refine y_inlB 11 [yI a, yI (m 316 10)] [] [some (yI a), some (yI (m 316 10))] c167_8 rfl rfl rfl rfl rfl (ycanS km155) kn155 rfl rfl ?_
  refine y_iload 1 c155_0 rfl rfl ?_
  refine y_if 13 4 c155_1 rfl rfl (yz_lt (by omega)) (fun hb5634 => ?_) (fun hb5634 => ?_)
  · refine y_iconst 14 c155_13 rfl ?_
    refine y_ireturnK c155_14 (y_fit1 (by omega)) ?_
    refine y_ireturnK c167_11 (y_fit1 (by omega)) ?_
    refine y_if 16 8 c172_5 rfl rfl (yz_ne (by omega)) (fun hb5635 => ?_) (fun hb5635 => ?_)
    · exfalso; omega
    · refine y_throwB c172_8 rfl ?_
      refine yK_in kh173_4_11 ?_
      refine y_astore 13 c173_12 rfl rfl rfl ?_
      refine y_iconst 14 c173_13 rfl ?_
      exact y_ireturn c173_14 (y_fit0 _) ⟨_, rfl, by omega, Or.inr rfl, hF, Or.inr hC0⟩
  · refine y_iload 5 c155_4 rfl rfl ?_
    refine y_iload 6 c155_5 rfl rfl ?_
    refine y_icmp 13 9 c155_6 rfl rfl (yc_ge (by omega) (by omega)) (fun hb5636 => ?_) (fun hb5636 => ?_)
    · refine y_iconst 14 c155_13 rfl ?_
      refine y_ireturnK c155_14 (y_fit1 (by omega)) ?_
      refine y_ireturnK c167_11 (y_fit1 (by omega)) ?_
      refine y_if 16 8 c172_5 rfl rfl (yz_ne (by omega)) (fun hb5637 => ?_) (fun hb5637 => ?_)
      · exfalso; omega
      · refine y_throwB c172_8 rfl ?_
        refine yK_in kh173_4_11 ?_
        refine y_astore 13 c173_12 rfl rfl rfl ?_
        refine y_iconst 14 c173_13 rfl ?_
        exact y_ireturn c173_14 (y_fit0 _) ⟨_, rfl, by omega, Or.inr rfl, hF, Or.inr hC0⟩
    · refine y_iconst 10 c155_9 rfl ?_
      refine y_goto 14 c155_10 rfl ?_
      refine y_ireturnK c155_14 (y_fit1 (by omega)) ?_
      refine y_ireturnK c167_11 (y_fit1 (by omega)) ?_
      refine y_if 16 8 c172_5 rfl rfl (yz_ne (by omega)) (fun hb5638 => ?_) (fun hb5638 => ?_)
      · refine y_aload 17 c172_16 rfl rfl rfl ?_
        refine y_getR 20 c172_17 rfl kf0_2 ?_
        refine y_getR 23 c172_20 rfl kf8_2 ?_
        refine y_iload 24 c172_23 rfl rfl ?_
        refine y_iaT 25 ((-2147483648)) 2147483647 c172_24 rfl ka71 (by omega) hT rfl (fun v5639 hv5639 gv5639 => ?_)
        refine y_ireturnK c172_25 (y_fit0 _) ?_
        refine y_i2l 8 c173_7 rfl ?_
        refine y_lastoreN 9 v5639 c173_8 rfl kl413 (by decide) (by rw [Int32.toInt_toInt64, y_rng (by omega)]) ?_
        have hT5640 := hT.up 413 ((0 : Int).toNat) v5639 ((-2147483648)) 2147483647 rfl (by omega)
        have hF5641 := hF.up 413 ((0 : Int).toNat) v5639 rfl
        refine y_goto 15 c173_9 rfl ?_
        refine y_iconst 16 c173_15 rfl ?_
        exact y_ireturn c173_16 (y_fit0 _) ⟨_, rfl, by omega, Or.inl rfl, hF5641, Or.inr (CI.fr hC0 (by omega) (by omega) (by omega) hT5640 (fun a q ha => (yup_na (by omega))))⟩
      · exfalso; omega
set_option maxRecDepth 100000 in
theorem t177_316 {L : Nat} {xs : Nat → Int32} {d nn : Nat} {m : yM} {a : Int} (ra : -2147483648 ≤ a ∧ a < 2147483648) (hC : CI 316 266 1 m) : YC (gZ L xs) (d + 3) 177 [.ref 0, yI a, .ref 413] m nn (qW nn m) := by
  have hC0 := hC
  obtain ⟨hT, h04, h05, hS, hM2, h84⟩ := hC
  have hM : MP 326 m := hS.2.2.2.1
  have tb9 := hT.atp 316 9 0 6 rfl
  have tb10 := hT.atp 316 10 0 10 rfl
  have tb11 := hT.atp 316 11 0 8 rfl
  have tb12 := hT.atp 316 12 0 12 rfl
  have tb13 := hT.atp 316 13 0 8 rfl
  have tb14 := hT.atp 316 14 0 12 rfl
  have tb15 := hT.atp 316 15 0 48 rfl
  have tb16 := hT.atp 316 16 0 40 rfl
  refine YC.mkB [some (.ref 0), some (yI a), some (.ref 413), none] kn177 rfl rfl ?_
  have hF : Fr wCl m m := Fr.rf
  refine y_aload 1 c177_0 rfl rfl rfl ?_
  refine y_iconst 2 c177_1 rfl ?_
  refine y_aload 3 c177_2 rfl rfl rfl ?_
  refine y_iload 4 c177_3 rfl rfl ?_
  refine y_inlB 7 [.ref 0, yI a] [yI 0, .ref 413] [some (.ref 0), some (yI a)] c177_4 rfl rfl rfl rfl rfl (ycanO km176 ko0) kn176 rfl rfl ?_
  refine y_iload 1 c176_0 rfl rfl ?_
  refine y_aload 2 c176_1 rfl rfl rfl ?_
  refine y_getS 5 (B := 316) c176_2 rfl kf0_4 (by first | rfl | (rw [show m 0 4 = 1 from by have e : m 0 4 = m 0 4 := rfl; omega]; rfl)) ?_
  refine y_getX 8 (m 316 13) c176_5 rfl kf316_13 rfl ?_
  refine y_inlB 11 [yI a, yI (m 316 13)] [] [some (yI a), some (yI (m 316 13))] c176_8 rfl rfl rfl rfl rfl (ycanS km155) kn155 rfl rfl ?_
  refine y_iload 1 c155_0 rfl rfl ?_
  refine y_if 13 4 c155_1 rfl rfl (yz_lt (by omega)) (fun hb5642 => ?_) (fun hb5642 => ?_)
  · refine y_iconst 14 c155_13 rfl ?_
    refine y_ireturnK c155_14 (y_fit1 (by omega)) ?_
    refine y_if 22 14 c176_11 rfl rfl (yz_ne (by omega)) (fun hb5643 => ?_) (fun hb5643 => ?_)
    · exfalso; omega
    · refine y_throwB c176_14 rfl ?_
      refine yK_in kh177_4_11 ?_
      refine y_astore 13 c177_12 rfl rfl rfl ?_
      refine y_iconst 14 c177_13 rfl ?_
      exact y_ireturn c177_14 (y_fit0 _) ⟨_, rfl, by omega, Or.inr rfl, hF, Or.inr hC0⟩
  · refine y_iload 5 c155_4 rfl rfl ?_
    refine y_iload 6 c155_5 rfl rfl ?_
    refine y_icmp 13 9 c155_6 rfl rfl (yc_ge (by omega) (by omega)) (fun hb5644 => ?_) (fun hb5644 => ?_)
    · refine y_iconst 14 c155_13 rfl ?_
      refine y_ireturnK c155_14 (y_fit1 (by omega)) ?_
      refine y_if 22 14 c176_11 rfl rfl (yz_ne (by omega)) (fun hb5645 => ?_) (fun hb5645 => ?_)
      · exfalso; omega
      · refine y_throwB c176_14 rfl ?_
        refine yK_in kh177_4_11 ?_
        refine y_astore 13 c177_12 rfl rfl rfl ?_
        refine y_iconst 14 c177_13 rfl ?_
        exact y_ireturn c177_14 (y_fit0 _) ⟨_, rfl, by omega, Or.inr rfl, hF, Or.inr hC0⟩
    · refine y_iconst 10 c155_9 rfl ?_
      refine y_goto 14 c155_10 rfl ?_
      refine y_ireturnK c155_14 (y_fit1 (by omega)) ?_
      refine y_if 22 14 c176_11 rfl rfl (yz_ne (by omega)) (fun hb5646 => ?_) (fun hb5646 => ?_)
      · refine y_aload 23 c176_22 rfl rfl rfl ?_
        refine y_getR 26 c176_23 rfl kf0_2 ?_
        refine y_aload 27 c176_26 rfl rfl rfl ?_
        refine y_getS 30 (B := 316) c176_27 rfl kf0_4 (by first | rfl | (rw [show m 0 4 = 1 from by have e : m 0 4 = m 0 4 := rfl; omega]; rfl)) ?_
        refine y_getR 33 c176_30 rfl kf316_6 ?_
        refine y_aload 34 c176_33 rfl rfl rfl ?_
        refine y_getS 37 (B := 316) c176_34 rfl kf0_4 (by first | rfl | (rw [show m 0 4 = 1 from by have e : m 0 4 = m 0 4 := rfl; omega]; rfl)) ?_
        refine y_getR 40 c176_37 rfl kf316_8 ?_
        refine y_iload 41 c176_40 rfl rfl ?_
        refine y_iaT 42 0 39 c176_41 rfl ka325 (by omega) hT rfl (fun v5647 hv5647 gv5647 => ?_)
        refine y_aaload 43 c176_42 rfl kr323 (by omega) ?_
        obtain ⟨jc, e1, e2, e3, e4⟩ : ∃ j : Nat, m 325 a.toNat = j ∧ (0 : Int) ≤ j ∧ (j : Int) < m 316 16 ∧ m (336 + j) 0 = 7 := hS.1.2.2 a.toNat (by omega) (by omega)
        have hsv : 0 ≤ m (336 + jc) 2 ∧ 0 ≤ m (336 + jc) 3 := (hS.1.1 jc (by omega) (by omega)).1.2.1 (Or.inr (Or.inr (Or.inl e4)))
        have ejc : jc = v5647.toNat := by omega
        subst ejc
        have h3c : 0 ≤ m (336 + v5647.toNat) 3 := hsv.2
        refine y_callP 46 [.ref 8, .ref (336 + v5647.toNat)] [] c176_43 rfl rfl rfl rfl rfl (ycanO km175 ko8) (t175_316 hT (by omega) (by omega) h3c) (fun r5648 hr5648 => ?_)
        refine y_if 53 49 c176_46 rfl rfl (yz_eq (by omega)) (fun hb5649 => ?_) (fun hb5649 => ?_)
        · refine y_iconst 54 c176_53 rfl ?_
          refine y_ireturnK c176_54 (y_fit0 _) ?_
          refine y_i2l 8 c177_7 rfl ?_
          refine y_lastoreN 9 0 c177_8 rfl kl413 (by decide) (by rw [Int32.toInt_toInt64, y_rng (by omega)]) ?_
          have hT5650 := hT.up 413 ((0 : Int).toNat) 0 ((-2147483648)) 2147483647 rfl (by omega)
          have hF5651 := hF.up 413 ((0 : Int).toNat) 0 rfl
          refine y_goto 15 c177_9 rfl ?_
          refine y_iconst 16 c177_15 rfl ?_
          exact y_ireturn c177_16 (y_fit0 _) ⟨_, rfl, by omega, Or.inl rfl, hF5651, Or.inr (CI.fr hC0 (by omega) (by omega) (by omega) hT5650 (fun a q ha => (yup_na (by omega))))⟩
        · refine y_iconst 50 c176_49 rfl ?_
          refine y_goto 54 c176_50 rfl ?_
          refine y_ireturnK c176_54 (y_fit0 _) ?_
          refine y_i2l 8 c177_7 rfl ?_
          refine y_lastoreN 9 1 c177_8 rfl kl413 (by decide) (by rw [Int32.toInt_toInt64, y_rng (by omega)]) ?_
          have hT5652 := hT.up 413 ((0 : Int).toNat) 1 ((-2147483648)) 2147483647 rfl (by omega)
          have hF5653 := hF.up 413 ((0 : Int).toNat) 1 rfl
          refine y_goto 15 c177_9 rfl ?_
          refine y_iconst 16 c177_15 rfl ?_
          exact y_ireturn c177_16 (y_fit0 _) ⟨_, rfl, by omega, Or.inl rfl, hF5653, Or.inr (CI.fr hC0 (by omega) (by omega) (by omega) hT5652 (fun a q ha => (yup_na (by omega))))⟩
      · exfalso; omega
set_option maxRecDepth 100000 in
theorem t181_316 {L : Nat} {xs : Nat → Int32} {d nn : Nat} {m : yM} {a : Int} (ra : -2147483648 ≤ a ∧ a < 2147483648) {b : Int} (rb : -2147483648 ≤ b ∧ b < 2147483648) (hC : CI 316 266 1 m) : YC (gZ L xs) (d + 3) 181 [.ref 0, yI a, yI b, .ref 413] m nn (qW nn m) := by
  have hC0 := hC
  obtain ⟨hT, h04, h05, hS, hM2, h84⟩ := hC
  have hM : MP 326 m := hS.2.2.2.1
  have tb9 := hT.atp 316 9 0 6 rfl
  have tb10 := hT.atp 316 10 0 10 rfl
  have tb11 := hT.atp 316 11 0 8 rfl
  have tb12 := hT.atp 316 12 0 12 rfl
  have tb13 := hT.atp 316 13 0 8 rfl
  have tb14 := hT.atp 316 14 0 12 rfl
  have tb15 := hT.atp 316 15 0 48 rfl
  have tb16 := hT.atp 316 16 0 40 rfl
  refine YC.mkB [some (.ref 0), some (yI a), some (yI b), some (.ref 413), none] kn181 rfl rfl ?_
  have hF : Fr wCl m m := Fr.rf
  refine y_aload 1 c181_0 rfl rfl rfl ?_
  refine y_iconst 2 c181_1 rfl ?_
  refine y_aload 3 c181_2 rfl rfl rfl ?_
  refine y_iload 4 c181_3 rfl rfl ?_
  refine y_iload 5 c181_4 rfl rfl ?_
  refine y_inlB 8 [.ref 0, yI a, yI b] [yI 0, .ref 413] [some (.ref 0), some (yI a), some (yI b)] c181_5 rfl rfl rfl rfl rfl (ycanO km180 ko0) kn180 rfl rfl ?_
  refine y_aload 1 c180_0 rfl rfl rfl ?_
  refine y_iload 2 c180_1 rfl rfl ?_
  refine y_inlB 5 [.ref 0, yI a] [] [some (.ref 0), some (yI a)] c180_2 rfl rfl rfl rfl rfl (ycanO km156 ko0) kn156 rfl rfl ?_
  refine y_iload 1 c156_0 rfl rfl ?_
  refine y_aload 2 c156_1 rfl rfl rfl ?_
  refine y_getS 5 (B := 316) c156_2 rfl kf0_4 (by first | rfl | (rw [show m 0 4 = 1 from by have e : m 0 4 = m 0 4 := rfl; omega]; rfl)) ?_
  refine y_getX 8 (m 316 15) c156_5 rfl kf316_15 rfl ?_
  refine y_inlB 11 [yI a, yI (m 316 15)] [] [some (yI a), some (yI (m 316 15))] c156_8 rfl rfl rfl rfl rfl (ycanS km155) kn155 rfl rfl ?_
  refine y_iload 1 c155_0 rfl rfl ?_
  refine y_if 13 4 c155_1 rfl rfl (yz_lt (by omega)) (fun hb5654 => ?_) (fun hb5654 => ?_)
  · refine y_iconst 14 c155_13 rfl ?_
    refine y_ireturnK c155_14 (y_fit1 (by omega)) ?_
    refine y_ireturnK c156_11 (y_fit1 (by omega)) ?_
    refine y_if 16 8 c180_5 rfl rfl (yz_eq (by omega)) (fun hb5655 => ?_) (fun hb5655 => ?_)
    · refine y_throwB c180_16 rfl ?_
      refine yK_in kh181_5_11 ?_
      refine y_astore 15 c181_13 rfl rfl rfl ?_
      refine y_iconst 16 c181_15 rfl ?_
      exact y_ireturn c181_16 (y_fit0 _) ⟨_, rfl, by omega, Or.inr rfl, hF, Or.inr hC0⟩
    · exfalso; omega
  · refine y_iload 5 c155_4 rfl rfl ?_
    refine y_iload 6 c155_5 rfl rfl ?_
    refine y_icmp 13 9 c155_6 rfl rfl (yc_ge (by omega) (by omega)) (fun hb5656 => ?_) (fun hb5656 => ?_)
    · refine y_iconst 14 c155_13 rfl ?_
      refine y_ireturnK c155_14 (y_fit1 (by omega)) ?_
      refine y_ireturnK c156_11 (y_fit1 (by omega)) ?_
      refine y_if 16 8 c180_5 rfl rfl (yz_eq (by omega)) (fun hb5657 => ?_) (fun hb5657 => ?_)
      · refine y_throwB c180_16 rfl ?_
        refine yK_in kh181_5_11 ?_
        refine y_astore 15 c181_13 rfl rfl rfl ?_
        refine y_iconst 16 c181_15 rfl ?_
        exact y_ireturn c181_16 (y_fit0 _) ⟨_, rfl, by omega, Or.inr rfl, hF, Or.inr hC0⟩
      · exfalso; omega
    · refine y_iconst 10 c155_9 rfl ?_
      refine y_goto 14 c155_10 rfl ?_
      refine y_ireturnK c155_14 (y_fit1 (by omega)) ?_
      refine y_ireturnK c156_11 (y_fit1 (by omega)) ?_
      refine y_if 16 8 c180_5 rfl rfl (yz_eq (by omega)) (fun hb5658 => ?_) (fun hb5658 => ?_)
      · exfalso; omega
      · refine y_aload 9 c180_8 rfl rfl rfl ?_
        refine y_iload 10 c180_9 rfl rfl ?_
        refine y_inlB 13 [.ref 0, yI b] [] [some (.ref 0), some (yI b)] c180_10 rfl rfl rfl rfl rfl (ycanO km156 ko0) kn156 rfl rfl ?_
        refine y_iload 1 c156_0 rfl rfl ?_
        refine y_aload 2 c156_1 rfl rfl rfl ?_
        refine y_getS 5 (B := 316) c156_2 rfl kf0_4 (by first | rfl | (rw [show m 0 4 = 1 from by have e : m 0 4 = m 0 4 := rfl; omega]; rfl)) ?_
        refine y_getX 8 (m 316 15) c156_5 rfl kf316_15 rfl ?_
        refine y_inlB 11 [yI b, yI (m 316 15)] [] [some (yI b), some (yI (m 316 15))] c156_8 rfl rfl rfl rfl rfl (ycanS km155) kn155 rfl rfl ?_
        refine y_iload 1 c155_0 rfl rfl ?_
        refine y_if 13 4 c155_1 rfl rfl (yz_lt (by omega)) (fun hb5659 => ?_) (fun hb5659 => ?_)
        · refine y_iconst 14 c155_13 rfl ?_
          refine y_ireturnK c155_14 (y_fit1 (by omega)) ?_
          refine y_ireturnK c156_11 (y_fit1 (by omega)) ?_
          refine y_if 24 16 c180_13 rfl rfl (yz_ne (by omega)) (fun hb5660 => ?_) (fun hb5660 => ?_)
          · exfalso; omega
          · refine y_throwB c180_16 rfl ?_
            refine yK_in kh181_5_11 ?_
            refine y_astore 15 c181_13 rfl rfl rfl ?_
            refine y_iconst 16 c181_15 rfl ?_
            exact y_ireturn c181_16 (y_fit0 _) ⟨_, rfl, by omega, Or.inr rfl, hF, Or.inr hC0⟩
        · refine y_iload 5 c155_4 rfl rfl ?_
          refine y_iload 6 c155_5 rfl rfl ?_
          refine y_icmp 13 9 c155_6 rfl rfl (yc_ge (by omega) (by omega)) (fun hb5661 => ?_) (fun hb5661 => ?_)
          · refine y_iconst 14 c155_13 rfl ?_
            refine y_ireturnK c155_14 (y_fit1 (by omega)) ?_
            refine y_ireturnK c156_11 (y_fit1 (by omega)) ?_
            refine y_if 24 16 c180_13 rfl rfl (yz_ne (by omega)) (fun hb5662 => ?_) (fun hb5662 => ?_)
            · exfalso; omega
            · refine y_throwB c180_16 rfl ?_
              refine yK_in kh181_5_11 ?_
              refine y_astore 15 c181_13 rfl rfl rfl ?_
              refine y_iconst 16 c181_15 rfl ?_
              exact y_ireturn c181_16 (y_fit0 _) ⟨_, rfl, by omega, Or.inr rfl, hF, Or.inr hC0⟩
          · refine y_iconst 10 c155_9 rfl ?_
            refine y_goto 14 c155_10 rfl ?_
            refine y_ireturnK c155_14 (y_fit1 (by omega)) ?_
            refine y_ireturnK c156_11 (y_fit1 (by omega)) ?_
            refine y_if 24 16 c180_13 rfl rfl (yz_ne (by omega)) (fun hb5663 => ?_) (fun hb5663 => ?_)
            · refine y_aload 25 c180_24 rfl rfl rfl ?_
              refine y_getR 28 c180_25 rfl kf0_2 ?_
              refine y_iload 29 c180_28 rfl rfl ?_
              refine y_iload 30 c180_29 rfl rfl ?_
              refine y_callP 33 [.ref 8, yI a, yI b] [] c180_30 rfl rfl rfl rfl rfl (ycanO km179 ko8) (t179_316 hT (by omega) (by omega) (by omega)) (fun r5664 hr5664 => ?_)
              refine y_if 40 36 c180_33 rfl rfl (yz_eq (by omega)) (fun hb5665 => ?_) (fun hb5665 => ?_)
              · refine y_iconst 41 c180_40 rfl ?_
                refine y_ireturnK c180_41 (y_fit0 _) ?_
                refine y_i2l 9 c181_8 rfl ?_
                refine y_lastoreN 10 0 c181_9 rfl kl413 (by decide) (by rw [Int32.toInt_toInt64, y_rng (by omega)]) ?_
                have hT5666 := hT.up 413 ((0 : Int).toNat) 0 ((-2147483648)) 2147483647 rfl (by omega)
                have hF5667 := hF.up 413 ((0 : Int).toNat) 0 rfl
                refine y_goto 17 c181_10 rfl ?_
                refine y_iconst 18 c181_17 rfl ?_
                exact y_ireturn c181_18 (y_fit0 _) ⟨_, rfl, by omega, Or.inl rfl, hF5667, Or.inr (CI.fr hC0 (by omega) (by omega) (by omega) hT5666 (fun a q ha => (yup_na (by omega))))⟩
              · refine y_iconst 37 c180_36 rfl ?_
                refine y_goto 41 c180_37 rfl ?_
                refine y_ireturnK c180_41 (y_fit0 _) ?_
                refine y_i2l 9 c181_8 rfl ?_
                refine y_lastoreN 10 1 c181_9 rfl kl413 (by decide) (by rw [Int32.toInt_toInt64, y_rng (by omega)]) ?_
                have hT5668 := hT.up 413 ((0 : Int).toNat) 1 ((-2147483648)) 2147483647 rfl (by omega)
                have hF5669 := hF.up 413 ((0 : Int).toNat) 1 rfl
                refine y_goto 17 c181_10 rfl ?_
                refine y_iconst 18 c181_17 rfl ?_
                exact y_ireturn c181_18 (y_fit0 _) ⟨_, rfl, by omega, Or.inl rfl, hF5669, Or.inr (CI.fr hC0 (by omega) (by omega) (by omega) hT5668 (fun a q ha => (yup_na (by omega))))⟩
            · exfalso; omega
set_option maxRecDepth 100000 in
theorem t184_316 {L : Nat} {xs : Nat → Int32} {d nn : Nat} {m : yM} {a : Int} (ra : -2147483648 ≤ a ∧ a < 2147483648) {b : Int} (rb : -2147483648 ≤ b ∧ b < 2147483648) (hC : CI 316 266 1 m) : YC (gZ L xs) (d + 3) 184 [.ref 0, yI a, yI b, .ref 413] m nn (qW nn m) := by
  have hC0 := hC
  obtain ⟨hT, h04, h05, hS, hM2, h84⟩ := hC
  have hM : MP 326 m := hS.2.2.2.1
  have tb9 := hT.atp 316 9 0 6 rfl
  have tb10 := hT.atp 316 10 0 10 rfl
  have tb11 := hT.atp 316 11 0 8 rfl
  have tb12 := hT.atp 316 12 0 12 rfl
  have tb13 := hT.atp 316 13 0 8 rfl
  have tb14 := hT.atp 316 14 0 12 rfl
  have tb15 := hT.atp 316 15 0 48 rfl
  have tb16 := hT.atp 316 16 0 40 rfl
  refine YC.mkB [some (.ref 0), some (yI a), some (yI b), some (.ref 413), none] kn184 rfl rfl ?_
  have hF : Fr wCl m m := Fr.rf
  refine y_aload 1 c184_0 rfl rfl rfl ?_
  refine y_iconst 2 c184_1 rfl ?_
  refine y_aload 3 c184_2 rfl rfl rfl ?_
  refine y_iload 4 c184_3 rfl rfl ?_
  refine y_iload 5 c184_4 rfl rfl ?_
  refine y_inlB 8 [.ref 0, yI a, yI b] [yI 0, .ref 413] [some (.ref 0), some (yI a), some (yI b), none] c184_5 rfl rfl rfl rfl rfl (ycanO km183 ko0) kn183 rfl rfl ?_
  refine y_aload 1 c183_0 rfl rfl rfl ?_
  refine y_iload 2 c183_1 rfl rfl ?_
  refine y_inlB 5 [.ref 0, yI a] [] [some (.ref 0), some (yI a)] c183_2 rfl rfl rfl rfl rfl (ycanO km167 ko0) kn167 rfl rfl ?_
  refine y_iload 1 c167_0 rfl rfl ?_
  refine y_aload 2 c167_1 rfl rfl rfl ?_
  refine y_getS 5 (B := 316) c167_2 rfl kf0_4 (by first | rfl | (rw [show m 0 4 = 1 from by have e : m 0 4 = m 0 4 := rfl; omega]; rfl)) ?_
  refine y_getX 8 (m 316 10) c167_5 rfl kf316_10 rfl ?_
  refine y_inlB 11 [yI a, yI (m 316 10)] [] [some (yI a), some (yI (m 316 10))] c167_8 rfl rfl rfl rfl rfl (ycanS km155) kn155 rfl rfl ?_
  refine y_iload 1 c155_0 rfl rfl ?_
  refine y_if 13 4 c155_1 rfl rfl (yz_lt (by omega)) (fun hb5670 => ?_) (fun hb5670 => ?_)
  · refine y_iconst 14 c155_13 rfl ?_
    refine y_ireturnK c155_14 (y_fit1 (by omega)) ?_
    refine y_ireturnK c167_11 (y_fit1 (by omega)) ?_
    refine y_if 16 8 c183_5 rfl rfl (yz_ne (by omega)) (fun hb5671 => ?_) (fun hb5671 => ?_)
    · exfalso; omega
    · refine y_throwB c183_8 rfl ?_
      refine yK_in kh184_5_11 ?_
      refine y_astore 15 c184_13 rfl rfl rfl ?_
      refine y_iconst 16 c184_15 rfl ?_
      exact y_ireturn c184_16 (y_fit0 _) ⟨_, rfl, by omega, Or.inr rfl, hF, Or.inr hC0⟩
  · refine y_iload 5 c155_4 rfl rfl ?_
    refine y_iload 6 c155_5 rfl rfl ?_
    refine y_icmp 13 9 c155_6 rfl rfl (yc_ge (by omega) (by omega)) (fun hb5672 => ?_) (fun hb5672 => ?_)
    · refine y_iconst 14 c155_13 rfl ?_
      refine y_ireturnK c155_14 (y_fit1 (by omega)) ?_
      refine y_ireturnK c167_11 (y_fit1 (by omega)) ?_
      refine y_if 16 8 c183_5 rfl rfl (yz_ne (by omega)) (fun hb5673 => ?_) (fun hb5673 => ?_)
      · exfalso; omega
      · refine y_throwB c183_8 rfl ?_
        refine yK_in kh184_5_11 ?_
        refine y_astore 15 c184_13 rfl rfl rfl ?_
        refine y_iconst 16 c184_15 rfl ?_
        exact y_ireturn c184_16 (y_fit0 _) ⟨_, rfl, by omega, Or.inr rfl, hF, Or.inr hC0⟩
    · refine y_iconst 10 c155_9 rfl ?_
      refine y_goto 14 c155_10 rfl ?_
      refine y_ireturnK c155_14 (y_fit1 (by omega)) ?_
      refine y_ireturnK c167_11 (y_fit1 (by omega)) ?_
      refine y_if 16 8 c183_5 rfl rfl (yz_ne (by omega)) (fun hb5674 => ?_) (fun hb5674 => ?_)
      · refine y_aload 17 c183_16 rfl rfl rfl ?_
        refine y_getS 20 (B := 316) c183_17 rfl kf0_4 (by first | rfl | (rw [show m 0 4 = 1 from by have e : m 0 4 = m 0 4 := rfl; omega]; rfl)) ?_
        refine y_getR 23 c183_20 rfl kf316_5 ?_
        refine y_iload 24 c183_23 rfl rfl ?_
        refine y_aaload 25 c183_24 rfl kr322 (by omega) ?_
        refine y_astore 26 c183_25 rfl rfl rfl ?_
        refine y_iload 27 c183_26 rfl rfl ?_
        by_cases hk5675 : b = 0
        · refine y_top 0 hk5675 ?_
          refine y_tsw 60 c183_27 (by decide) (by decide) rfl rfl ?_
          refine y_aload 61 c183_60 rfl rfl rfl ?_
          refine y_getX 64 (m (326 + a.toNat) 2) c183_61 rfl (ff326_2 (by omega)) rfl ?_
          have tb5676 := hT.atp (326 + a.toNat) 2 0 46 (ft326_2 (by omega))
          refine y_ireturnK c183_64 (y_fit0 _) ?_
          refine y_i2l 9 c184_8 rfl ?_
          refine y_lastoreN 10 (m (326 + a.toNat) 2) c184_9 rfl kl413 (by decide) (by rw [Int32.toInt_toInt64, y_rng (by omega)]) ?_
          have hT5677 := hT.up 413 ((0 : Int).toNat) (m (326 + a.toNat) 2) ((-2147483648)) 2147483647 rfl (by omega)
          have hF5678 := hF.up 413 ((0 : Int).toNat) (m (326 + a.toNat) 2) rfl
          refine y_goto 21 c184_10 rfl ?_
          refine y_iconst 22 c184_21 rfl ?_
          exact y_ireturn c184_22 (y_fit0 _) ⟨_, rfl, by omega, Or.inl rfl, hF5678, Or.inr (CI.fr hC0 (by omega) (by omega) (by omega) hT5677 (fun a q ha => (yup_na (by omega))))⟩
        by_cases hk5679 : b = 1
        · refine y_top 1 hk5679 ?_
          refine y_tsw 65 c183_27 (by decide) (by decide) rfl rfl ?_
          refine y_aload 66 c183_65 rfl rfl rfl ?_
          refine y_callP 69 [.ref (326 + a.toNat)] [] c183_66 rfl rfl rfl rfl rfl (ycanO km57 (fo326 (by omega))) (t57_316 hT (by omega)) (fun r5680 hr5680 => ?_)
          refine y_ireturnK c183_69 (y_fit0 _) ?_
          refine y_i2l 9 c184_8 rfl ?_
          refine y_lastoreN 10 r5680 c184_9 rfl kl413 (by decide) (by rw [Int32.toInt_toInt64, y_rng (by omega)]) ?_
          have hT5681 := hT.up 413 ((0 : Int).toNat) r5680 ((-2147483648)) 2147483647 rfl (by omega)
          have hF5682 := hF.up 413 ((0 : Int).toNat) r5680 rfl
          refine y_goto 21 c184_10 rfl ?_
          refine y_iconst 22 c184_21 rfl ?_
          exact y_ireturn c184_22 (y_fit0 _) ⟨_, rfl, by omega, Or.inl rfl, hF5682, Or.inr (CI.fr hC0 (by omega) (by omega) (by omega) hT5681 (fun a q ha => (yup_na (by omega))))⟩
        by_cases hk5683 : b = 2
        · refine y_top 2 hk5683 ?_
          refine y_tsw 70 c183_27 (by decide) (by decide) rfl rfl ?_
          refine y_aload 71 c183_70 rfl rfl rfl ?_
          refine y_iconst 72 c183_71 rfl ?_
          refine y_callP 75 [.ref (326 + a.toNat), yI 0] [] c183_72 rfl rfl rfl rfl rfl (ycanO km87 (fo326 (by omega))) (t87_316 hT (by omega) (by omega) hM) (fun r5684 hr5684 => ?_)
          refine y_ireturnK c183_75 (y_fit0 _) ?_
          refine y_i2l 9 c184_8 rfl ?_
          refine y_lastoreN 10 r5684 c184_9 rfl kl413 (by decide) (by rw [Int32.toInt_toInt64, y_rng (by omega)]) ?_
          have hT5685 := hT.up 413 ((0 : Int).toNat) r5684 ((-2147483648)) 2147483647 rfl (by omega)
          have hF5686 := hF.up 413 ((0 : Int).toNat) r5684 rfl
          refine y_goto 21 c184_10 rfl ?_
          refine y_iconst 22 c184_21 rfl ?_
          exact y_ireturn c184_22 (y_fit0 _) ⟨_, rfl, by omega, Or.inl rfl, hF5686, Or.inr (CI.fr hC0 (by omega) (by omega) (by omega) hT5685 (fun a q ha => (yup_na (by omega))))⟩
        by_cases hk5687 : b = 3
        · refine y_top 3 hk5687 ?_
          refine y_tsw 76 c183_27 (by decide) (by decide) rfl rfl ?_
          refine y_aload 77 c183_76 rfl rfl rfl ?_
          refine y_iconst 78 c183_77 rfl ?_
          refine y_callP 81 [.ref (326 + a.toNat), yI 1] [] c183_78 rfl rfl rfl rfl rfl (ycanO km87 (fo326 (by omega))) (t87_316 hT (by omega) (by omega) hM) (fun r5688 hr5688 => ?_)
          refine y_ireturnK c183_81 (y_fit0 _) ?_
          refine y_i2l 9 c184_8 rfl ?_
          refine y_lastoreN 10 r5688 c184_9 rfl kl413 (by decide) (by rw [Int32.toInt_toInt64, y_rng (by omega)]) ?_
          have hT5689 := hT.up 413 ((0 : Int).toNat) r5688 ((-2147483648)) 2147483647 rfl (by omega)
          have hF5690 := hF.up 413 ((0 : Int).toNat) r5688 rfl
          refine y_goto 21 c184_10 rfl ?_
          refine y_iconst 22 c184_21 rfl ?_
          exact y_ireturn c184_22 (y_fit0 _) ⟨_, rfl, by omega, Or.inl rfl, hF5690, Or.inr (CI.fr hC0 (by omega) (by omega) (by omega) hT5689 (fun a q ha => (yup_na (by omega))))⟩
        by_cases hk5691 : b = 4
        · refine y_top 4 hk5691 ?_
          refine y_tsw 82 c183_27 (by decide) (by decide) rfl rfl ?_
          refine y_aload 83 c183_82 rfl rfl rfl ?_
          refine y_getX 86 (m (326 + a.toNat) 1) c183_83 rfl (ff326_1 (by omega)) rfl ?_
          have tb5692 := hT.atp (326 + a.toNat) 1 0 5 (ft326_1 (by omega))
          refine y_ireturnK c183_86 (y_fit0 _) ?_
          refine y_i2l 9 c184_8 rfl ?_
          refine y_lastoreN 10 (m (326 + a.toNat) 1) c184_9 rfl kl413 (by decide) (by rw [Int32.toInt_toInt64, y_rng (by omega)]) ?_
          have hT5693 := hT.up 413 ((0 : Int).toNat) (m (326 + a.toNat) 1) ((-2147483648)) 2147483647 rfl (by omega)
          have hF5694 := hF.up 413 ((0 : Int).toNat) (m (326 + a.toNat) 1) rfl
          refine y_goto 21 c184_10 rfl ?_
          refine y_iconst 22 c184_21 rfl ?_
          exact y_ireturn c184_22 (y_fit0 _) ⟨_, rfl, by omega, Or.inl rfl, hF5694, Or.inr (CI.fr hC0 (by omega) (by omega) (by omega) hT5693 (fun a q ha => (yup_na (by omega))))⟩
        refine y_tswd 87 c183_27 (by omega) (by omega) rfl ?_
        refine y_throwB c183_87 rfl ?_
        refine yK_in kh184_5_9 ?_
        refine y_astore 19 c184_17 rfl rfl rfl ?_
        refine y_iconst 20 c184_19 rfl ?_
        exact y_ireturn c184_20 (y_fit0 _) ⟨_, rfl, by omega, Or.inr rfl, hF, Or.inr hC0⟩
      · exfalso; omega
set_option maxRecDepth 100000 in
theorem t213_316 {L : Nat} {xs : Nat → Int32} {d nn : Nat} {m : yM} {a : Int} (ra : -2147483648 ≤ a ∧ a < 2147483648) {b : Int} (rb : -2147483648 ≤ b ∧ b < 2147483648) (hC : CI 316 266 1 m) : YC (gZ L xs) (d + 3) 213 [.ref 0, yI a, yI b, .ref 413] m nn (qW nn m) := by
  have hC0 := hC
  obtain ⟨hT, h04, h05, hS, hM2, h84⟩ := hC
  have hM : MP 326 m := hS.2.2.2.1
  have tb9 := hT.atp 316 9 0 6 rfl
  have tb10 := hT.atp 316 10 0 10 rfl
  have tb11 := hT.atp 316 11 0 8 rfl
  have tb12 := hT.atp 316 12 0 12 rfl
  have tb13 := hT.atp 316 13 0 8 rfl
  have tb14 := hT.atp 316 14 0 12 rfl
  have tb15 := hT.atp 316 15 0 48 rfl
  have tb16 := hT.atp 316 16 0 40 rfl
  refine YC.mkB [some (.ref 0), some (yI a), some (yI b), some (.ref 413), none] kn213 rfl rfl ?_
  have hF : Fr wCl m m := Fr.rf
  refine y_aload 1 c213_0 rfl rfl rfl ?_
  refine y_iconst 2 c213_1 rfl ?_
  refine y_aload 3 c213_2 rfl rfl rfl ?_
  refine y_iload 4 c213_3 rfl rfl ?_
  refine y_iload 5 c213_4 rfl rfl ?_
  refine y_inlB 8 [.ref 0, yI a, yI b] [yI 0, .ref 413] [some (.ref 0), some (yI a), some (yI b)] c213_5 rfl rfl rfl rfl rfl (ycanO km212 ko0) kn212 rfl rfl ?_
  refine y_aload 1 c212_0 rfl rfl rfl ?_
  refine y_iload 2 c212_1 rfl rfl ?_
  refine y_inlB 5 [.ref 0, yI a] [] [some (.ref 0), some (yI a)] c212_2 rfl rfl rfl rfl rfl (ycanO km156 ko0) kn156 rfl rfl ?_
  refine y_iload 1 c156_0 rfl rfl ?_
  refine y_aload 2 c156_1 rfl rfl rfl ?_
  refine y_getS 5 (B := 316) c156_2 rfl kf0_4 (by first | rfl | (rw [show m 0 4 = 1 from by have e : m 0 4 = m 0 4 := rfl; omega]; rfl)) ?_
  refine y_getX 8 (m 316 15) c156_5 rfl kf316_15 rfl ?_
  refine y_inlB 11 [yI a, yI (m 316 15)] [] [some (yI a), some (yI (m 316 15))] c156_8 rfl rfl rfl rfl rfl (ycanS km155) kn155 rfl rfl ?_
  refine y_iload 1 c155_0 rfl rfl ?_
  refine y_if 13 4 c155_1 rfl rfl (yz_lt (by omega)) (fun hb5695 => ?_) (fun hb5695 => ?_)
  · refine y_iconst 14 c155_13 rfl ?_
    refine y_ireturnK c155_14 (y_fit1 (by omega)) ?_
    refine y_ireturnK c156_11 (y_fit1 (by omega)) ?_
    refine y_if 16 8 c212_5 rfl rfl (yz_eq (by omega)) (fun hb5696 => ?_) (fun hb5696 => ?_)
    · refine y_throwB c212_16 rfl ?_
      refine yK_in kh213_5_11 ?_
      refine y_astore 15 c213_13 rfl rfl rfl ?_
      refine y_iconst 16 c213_15 rfl ?_
      exact y_ireturn c213_16 (y_fit0 _) ⟨_, rfl, by omega, Or.inr rfl, hF, Or.inr hC0⟩
    · exfalso; omega
  · refine y_iload 5 c155_4 rfl rfl ?_
    refine y_iload 6 c155_5 rfl rfl ?_
    refine y_icmp 13 9 c155_6 rfl rfl (yc_ge (by omega) (by omega)) (fun hb5697 => ?_) (fun hb5697 => ?_)
    · refine y_iconst 14 c155_13 rfl ?_
      refine y_ireturnK c155_14 (y_fit1 (by omega)) ?_
      refine y_ireturnK c156_11 (y_fit1 (by omega)) ?_
      refine y_if 16 8 c212_5 rfl rfl (yz_eq (by omega)) (fun hb5698 => ?_) (fun hb5698 => ?_)
      · refine y_throwB c212_16 rfl ?_
        refine yK_in kh213_5_11 ?_
        refine y_astore 15 c213_13 rfl rfl rfl ?_
        refine y_iconst 16 c213_15 rfl ?_
        exact y_ireturn c213_16 (y_fit0 _) ⟨_, rfl, by omega, Or.inr rfl, hF, Or.inr hC0⟩
      · exfalso; omega
    · refine y_iconst 10 c155_9 rfl ?_
      refine y_goto 14 c155_10 rfl ?_
      refine y_ireturnK c155_14 (y_fit1 (by omega)) ?_
      refine y_ireturnK c156_11 (y_fit1 (by omega)) ?_
      refine y_if 16 8 c212_5 rfl rfl (yz_eq (by omega)) (fun hb5699 => ?_) (fun hb5699 => ?_)
      · exfalso; omega
      · refine y_aload 9 c212_8 rfl rfl rfl ?_
        refine y_iload 10 c212_9 rfl rfl ?_
        refine y_inlB 13 [.ref 0, yI b] [] [some (.ref 0), some (yI b)] c212_10 rfl rfl rfl rfl rfl (ycanO km157 ko0) kn157 rfl rfl ?_
        refine y_iload 1 c157_0 rfl rfl ?_
        refine y_aload 2 c157_1 rfl rfl rfl ?_
        refine y_getS 5 (B := 316) c157_2 rfl kf0_4 (by first | rfl | (rw [show m 0 4 = 1 from by have e : m 0 4 = m 0 4 := rfl; omega]; rfl)) ?_
        refine y_getX 8 (m 316 14) c157_5 rfl kf316_14 rfl ?_
        refine y_inlB 11 [yI b, yI (m 316 14)] [] [some (yI b), some (yI (m 316 14))] c157_8 rfl rfl rfl rfl rfl (ycanS km155) kn155 rfl rfl ?_
        refine y_iload 1 c155_0 rfl rfl ?_
        refine y_if 13 4 c155_1 rfl rfl (yz_lt (by omega)) (fun hb5700 => ?_) (fun hb5700 => ?_)
        · refine y_iconst 14 c155_13 rfl ?_
          refine y_ireturnK c155_14 (y_fit1 (by omega)) ?_
          refine y_ireturnK c157_11 (y_fit1 (by omega)) ?_
          refine y_if 24 16 c212_13 rfl rfl (yz_ne (by omega)) (fun hb5701 => ?_) (fun hb5701 => ?_)
          · exfalso; omega
          · refine y_throwB c212_16 rfl ?_
            refine yK_in kh213_5_11 ?_
            refine y_astore 15 c213_13 rfl rfl rfl ?_
            refine y_iconst 16 c213_15 rfl ?_
            exact y_ireturn c213_16 (y_fit0 _) ⟨_, rfl, by omega, Or.inr rfl, hF, Or.inr hC0⟩
        · refine y_iload 5 c155_4 rfl rfl ?_
          refine y_iload 6 c155_5 rfl rfl ?_
          refine y_icmp 13 9 c155_6 rfl rfl (yc_ge (by omega) (by omega)) (fun hb5702 => ?_) (fun hb5702 => ?_)
          · refine y_iconst 14 c155_13 rfl ?_
            refine y_ireturnK c155_14 (y_fit1 (by omega)) ?_
            refine y_ireturnK c157_11 (y_fit1 (by omega)) ?_
            refine y_if 24 16 c212_13 rfl rfl (yz_ne (by omega)) (fun hb5703 => ?_) (fun hb5703 => ?_)
            · exfalso; omega
            · refine y_throwB c212_16 rfl ?_
              refine yK_in kh213_5_11 ?_
              refine y_astore 15 c213_13 rfl rfl rfl ?_
              refine y_iconst 16 c213_15 rfl ?_
              exact y_ireturn c213_16 (y_fit0 _) ⟨_, rfl, by omega, Or.inr rfl, hF, Or.inr hC0⟩
          · refine y_iconst 10 c155_9 rfl ?_
            refine y_goto 14 c155_10 rfl ?_
            refine y_ireturnK c155_14 (y_fit1 (by omega)) ?_
            refine y_ireturnK c157_11 (y_fit1 (by omega)) ?_
            refine y_if 24 16 c212_13 rfl rfl (yz_ne (by omega)) (fun hb5704 => ?_) (fun hb5704 => ?_)
            · refine y_aload 25 c212_24 rfl rfl rfl ?_
              refine y_getR 28 c212_25 rfl kf0_3 ?_
              refine y_getR 31 c212_28 rfl kf169_0 ?_
              refine y_iload 32 c212_31 rfl rfl ?_
              refine y_aaload 33 c212_32 rfl kr170 (by omega) ?_
              refine y_iload 34 c212_33 rfl rfl ?_
              refine y_iaT 35 ((-2147483648)) 2147483647 c212_34 rfl (fa171 (by omega)) (by omega) hT (fz171 (by omega)) (fun v5705 hv5705 gv5705 => ?_)
              refine y_ireturnK c212_35 (y_fit0 _) ?_
              refine y_i2l 9 c213_8 rfl ?_
              refine y_lastoreN 10 v5705 c213_9 rfl kl413 (by decide) (by rw [Int32.toInt_toInt64, y_rng (by omega)]) ?_
              have hT5706 := hT.up 413 ((0 : Int).toNat) v5705 ((-2147483648)) 2147483647 rfl (by omega)
              have hF5707 := hF.up 413 ((0 : Int).toNat) v5705 rfl
              refine y_goto 17 c213_10 rfl ?_
              refine y_iconst 18 c213_17 rfl ?_
              exact y_ireturn c213_18 (y_fit0 _) ⟨_, rfl, by omega, Or.inl rfl, hF5707, Or.inr (CI.fr hC0 (by omega) (by omega) (by omega) hT5706 (fun a q ha => (yup_na (by omega))))⟩
            · exfalso; omega
set_option maxRecDepth 100000 in
theorem t216_316 {L : Nat} {xs : Nat → Int32} {d nn : Nat} {m : yM} {a : Int} (ra : -2147483648 ≤ a ∧ a < 2147483648) (hC : CI 316 266 1 m) : YC (gZ L xs) (d + 3) 216 [.ref 0, yI a, .ref 413] m nn (qW nn m) := by
  have hC0 := hC
  obtain ⟨hT, h04, h05, hS, hM2, h84⟩ := hC
  have hM : MP 326 m := hS.2.2.2.1
  have tb9 := hT.atp 316 9 0 6 rfl
  have tb10 := hT.atp 316 10 0 10 rfl
  have tb11 := hT.atp 316 11 0 8 rfl
  have tb12 := hT.atp 316 12 0 12 rfl
  have tb13 := hT.atp 316 13 0 8 rfl
  have tb14 := hT.atp 316 14 0 12 rfl
  have tb15 := hT.atp 316 15 0 48 rfl
  have tb16 := hT.atp 316 16 0 40 rfl
  refine YC.mkB [some (.ref 0), some (yI a), some (.ref 413), none] kn216 rfl rfl ?_
  have hF : Fr wCl m m := Fr.rf
  refine y_aload 1 c216_0 rfl rfl rfl ?_
  refine y_iconst 2 c216_1 rfl ?_
  refine y_aload 3 c216_2 rfl rfl rfl ?_
  refine y_iload 4 c216_3 rfl rfl ?_
  refine y_inlB 7 [.ref 0, yI a] [yI 0, .ref 413] [some (.ref 0), some (yI a)] c216_4 rfl rfl rfl rfl rfl (ycanO km215 ko0) kn215 rfl rfl ?_
  refine y_iload 1 c215_0 rfl rfl ?_
  by_cases hk5708 : a = 0
  · refine y_top 0 hk5708 ?_
    refine y_tsw 56 c215_1 (by decide) (by decide) rfl rfl ?_
    refine y_aload 57 c215_56 rfl rfl rfl ?_
    refine y_getS 60 (B := 316) c215_57 rfl kf0_4 (by first | rfl | (rw [show m 0 4 = 1 from by have e : m 0 4 = m 0 4 := rfl; omega]; rfl)) ?_
    refine y_getX 63 (m 316 9) c215_60 rfl kf316_9 rfl ?_
    refine y_ireturnK c215_63 (y_fit0 _) ?_
    refine y_i2l 8 c216_7 rfl ?_
    refine y_lastoreN 9 (m 316 9) c216_8 rfl kl413 (by decide) (by rw [Int32.toInt_toInt64, y_rng (by omega)]) ?_
    have hT5709 := hT.up 413 ((0 : Int).toNat) (m 316 9) ((-2147483648)) 2147483647 rfl (by omega)
    have hF5710 := hF.up 413 ((0 : Int).toNat) (m 316 9) rfl
    refine y_goto 15 c216_9 rfl ?_
    refine y_iconst 16 c216_15 rfl ?_
    exact y_ireturn c216_16 (y_fit0 _) ⟨_, rfl, by omega, Or.inl rfl, hF5710, Or.inr (CI.fr hC0 (by omega) (by omega) (by omega) hT5709 (fun a q ha => (yup_na (by omega))))⟩
  by_cases hk5711 : a = 1
  · refine y_top 1 hk5711 ?_
    refine y_tsw 64 c215_1 (by decide) (by decide) rfl rfl ?_
    refine y_aload 65 c215_64 rfl rfl rfl ?_
    refine y_getS 68 (B := 316) c215_65 rfl kf0_4 (by first | rfl | (rw [show m 0 4 = 1 from by have e : m 0 4 = m 0 4 := rfl; omega]; rfl)) ?_
    refine y_getX 71 (m 316 10) c215_68 rfl kf316_10 rfl ?_
    refine y_ireturnK c215_71 (y_fit0 _) ?_
    refine y_i2l 8 c216_7 rfl ?_
    refine y_lastoreN 9 (m 316 10) c216_8 rfl kl413 (by decide) (by rw [Int32.toInt_toInt64, y_rng (by omega)]) ?_
    have hT5712 := hT.up 413 ((0 : Int).toNat) (m 316 10) ((-2147483648)) 2147483647 rfl (by omega)
    have hF5713 := hF.up 413 ((0 : Int).toNat) (m 316 10) rfl
    refine y_goto 15 c216_9 rfl ?_
    refine y_iconst 16 c216_15 rfl ?_
    exact y_ireturn c216_16 (y_fit0 _) ⟨_, rfl, by omega, Or.inl rfl, hF5713, Or.inr (CI.fr hC0 (by omega) (by omega) (by omega) hT5712 (fun a q ha => (yup_na (by omega))))⟩
  by_cases hk5714 : a = 2
  · refine y_top 2 hk5714 ?_
    refine y_tsw 72 c215_1 (by decide) (by decide) rfl rfl ?_
    refine y_aload 73 c215_72 rfl rfl rfl ?_
    refine y_getS 76 (B := 316) c215_73 rfl kf0_4 (by first | rfl | (rw [show m 0 4 = 1 from by have e : m 0 4 = m 0 4 := rfl; omega]; rfl)) ?_
    refine y_getX 79 (m 316 11) c215_76 rfl kf316_11 rfl ?_
    refine y_ireturnK c215_79 (y_fit0 _) ?_
    refine y_i2l 8 c216_7 rfl ?_
    refine y_lastoreN 9 (m 316 11) c216_8 rfl kl413 (by decide) (by rw [Int32.toInt_toInt64, y_rng (by omega)]) ?_
    have hT5715 := hT.up 413 ((0 : Int).toNat) (m 316 11) ((-2147483648)) 2147483647 rfl (by omega)
    have hF5716 := hF.up 413 ((0 : Int).toNat) (m 316 11) rfl
    refine y_goto 15 c216_9 rfl ?_
    refine y_iconst 16 c216_15 rfl ?_
    exact y_ireturn c216_16 (y_fit0 _) ⟨_, rfl, by omega, Or.inl rfl, hF5716, Or.inr (CI.fr hC0 (by omega) (by omega) (by omega) hT5715 (fun a q ha => (yup_na (by omega))))⟩
  by_cases hk5717 : a = 3
  · refine y_top 3 hk5717 ?_
    refine y_tsw 80 c215_1 (by decide) (by decide) rfl rfl ?_
    refine y_aload 81 c215_80 rfl rfl rfl ?_
    refine y_getS 84 (B := 316) c215_81 rfl kf0_4 (by first | rfl | (rw [show m 0 4 = 1 from by have e : m 0 4 = m 0 4 := rfl; omega]; rfl)) ?_
    refine y_getX 87 (m 316 12) c215_84 rfl kf316_12 rfl ?_
    refine y_ireturnK c215_87 (y_fit0 _) ?_
    refine y_i2l 8 c216_7 rfl ?_
    refine y_lastoreN 9 (m 316 12) c216_8 rfl kl413 (by decide) (by rw [Int32.toInt_toInt64, y_rng (by omega)]) ?_
    have hT5718 := hT.up 413 ((0 : Int).toNat) (m 316 12) ((-2147483648)) 2147483647 rfl (by omega)
    have hF5719 := hF.up 413 ((0 : Int).toNat) (m 316 12) rfl
    refine y_goto 15 c216_9 rfl ?_
    refine y_iconst 16 c216_15 rfl ?_
    exact y_ireturn c216_16 (y_fit0 _) ⟨_, rfl, by omega, Or.inl rfl, hF5719, Or.inr (CI.fr hC0 (by omega) (by omega) (by omega) hT5718 (fun a q ha => (yup_na (by omega))))⟩
  by_cases hk5720 : a = 4
  · refine y_top 4 hk5720 ?_
    refine y_tsw 88 c215_1 (by decide) (by decide) rfl rfl ?_
    refine y_aload 89 c215_88 rfl rfl rfl ?_
    refine y_getS 92 (B := 316) c215_89 rfl kf0_4 (by first | rfl | (rw [show m 0 4 = 1 from by have e : m 0 4 = m 0 4 := rfl; omega]; rfl)) ?_
    refine y_getX 95 (m 316 13) c215_92 rfl kf316_13 rfl ?_
    refine y_ireturnK c215_95 (y_fit0 _) ?_
    refine y_i2l 8 c216_7 rfl ?_
    refine y_lastoreN 9 (m 316 13) c216_8 rfl kl413 (by decide) (by rw [Int32.toInt_toInt64, y_rng (by omega)]) ?_
    have hT5721 := hT.up 413 ((0 : Int).toNat) (m 316 13) ((-2147483648)) 2147483647 rfl (by omega)
    have hF5722 := hF.up 413 ((0 : Int).toNat) (m 316 13) rfl
    refine y_goto 15 c216_9 rfl ?_
    refine y_iconst 16 c216_15 rfl ?_
    exact y_ireturn c216_16 (y_fit0 _) ⟨_, rfl, by omega, Or.inl rfl, hF5722, Or.inr (CI.fr hC0 (by omega) (by omega) (by omega) hT5721 (fun a q ha => (yup_na (by omega))))⟩
  by_cases hk5723 : a = 5
  · refine y_top 5 hk5723 ?_
    refine y_tsw 96 c215_1 (by decide) (by decide) rfl rfl ?_
    refine y_aload 97 c215_96 rfl rfl rfl ?_
    refine y_getS 100 (B := 316) c215_97 rfl kf0_4 (by first | rfl | (rw [show m 0 4 = 1 from by have e : m 0 4 = m 0 4 := rfl; omega]; rfl)) ?_
    refine y_getX 103 (m 316 14) c215_100 rfl kf316_14 rfl ?_
    refine y_ireturnK c215_103 (y_fit0 _) ?_
    refine y_i2l 8 c216_7 rfl ?_
    refine y_lastoreN 9 (m 316 14) c216_8 rfl kl413 (by decide) (by rw [Int32.toInt_toInt64, y_rng (by omega)]) ?_
    have hT5724 := hT.up 413 ((0 : Int).toNat) (m 316 14) ((-2147483648)) 2147483647 rfl (by omega)
    have hF5725 := hF.up 413 ((0 : Int).toNat) (m 316 14) rfl
    refine y_goto 15 c216_9 rfl ?_
    refine y_iconst 16 c216_15 rfl ?_
    exact y_ireturn c216_16 (y_fit0 _) ⟨_, rfl, by omega, Or.inl rfl, hF5725, Or.inr (CI.fr hC0 (by omega) (by omega) (by omega) hT5724 (fun a q ha => (yup_na (by omega))))⟩
  by_cases hk5726 : a = 6
  · refine y_top 6 hk5726 ?_
    refine y_tsw 104 c215_1 (by decide) (by decide) rfl rfl ?_
    refine y_aload 105 c215_104 rfl rfl rfl ?_
    refine y_getS 108 (B := 316) c215_105 rfl kf0_4 (by first | rfl | (rw [show m 0 4 = 1 from by have e : m 0 4 = m 0 4 := rfl; omega]; rfl)) ?_
    refine y_getX 111 (m 316 15) c215_108 rfl kf316_15 rfl ?_
    refine y_ireturnK c215_111 (y_fit0 _) ?_
    refine y_i2l 8 c216_7 rfl ?_
    refine y_lastoreN 9 (m 316 15) c216_8 rfl kl413 (by decide) (by rw [Int32.toInt_toInt64, y_rng (by omega)]) ?_
    have hT5727 := hT.up 413 ((0 : Int).toNat) (m 316 15) ((-2147483648)) 2147483647 rfl (by omega)
    have hF5728 := hF.up 413 ((0 : Int).toNat) (m 316 15) rfl
    refine y_goto 15 c216_9 rfl ?_
    refine y_iconst 16 c216_15 rfl ?_
    exact y_ireturn c216_16 (y_fit0 _) ⟨_, rfl, by omega, Or.inl rfl, hF5728, Or.inr (CI.fr hC0 (by omega) (by omega) (by omega) hT5727 (fun a q ha => (yup_na (by omega))))⟩
  by_cases hk5729 : a = 7
  · refine y_top 7 hk5729 ?_
    refine y_tsw 112 c215_1 (by decide) (by decide) rfl rfl ?_
    refine y_aload 113 c215_112 rfl rfl rfl ?_
    refine y_getR 116 c215_113 rfl kf0_2 ?_
    refine y_getX 119 (m 8 6) c215_116 rfl kf8_6 rfl ?_
    have tb5730 := hT.atp 8 6 0 2001 rfl
    refine y_ireturnK c215_119 (y_fit0 _) ?_
    refine y_i2l 8 c216_7 rfl ?_
    refine y_lastoreN 9 (m 8 6) c216_8 rfl kl413 (by decide) (by rw [Int32.toInt_toInt64, y_rng (by omega)]) ?_
    have hT5731 := hT.up 413 ((0 : Int).toNat) (m 8 6) ((-2147483648)) 2147483647 rfl (by omega)
    have hF5732 := hF.up 413 ((0 : Int).toNat) (m 8 6) rfl
    refine y_goto 15 c216_9 rfl ?_
    refine y_iconst 16 c216_15 rfl ?_
    exact y_ireturn c216_16 (y_fit0 _) ⟨_, rfl, by omega, Or.inl rfl, hF5732, Or.inr (CI.fr hC0 (by omega) (by omega) (by omega) hT5731 (fun a q ha => (yup_na (by omega))))⟩
  by_cases hk5733 : a = 8
  · refine y_top 8 hk5733 ?_
    refine y_tsw 120 c215_1 (by decide) (by decide) rfl rfl ?_
    refine y_aload 121 c215_120 rfl rfl rfl ?_
    refine y_getR 124 c215_121 rfl kf0_3 ?_
    refine y_getX 127 (m 169 5) c215_124 rfl kf169_5 rfl ?_
    have tb5734 := hT.atp 169 5 0 30 rfl
    refine y_ireturnK c215_127 (y_fit0 _) ?_
    refine y_i2l 8 c216_7 rfl ?_
    refine y_lastoreN 9 (m 169 5) c216_8 rfl kl413 (by decide) (by rw [Int32.toInt_toInt64, y_rng (by omega)]) ?_
    have hT5735 := hT.up 413 ((0 : Int).toNat) (m 169 5) ((-2147483648)) 2147483647 rfl (by omega)
    have hF5736 := hF.up 413 ((0 : Int).toNat) (m 169 5) rfl
    refine y_goto 15 c216_9 rfl ?_
    refine y_iconst 16 c216_15 rfl ?_
    exact y_ireturn c216_16 (y_fit0 _) ⟨_, rfl, by omega, Or.inl rfl, hF5736, Or.inr (CI.fr hC0 (by omega) (by omega) (by omega) hT5735 (fun a q ha => (yup_na (by omega))))⟩
  by_cases hk5737 : a = 9
  · refine y_top 9 hk5737 ?_
    refine y_tsw 128 c215_1 (by decide) (by decide) rfl rfl ?_
    refine y_aload 129 c215_128 rfl rfl rfl ?_
    refine y_getX 132 (m 0 6) c215_129 rfl kf0_6 rfl ?_
    have tb5738 := hT.atp 0 6 0 320 rfl
    refine y_ireturnK c215_132 (y_fit0 _) ?_
    refine y_i2l 8 c216_7 rfl ?_
    refine y_lastoreN 9 (m 0 6) c216_8 rfl kl413 (by decide) (by rw [Int32.toInt_toInt64, y_rng (by omega)]) ?_
    have hT5739 := hT.up 413 ((0 : Int).toNat) (m 0 6) ((-2147483648)) 2147483647 rfl (by omega)
    have hF5740 := hF.up 413 ((0 : Int).toNat) (m 0 6) rfl
    refine y_goto 15 c216_9 rfl ?_
    refine y_iconst 16 c216_15 rfl ?_
    exact y_ireturn c216_16 (y_fit0 _) ⟨_, rfl, by omega, Or.inl rfl, hF5740, Or.inr (CI.fr hC0 (by omega) (by omega) (by omega) hT5739 (fun a q ha => (yup_na (by omega))))⟩
  refine y_tswd 133 c215_1 (by omega) (by omega) rfl ?_
  refine y_throwB c215_133 rfl ?_
  refine yK_in kh216_4_9 ?_
  refine y_astore 13 c216_12 rfl rfl rfl ?_
  refine y_iconst 14 c216_13 rfl ?_
  exact y_ireturn c216_14 (y_fit0 _) ⟨_, rfl, by omega, Or.inr rfl, hF, Or.inr hC0⟩
set_option maxRecDepth 100000 in
theorem t95_316 {L : Nat} {xs : Nat → Int32} {d nn : Nat} {m : yM}  (hC : CI 316 266 1 m) : YC (gZ L xs) (d + 17) 95 [.ref 0, .ref 413] m nn (qW nn m) := by
  have hC0 := hC
  obtain ⟨hT, h04, h05, hS, hM2, h84⟩ := hC
  have hM : MP 326 m := hS.2.2.2.1
  have tb9 := hT.atp 316 9 0 6 rfl
  have tb10 := hT.atp 316 10 0 10 rfl
  have tb11 := hT.atp 316 11 0 8 rfl
  have tb12 := hT.atp 316 12 0 12 rfl
  have tb13 := hT.atp 316 13 0 8 rfl
  have tb14 := hT.atp 316 14 0 12 rfl
  have tb15 := hT.atp 316 15 0 48 rfl
  have tb16 := hT.atp 316 16 0 40 rfl
  refine YC.mkB [some (.ref 0), some (.ref 413), none] kn95 rfl rfl ?_
  have hF : Fr wCl m m := Fr.rf
  refine y_aload 1 c95_0 rfl rfl rfl ?_
  refine y_iconst 2 c95_1 rfl ?_
  refine y_aload 3 c95_2 rfl rfl rfl ?_
  refine y_inlB 6 [.ref 0] [yI 0, .ref 413] [some (.ref 0), none] c95_3 rfl rfl rfl rfl rfl (ycanO km94 ko0) kn94 rfl rfl ?_
  refine y_aload 1 c94_0 rfl rfl rfl ?_
  refine y_aload 2 c94_1 rfl rfl rfl ?_
  refine y_getR 5 c94_2 rfl kf0_1 ?_
  refine y_aload 6 c94_5 rfl rfl rfl ?_
  refine y_getR 9 c94_6 rfl kf0_0 ?_
  refine y_aload 10 c94_9 rfl rfl rfl ?_
  refine y_getX 13 (m 0 6) c94_10 rfl kf0_6 rfl ?_
  have tb5741 := hT.atp 0 6 0 320 rfl
  refine y_aload 14 c94_13 rfl rfl rfl ?_
  refine y_getS 17 (B := 256) c94_14 rfl kf0_5 (by first | rfl | (rw [show m 0 5 = 0 from by have e : m 0 5 = m 0 5 := rfl; omega]; rfl)) ?_
  refine y_callIB 20 [.ref 2, .ref 1, yI (m 0 6), .ref 256] [.ref 0] c94_17 rfl rfl rfl rfl rfl (ycanO km74 ko2) (t74_256 hT (by omega) hM2) (fun rq5742 mq5742 nq5742 hq5742 => ?_)
  obtain ⟨rfl, hTq5742, hFq5742, hq5742, hMq, hPq⟩ := hq5742
  have hF5743 := hF.tr hFq5742 wPs256_wCl
  refine y_putI 23 c94_20 rfl kf0_7 (y_fit0 _) ?_
  have hT5744 := hTq5742.up 0 7 rq5742 ((-2147483648)) 2147483647 rfl (by omega)
  have hF5745 := hF5743.up 0 7 rq5742 rfl
  refine y_aload 24 c94_23 rfl rfl rfl ?_
  refine y_getX 27 rq5742 c94_24 rfl kf0_7 rfl ?_
  refine y_iconst 28 c94_27 rfl ?_
  refine y_icmp 39 31 c94_28 rfl rfl (yc_eq (by omega) (by omega)) (fun hb5746 => ?_) (fun hb5746 => ?_)
  · refine y_aload 40 c94_39 rfl rfl rfl ?_
    refine y_getS 43 (B := 316) c94_40 rfl kf0_4 (by first | rfl | (rw [show (yup mq5742 0 7 rq5742) 0 4 = 1 from by have e : (yup mq5742 0 7 rq5742) 0 4 = m 0 4 := ((yup_nk (by decide)).trans (hFq5742 0 4 rfl)); omega]; rfl)) ?_
    refine y_astore 44 c94_43 rfl rfl rfl ?_
    refine y_aload 45 c94_44 rfl rfl rfl ?_
    refine y_aload 46 c94_45 rfl rfl rfl ?_
    refine y_getS 49 (B := 256) c94_46 rfl kf0_5 (by first | rfl | (rw [show (yup mq5742 0 7 rq5742) 0 5 = 0 from by have e : (yup mq5742 0 7 rq5742) 0 5 = m 0 5 := ((yup_nk (by decide)).trans (hFq5742 0 5 rfl)); omega]; rfl)) ?_
    refine y_putS 52 0 c94_49 rfl kf0_4 rfl ?_
    have hT5747 := hT5744.up 0 4 (((0 : Nat) : Int)) 0 1 rfl (by omega)
    have hF5748 := hF5745.up 0 4 (((0 : Nat) : Int)) rfl
    refine y_aload 53 c94_52 rfl rfl rfl ?_
    refine y_aload 54 c94_53 rfl rfl rfl ?_
    refine y_putS 57 1 c94_54 rfl kf0_5 rfl ?_
    have hT5749 := hT5747.up 0 5 (((1 : Nat) : Int)) 0 1 rfl (by omega)
    have hF5750 := hF5748.up 0 5 (((1 : Nat) : Int)) rfl
    refine y_aload 58 c94_57 rfl rfl rfl ?_
    refine y_getR 61 c94_58 rfl kf0_2 ?_
    refine y_aload 62 c94_61 rfl rfl rfl ?_
    refine y_getS 65 (B := 256) c94_62 rfl kf0_4 (by first | rfl | (rw [show (yup (yup (yup mq5742 0 7 rq5742) 0 4 (((0 : Nat) : Int))) 0 5 (((1 : Nat) : Int))) 0 4 = 0 from by have e : (yup (yup (yup mq5742 0 7 rq5742) 0 4 (((0 : Nat) : Int))) 0 5 (((1 : Nat) : Int))) 0 4 = ((0 : Nat) : Int) := rfl; omega]; rfl)) ?_
    have hPq2 : PS 256 (yup (yup (yup mq5742 0 7 rq5742) 0 4 (((0 : Nat) : Int))) 0 5 (((1 : Nat) : Int))) := (hPq (by omega)).fr (hTq5742.atp 256 16 0 40 rfl).2 (hTq5742.atp 256 10 0 10 rfl).2 (fun k q hk => ((yup_na (by omega)).trans ((yup_na (by omega)).trans (yup_na (by omega)))))
    refine y_callUB 68 [.ref 8, .ref 256] [] c94_65 rfl rfl rfl rfl rfl (ycanO km91 ko8) (t91_256 hT5749 hPq2.2.2.2.1 hPq2.1 hPq2.2.2.1) (fun mq5751 nq5751 hq5751 => ?_)
    obtain ⟨rfl, hTq5751, hFq5751, hq5751⟩ := hq5751
    have hF5752 := hF5750.tr hFq5751 wFd8_wCl
    refine y_aload 69 c94_68 rfl rfl rfl ?_
    refine y_getR 72 c94_69 rfl kf0_3 ?_
    refine y_callUB 75 [.ref 169] [] c94_72 rfl rfl rfl rfl rfl (ycanO km92 ko169) (t92 hTq5751) (fun mq5753 nq5753 hq5753 => ?_)
    obtain ⟨rfl, hTq5753, hFq5753⟩ := hq5753
    have hF5754 := hF5752.tr hFq5753 wMx_wCl
    refine y_aload 76 c94_75 rfl rfl rfl ?_
    refine y_getR 79 c94_76 rfl kf0_2 ?_
    have es5755 : mq5753 8 4 = mq5751 8 4 := (hFq5753 8 4 rfl)
    have tb5756 := hTq5751.atp 8 4 ((-1)) 1 rfl
    refine y_callP 82 [.ref 8] [] c94_79 rfl rfl rfl rfl rfl (ycanO km93 ko8) (t93_256 hTq5753 (by omega)) (fun r5757 hr5757 => ?_)
    refine y_ireturnK c94_82 (y_fit0 _) ?_
    refine y_i2l 7 c95_6 rfl ?_
    refine y_lastoreN 8 r5757 c95_7 rfl kl413 (by decide) (by rw [Int32.toInt_toInt64, y_rng (by omega)]) ?_
    have hT5758 := hTq5753.up 413 ((0 : Int).toNat) r5757 ((-2147483648)) 2147483647 rfl (by omega)
    have hF5759 := hF5754.up 413 ((0 : Int).toNat) r5757 rfl
    refine y_goto 14 c95_8 rfl ?_
    refine y_iconst 15 c95_14 rfl ?_
    have es5760 : (yup mq5753 413 ((0 : Int).toNat) r5757) 0 4 = ((0 : Nat) : Int) := ((yup_na (by decide)).trans ((hFq5753 0 4 rfl).trans ((hFq5751 0 4 rfl).trans ((yup_nk (by decide)).trans (yup_eq _ _ _ _)))))
    have es5761 : (yup mq5753 413 ((0 : Int).toNat) r5757) 0 5 = ((1 : Nat) : Int) := ((yup_na (by decide)).trans ((hFq5753 0 5 rfl).trans ((hFq5751 0 5 rfl).trans (yup_eq _ _ _ _))))
    have es5762 : (yup mq5753 413 ((0 : Int).toNat) r5757) 8 4 = mq5751 8 4 := ((yup_na (by decide)).trans (hFq5753 8 4 rfl))
    have hP3 : PS 256 (yup mq5753 413 ((0 : Int).toNat) r5757) := (hPq (by omega)).fr (hTq5742.atp 256 16 0 40 rfl).2 (hTq5742.atp 256 10 0 10 rfl).2 (fun k q hk => ((yup_na (by omega)).trans ((hFq5753 _ _ (wMx_h (by omega))).trans ((hFq5751 _ _ (wFd8_h (by omega))).trans ((yup_na (by omega)).trans ((yup_na (by omega)).trans (yup_na (by omega))))))))
    have hu : ∀ a q, 316 ≤ a ∧ a < 376 → (yup mq5753 413 ((0 : Int).toNat) r5757) a q = m a q := fun a q ha => (((yup_na (by omega)).trans ((hFq5753 _ _ (wMx_h (by omega))).trans ((hFq5751 _ _ (wFd8_h (by omega))).trans ((yup_na (by omega)).trans ((yup_na (by omega)).trans (yup_na (by omega)))))))).trans (hFq5742 _ _ (wPs256_o (by omega)))
    refine y_ireturn c95_15 (y_fit0 _) ⟨_, rfl, by omega, Or.inl rfl, hF5759, Or.inl ⟨hT5758, by omega, by omega, hP3, hM.fr (fun k hk => hu _ _ (by omega)) (fun k hk => hu _ _ (by omega)), Or.inl (by omega)⟩⟩
  · refine y_throwB c94_31 rfl ?_
    refine yK_in kh95_3_9 ?_
    refine y_astore 12 c95_11 rfl rfl rfl ?_
    refine y_iconst 13 c95_12 rfl ?_
    have es5763 : (yup mq5742 0 7 rq5742) 0 4 = m 0 4 := ((yup_nk (by decide)).trans (hFq5742 0 4 rfl))
    have tb5764 := hT.atp 0 4 0 1 rfl
    have es5765 : (yup mq5742 0 7 rq5742) 0 5 = m 0 5 := ((yup_nk (by decide)).trans (hFq5742 0 5 rfl))
    have tb5766 := hT.atp 0 5 0 1 rfl
    have es5767 : (yup mq5742 0 7 rq5742) 8 4 = m 8 4 := ((yup_na (by decide)).trans (hFq5742 8 4 rfl))
    have tb5768 := hT.atp 8 4 ((-1)) 1 rfl
    have hu : ∀ k q, k < 60 → (yup mq5742 0 7 rq5742) (316 + k) q = m (316 + k) q := fun k q hk => (yup_na (by omega)).trans (hFq5742 _ _ (wPs256_o (by omega)))
    refine y_ireturn c95_13 (y_fit0 _) ⟨_, rfl, by omega, Or.inr rfl, hF5745, Or.inr ⟨hT5744, by omega, by omega, hS.fr (by omega) (by omega) hu, hMq.fr (fun k hk => yup_na (by omega)) (fun k hk => yup_na (by omega)), ?_⟩⟩
    have e13 := hu 0 13 (by omega)
    have e15 := hu 0 15 (by omega)
    simp only [Nat.add_zero] at e13 e15
    omega
set_option maxRecDepth 100000 in
theorem t198b_316 {L : Nat} {xs : Nat → Int32} {d nn : Nat} {m : yM} (hT : Ty gT m) (hp : m 169 4 = 1) (hS : PS 316 m) (hst : 0 ≤ m 316 17) : YW (gZ L xs) 198 (603 + d + 3) 5 [some (.ref 169), some (.ref 316), none, none] [] m nn (qTU nn m (fun _ => True)) := by
  have hB : BR316 L xs (603 + d + 2) 0 := tBR_316 201 0 (by omega)
  have hF : Fr wMx m m := Fr.rf
  have tb16 := hT.atp 316 16 0 40 rfl
  have tb10 := hT.atp 316 10 0 10 rfl
  have tb17 := hT.atp 316 17 (-1) 9 rfl
  have h17 := hS.2.2.2.2.2
  have hes : m (326 + (m 316 17).toNat) 5 ≤ m 316 16 := hS.2.2.2.2.1 (m 316 17).toNat (by omega)
  refine y_aload 6 c198_5 rfl rfl rfl ?_
  refine y_callUB 9 [.ref 169] [] c198_6 rfl rfl rfl rfl rfl (ycanO km92 ko169) (t92 hT) (fun mq5769 nq5769 hq5769 => ?_)
  obtain ⟨rfl, hTq5769, hFq5769⟩ := hq5769
  have hF5770 := hF.tr hFq5769 (fun _ _ e => e)
  refine y_aload 10 c198_9 rfl rfl rfl ?_
  refine y_iconst 11 c198_10 rfl ?_
  refine y_putI 14 c198_11 rfl kf169_5 (y_fit0 _) ?_
  have hT5771 := hTq5769.up 169 5 0 0 30 rfl (by omega)
  have hF5772 := hF5770.up 169 5 0 rfl
  refine y_aload 15 c198_14 rfl rfl rfl ?_
  refine y_iconst 16 c198_15 rfl ?_
  refine y_putI 19 c198_16 rfl kf169_6 (y_fit0 _) ?_
  have hT5773 := hT5771.up 169 6 0 0 200 rfl (by omega)
  have hF5774 := hF5772.up 169 6 0 rfl
  refine y_aload 20 c198_19 rfl rfl rfl ?_
  refine y_iconst 21 c198_20 rfl ?_
  have es5776 : (yup (yup mq5769 169 5 0) 169 6 0) 169 6 = 0 := rfl
  refine y_mI 24 [.ref 169, yI 0] [] c198_21 rfl rfl rfl rfl rfl (ycanO km186 ko169) kg198 qOut.U hF5774 (t186 hT5773 (by omega)) (fun rq5775 mq5775 hTq5775 hFq5775 hq5775 => ?_)
  have hF5777 := hF5774.tr' hFq5775
  refine y_istore 25 c198_24 rfl rfl ?_
  refine y_aload 26 c198_25 rfl rfl rfl ?_
  refine y_getS 29 (B := 316) c198_26 rfl kf169_4 (by first | rfl | (rw [show mq5775 169 4 = 1 from by have e : mq5775 169 4 = m 169 4 := ((hFq5775 169 4 rfl).trans ((yup_nk (by decide)).trans ((yup_nk (by decide)).trans (hFq5769 169 4 rfl)))); omega]; rfl)) ?_
  refine y_getR 32 c198_29 rfl kf316_5 ?_
  refine y_aload 33 c198_32 rfl rfl rfl ?_
  refine y_getS 36 (B := 316) c198_33 rfl kf169_4 (by first | rfl | (rw [show mq5775 169 4 = 1 from by have e : mq5775 169 4 = m 169 4 := ((hFq5775 169 4 rfl).trans ((yup_nk (by decide)).trans ((yup_nk (by decide)).trans (hFq5769 169 4 rfl)))); omega]; rfl)) ?_
  refine y_getX 39 (m 316 17) c198_36 rfl kf316_17 ((hFq5775 316 17 rfl).trans ((yup_na (by decide)).trans ((yup_na (by decide)).trans (hFq5769 316 17 rfl)))) ?_
  refine y_aaload 40 c198_39 rfl kr322 (by omega) ?_
  refine y_astore 41 c198_40 rfl rfl rfl ?_
  refine y_aload 42 c198_41 rfl rfl rfl ?_
  refine y_aload 43 c198_42 rfl rfl rfl ?_
  refine y_iconst 44 c198_43 rfl ?_
  have tb5779 := hTq5775.atp 169 6 0 200 rfl
  refine y_mA 47 [.ref 169, yI 0] [.ref 169] c198_44 rfl rfl rfl rfl rfl (ycanO km187 ko169) kg198 qOut.U hF5777 (t187 hTq5775 (by omega)) (fun rq5778 mq5778 hTq5778 hFq5778 hq5778 => ?_)
  have hF5780 := hF5777.tr' hFq5778
  obtain ⟨rfl, hq5778⟩ := hq5778
  refine y_aload 48 c198_47 rfl rfl rfl ?_
  refine y_callP 51 [.ref (326 + (m 316 17).toNat)] [.ref (252 + ((0 : Int)).toNat), .ref 169] c198_48 rfl rfl rfl rfl rfl (ycanO km57 (fo326 (by omega))) (t57_316 hTq5778 (by omega)) (fun r5781 hr5781 => ?_)
  refine y_iload 52 c198_51 rfl rfl ?_
  have tb5783 := hTq5778.atp 169 6 0 200 rfl
  refine y_callUB 55 [.ref 169, .ref (252 + ((0 : Int)).toNat), yI r5781, yI rq5775] [] c198_52 rfl rfl rfl rfl rfl (ycanO km188 ko169) (t188 hTq5778 (by omega) (by omega) (by omega)) (fun mq5782 nq5782 hq5782 => ?_)
  obtain ⟨rfl, hTq5782, hFq5782, hq5782⟩ := hq5782
  have hF5784 := hF5780.tr hFq5782 (fun _ _ e => e)
  refine y_aload 56 c198_55 rfl rfl rfl ?_
  refine y_aload 57 c198_56 rfl rfl rfl ?_
  refine y_getX 60 (m (326 + (m 316 17).toNat) 4) c198_57 rfl (ff326_4 (by omega)) ((hFq5782 (326 + (m 316 17).toNat) 4 (wMx_h (by omega))).trans ((hFq5778 (326 + (m 316 17).toNat) 4 (wMx_h (by omega))).trans ((hFq5775 (326 + (m 316 17).toNat) 4 (wMx_h (by omega))).trans ((yup_na (by omega)).trans ((yup_na (by omega)).trans (hFq5769 (326 + (m 316 17).toNat) 4 (wMx_h (by omega)))))))) ?_
  have tb5785 := hT.atp (326 + (m 316 17).toNat) 4 0 40 (ft326_4 (by omega))
  refine y_aload 61 c198_60 rfl rfl rfl ?_
  refine y_getX 64 (m (326 + (m 316 17).toNat) 5) c198_61 rfl (ff326_5 (by omega)) ((hFq5782 (326 + (m 316 17).toNat) 5 (wMx_h (by omega))).trans ((hFq5778 (326 + (m 316 17).toNat) 5 (wMx_h (by omega))).trans ((hFq5775 (326 + (m 316 17).toNat) 5 (wMx_h (by omega))).trans ((yup_na (by omega)).trans ((yup_na (by omega)).trans (hFq5769 (326 + (m 316 17).toNat) 5 (wMx_h (by omega)))))))) ?_
  have tb5786 := hT.atp (326 + (m 316 17).toNat) 5 0 40 (ft326_5 (by omega))
  refine y_iconst 65 c198_64 rfl ?_
  have es5788 : mq5782 169 4 = m 169 4 := ((hFq5782 169 4 rfl).trans ((hFq5778 169 4 rfl).trans ((hFq5775 169 4 rfl).trans ((yup_nk (by decide)).trans ((yup_nk (by decide)).trans (hFq5769 169 4 rfl))))))
  have tb5789 := hT.atp 169 4 ((-1)) 1 rfl
  have tb5790 := hTq5782.atp 169 6 0 200 rfl
  have es5791 : mq5782 316 16 = m 316 16 := ((hFq5782 316 16 rfl).trans ((hFq5778 316 16 rfl).trans ((hFq5775 316 16 rfl).trans ((yup_na (by decide)).trans ((yup_na (by decide)).trans (hFq5769 316 16 rfl))))))
  have es5792 : mq5782 316 10 = m 316 10 := ((hFq5782 316 10 rfl).trans ((hFq5778 316 10 rfl).trans ((hFq5775 316 10 rfl).trans ((yup_na (by decide)).trans ((yup_na (by decide)).trans (hFq5769 316 10 rfl))))))
  refine y_mI 68 [.ref 169, yI (m (326 + (m 316 17).toNat) 4), yI (m (326 + (m 316 17).toNat) 5), yI 0] [] c198_65 rfl rfl rfl rfl rfl (ycanO km197 ko169) kg198 qOut.U hF5784 (hB _ _ _ _ _ _ (by omega) hTq5782 (by omega) (hS.fr (by omega) (by omega) (fun k q _ => hF5784 _ _ (wMx_h (by omega)))) (by omega) (by omega) (by omega) (by omega)) (fun rq5787 mq5787 hTq5787 hFq5787 hq5787 => ?_)
  have hF5793 := hF5784.tr' hFq5787
  refine y_pop 69 c198_68 rfl rfl ?_
  exact y_mRU c198_69 hTq5787 hF5793 (trivial)
set_option maxRecDepth 100000 in
theorem t198_316 {L : Nat} {xs : Nat → Int32} {d nn : Nat} {m : yM} (hT : Ty gT m) (hS : PS 316 m) (hst : 0 ≤ m 316 17) : YC (gZ L xs) (603 + d + 3) 198 [.ref 169, .ref 316] m nn (qE nn m) := by
  refine YC.mkB [some (.ref 169), some (.ref 316), none, none] kn198 rfl rfl ?_
  refine y_aload 1 c198_0 rfl rfl rfl ?_
  refine y_aload 2 c198_1 rfl rfl rfl ?_
  refine y_putS 5 1 c198_2 rfl kf169_4 rfl ?_
  have hT5794 := hT.up 169 4 (((1 : Nat) : Int)) ((-1)) 1 rfl (by omega)
  refine YW.mono (t198b_316 (m := yup m 169 4 (((1 : Nat) : Int))) hT5794 (yup_eq _ _ _ _) (hS.fr (hT.atp 316 16 0 40 rfl).2 (hT.atp 316 10 0 10 rfl).2 (fun k q _ => yup_na (by omega))) (by rw [yup_na (by decide)]; exact hst)) (fun o m2 n2 h => ?_)
  have hz : Fr wMz m (yup m 169 4 (((1 : Nat) : Int))) := Fr.rf.up 169 4 _ rfl
  rcases h with ⟨e1, e2, e3, e4, -⟩ | ⟨q, x, e1, e2, e3, e4, e5⟩
  · exact Or.inl ⟨e1, e2, e3, hz.tr e4 wMx_wMz⟩
  · exact Or.inr ⟨q, x, e1, e2, e3, hz.tr e4 wMx_wMz, e5⟩
set_option maxRecDepth 100000 in
theorem t200_316 {L : Nat} {xs : Nat → Int32} {d nn : Nat} {m : yM} (hC : CI 316 266 1 m) : YC (gZ L xs) (603 + d + 5) 200 [.ref 0, .ref 413] m nn (qW nn m) := by
  have hC0 := hC
  obtain ⟨hT, h04, h05, hS, hM2, h84⟩ := hC
  have hM : MP 326 m := hS.2.2.2.1
  have tb9 := hT.atp 316 9 0 6 rfl
  have tb10 := hT.atp 316 10 0 10 rfl
  have tb11 := hT.atp 316 11 0 8 rfl
  have tb12 := hT.atp 316 12 0 12 rfl
  have tb13 := hT.atp 316 13 0 8 rfl
  have tb14 := hT.atp 316 14 0 12 rfl
  have tb15 := hT.atp 316 15 0 48 rfl
  have tb16 := hT.atp 316 16 0 40 rfl
  have tb17 := hT.atp 316 17 (-1) 9 rfl
  refine YC.mkB [some (.ref 0), some (.ref 413), none] kn200 rfl rfl ?_
  have hF : Fr wCl m m := Fr.rf
  refine y_aload 1 c200_0 rfl rfl rfl ?_
  refine y_iconst 2 c200_1 rfl ?_
  refine y_aload 3 c200_2 rfl rfl rfl ?_
  refine y_inlB 6 [.ref 0] [yI 0, .ref 413] [some (.ref 0)] c200_3 rfl rfl rfl rfl rfl (ycanO km199 ko0) kn199 rfl rfl ?_
  refine y_aload 1 c199_0 rfl rfl rfl ?_
  refine y_getS 4 (B := 316) c199_1 rfl kf0_4 (by first | rfl | (rw [show m 0 4 = 1 from by have e : m 0 4 = m 0 4 := rfl; omega]; rfl)) ?_
  refine y_getX 7 (m 316 17) c199_4 rfl kf316_17 rfl ?_
  refine y_iconst 8 c199_7 rfl ?_
  refine y_icmp 19 11 c199_8 rfl rfl (yc_ne (by omega) (by omega)) (fun hb5796 => ?_) (fun hb5796 => ?_)
  · refine y_aload 20 c199_19 rfl rfl rfl ?_
    refine y_getR 23 c199_20 rfl kf0_3 ?_
    refine y_aload 24 c199_23 rfl rfl rfl ?_
    refine y_getS 27 (B := 316) c199_24 rfl kf0_4 (by first | rfl | (rw [show m 0 4 = 1 from by have e : m 0 4 = m 0 4 := rfl; omega]; rfl)) ?_
    refine y_call 30 c199_27 rfl rfl rfl (Nat.le_of_ble_eq_true rfl) (Nat.le_of_ble_eq_true rfl) (ycanO km198 ko169) (t198_316 (d := d) hT hS (by omega)) (fun v mq5797 nq5797 hq5797 => ?_) (fun qq5797 xq5797 mq5797 nq5797 hq5797 => ?_)
    · rcases hq5797 with ⟨e, rfl, hTq5797, hFq5797⟩ | ⟨q, x, e, -⟩
      · cases e
        have hF5798 := hF.tr hFq5797 wMz_wCl
        show YW (gZ L xs) _ _ _ _ [] _ _ _
        refine y_aload 31 c199_30 rfl rfl rfl ?_
        refine y_getR 34 c199_31 rfl kf0_3 ?_
        refine y_getX 37 (mq5797 169 6) c199_34 rfl kf169_6 rfl ?_
        have tb5799 := hTq5797.atp 169 6 0 200 rfl
        refine y_ireturnK c199_37 (y_fit0 _) ?_
        refine y_i2l 7 c200_6 rfl ?_
        refine y_lastoreN 8 (mq5797 169 6) c200_7 rfl kl413 (by decide) (by rw [Int32.toInt_toInt64, y_rng (by omega)]) ?_
        have hT5800 := hTq5797.up 413 ((0 : Int).toNat) (mq5797 169 6) ((-2147483648)) 2147483647 rfl (by omega)
        have hF5801 := hF5798.up 413 ((0 : Int).toNat) (mq5797 169 6) rfl
        refine y_goto 23 c200_8 rfl ?_
        refine y_iconst 24 c200_23 rfl ?_
        exact y_ireturn c200_24 (y_fit0 _) ⟨_, rfl, by omega, Or.inl rfl, hF5801, Or.inr (CI.fr hC0 (by omega) (by omega) (by omega) hT5800 (fun a q ha => ((yup_na (by omega)).trans (hFq5797 a q (wMz_c ha)))))⟩
      · cases e
    · rcases hq5797 with ⟨e, -⟩ | ⟨q, x, e, rfl, hTq5797, hFq5797, g1, g2⟩
      · cases e
      · cases e
        refine Or.inr ⟨khn kg199, ?_⟩
        have hF5802 := hF.tr hFq5797 wMz_wCl
        have hq4 : qq5797 = 10 ∨ qq5797 = 11 ∨ qq5797 = 12 ∨ qq5797 = 13 := by omega
        rcases hq4 with rfl | rfl | rfl | rfl
        · refine yK_in kh200_3_10 ?_
          refine y_astore 21 c200_20 rfl rfl rfl ?_
          refine y_iconst 22 c200_21 rfl ?_
          exact y_ireturn c200_22 (y_fit0 _) ⟨_, rfl, by omega, Or.inr rfl, hF5802, Or.inr (CI.fr hC0 (by omega) (by omega) (by omega) hTq5797 (fun a q ha => (hFq5797 a q (wMz_c ha))))⟩
        · refine yK_in kh200_3_11 ?_
          refine y_astore 12 c200_11 rfl rfl rfl ?_
          refine y_iconst 13 c200_12 rfl ?_
          exact y_ireturn c200_13 (y_fit0 _) ⟨_, rfl, by omega, Or.inr rfl, hF5802, Or.inr (CI.fr hC0 (by omega) (by omega) (by omega) hTq5797 (fun a q ha => (hFq5797 a q (wMz_c ha))))⟩
        · refine yK_in kh200_3_12 ?_
          refine y_astore 15 c200_14 rfl rfl rfl ?_
          refine y_iconst 16 c200_15 rfl ?_
          exact y_ireturn c200_16 (y_fit0 _) ⟨_, rfl, by omega, Or.inr rfl, hF5802, Or.inr (CI.fr hC0 (by omega) (by omega) (by omega) hTq5797 (fun a q ha => (hFq5797 a q (wMz_c ha))))⟩
        · refine yK_in kh200_3_13 ?_
          refine y_astore 18 c200_17 rfl rfl rfl ?_
          refine y_iconst 19 c200_18 rfl ?_
          exact y_ireturn c200_19 (y_fit0 _) ⟨_, rfl, by omega, Or.inr rfl, hF5802, Or.inr (CI.fr hC0 (by omega) (by omega) (by omega) hTq5797 (fun a q ha => (hFq5797 a q (wMz_c ha))))⟩
  · refine y_throwB c199_11 rfl ?_
    refine yK_in kh200_3_11 ?_
    refine y_astore 12 c200_11 rfl rfl rfl ?_
    refine y_iconst 13 c200_12 rfl ?_
    exact y_ireturn c200_13 (y_fit0 _) ⟨_, rfl, by omega, Or.inr rfl, hF, Or.inr hC0⟩
end
section
/-! THE MODEL: what is sound while a text is read -/
/-- how much of the text is left -/
def mu (m : yM) : Int := m 376 1 - m 376 6 + (if m 376 3 = 0 then 0 else 1)
theorem mu_fr {m m' : yM} (h1 : m' 376 1 = m 376 1) (h3 : m' 376 3 = m 376 3) (h6 : m' 376 6 = m 376 6) : mu m' = mu m := by
  unfold mu
  rw [h1, h3, h6]
theorem mu_lo {m : yM} (h : m 376 6 ≤ m 376 1) : 0 ≤ mu m := by
  unfold mu
  split <;> omega
theorem mu_le {m m' : yM} (h1 : m' 376 1 = m 376 1) (h : (m' 376 3 = 0 ∧ m' 376 6 = m 376 6) ∨ (1 ≤ m' 376 3 ∧ m 376 6 < m' 376 6)) : mu m' ≤ mu m ∧ (m 376 3 ≠ 0 → mu m' < mu m) := by
  unfold mu
  rcases h with ⟨h2, h3⟩ | ⟨h2, h3⟩
  · rw [if_pos h2]
    split <;> omega
  · rw [if_neg (by omega)]
    split <;> omega
/-- the operation at b -/
def OW (m : yM) (b : Nat) : Prop := (1 ≤ m 403 b ∧ m 403 b ≤ 12) ∧ (0 ≤ m 403 (b + 1) ∧ m 403 (b + 1) ≤ 9) ∧ (-1 ≤ m 403 (b + 2) ∧ m 403 (b + 2) ≤ 47) ∧ (0 ≤ m 403 (b + 3) ∧ m 403 (b + 3) ≤ 124) ∧ (m 403 b ≠ 7 → 0 ≤ m 403 (b + 2)) ∧ (m 403 b = 1 → m 403 (b + 3) ≤ 11) ∧ ((2 ≤ m 403 b ∧ m 403 b ≤ 5) ∨ m 403 b = 7 → m 403 (b + 3) ≤ 47) ∧ (m 403 b = 3 → 0 ≤ m 403 (b + 4) ∧ m 403 (b + 4) ≤ 7) ∧
  (m 403 b = 7 → 0 ≤ m 403 (b + 5) ∧ m 403 (b + 5) ≤ 191 ∧ m 403 (b + 5) % 16 ≤ 2 ∧ (1 ≤ m 403 (b + 5) % 16 → 0 ≤ m 403 (b + 6) ∧ m 403 (b + 6) ≤ 47) ∧ (2 ≤ m 403 (b + 5) % 16 → 0 ≤ m 403 (b + 7) ∧ m 403 (b + 7) ≤ 47))
/-- the operations below n are sound; jumps go to n at most; calls are numbered below c, rising -/
def OX (p : Nat) (m : yM) (n c : Int) : Prop := (∀ o : Nat, (o : Int) < n → OW m (1000 * p + 8 * o)) ∧
  (∀ o : Nat, (o : Int) < n → (9 ≤ m 403 (1000 * p + 8 * o) ∧ m 403 (1000 * p + 8 * o) ≤ 11) → m 403 (1000 * p + 8 * o + 3) ≤ n) ∧
  (∀ o : Nat, (o : Int) < n → m 403 (1000 * p + 8 * o) = 7 → m 403 (1000 * p + 8 * o + 5) / 16 < c) ∧
  (∀ i j : Nat, i < j → (j : Int) < n → m 403 (1000 * p + 8 * i) = 7 → m 403 (1000 * p + 8 * j) = 7 → m 403 (1000 * p + 8 * i + 5) / 16 < m 403 (1000 * p + 8 * j + 5) / 16)
/-- a jump goes on, or back to a loop's test -/
def JK (p : Nat) (m : yM) (o : Nat) : Prop := (o : Int) < m 403 (1000 * p + 8 * o + 3) ∨ m 403 (1000 * p + 8 * (m 403 (1000 * p + 8 * o + 3)).toNat) = 10
/-- every jump does, but those of blocks that stand -/
def JX (p : Nat) (m : yM) (n : Int) : Prop := ∀ o : Nat, (o : Int) < n → m 403 (1000 * p + 8 * o) = 11 → JK p m o ∨ ∃ e : Nat, e < 3 ∧ (e : Int) < m 376 10 ∧ m 378 e = 2 ∧ m 379 e = o
/-- the blocks that stand -/
def BX (p : Nat) (m : yM) (n : Int) : Prop := ∀ e : Nat, e < 3 → (e : Int) < m 376 10 → 0 ≤ m 379 e ∧ m 379 e < n ∧ 1 ≤ m 378 e ∧ (m 378 e = 3 → m 403 (1000 * p + 8 * (m 379 e).toNat) = 10) ∧ (m 378 e = 1 → m 403 (1000 * p + 8 * (m 379 e).toNat) = 9) ∧ (m 378 e = 2 → m 403 (1000 * p + 8 * (m 379 e).toNat) = 11)
/-- the methods -/
def MX (p : Nat) (m : yM) (k n : Int) : Prop := ∀ i : Nat, (i : Int) < k → m 398 (10 * p + i) + 2 + m 397 (10 * p + i) ≤ 48 ∧ m 399 (10 * p + i) ≤ n
/-- classes lie below earlier ones -/
def UX (p : Nat) (m : yM) (n : Int) : Prop := ∀ k : Nat, (k : Int) < n → m 392 (6 * p + k) < k
/-- the casts' variables -/
def CV (p : Nat) (m : yM) (n : Int) : Prop := ∀ c : Nat, (c : Int) < n → 0 ≤ m 401 (8 * p + c)
/-- what is new is of a site that was told -/
def NS (p : Nat) (m : yM) (n s : Int) : Prop := ∀ o : Nat, (o : Int) < n → m 403 (1000 * p + 8 * o) = 1 → m 403 (1000 * p + 8 * o + 3) < s
/-- all of it -/
def XS (p : Nat) (m : yM) : Prop := OX p m (m 390 p) (m 386 p) ∧ JX p m (m 390 p) ∧ BX p m (m 390 p) ∧ MX p m (m 384 p) (m 390 p) ∧ UX p m (m 383 p) ∧ m 376 17 = m 388 p - 1 + m 387 p ∧ 1 ≤ m 388 p ∧ CV p m (m 387 p) ∧ NS p m (m 390 p) (m 388 p)
/-- the places that it speaks of -/
def vXs (p a q : Nat) : Bool := (a == 376 && (q == 10 || q == 17)) || a == 378 || a == 379 || ((a == 383 || a == 384 || a == 386 || a == 387 || a == 388 || a == 390) && q == p) || a == 392 || a == 397 || a == 398 || a == 399 || a == 401 || a == 403
theorem XS.fr {p : Nat} {m m' : yM} (h : XS p m) (e : ∀ a q, vXs p a q = true → m' a q = m a q) : XS p m' := by
  have e3 : ∀ q, m' 403 q = m 403 q := fun q => e _ _ (by simp [vXs])
  have e8 : ∀ q, m' 378 q = m 378 q := fun q => e _ _ (by simp [vXs])
  have e9 : ∀ q, m' 379 q = m 379 q := fun q => e _ _ (by simp [vXs])
  have eu : ∀ q, m' 392 q = m 392 q := fun q => e _ _ (by simp [vXs])
  have f7 : ∀ q, m' 397 q = m 397 q := fun q => e _ _ (by simp [vXs])
  have f8 : ∀ q, m' 398 q = m 398 q := fun q => e _ _ (by simp [vXs])
  have f9 : ∀ q, m' 399 q = m 399 q := fun q => e _ _ (by simp [vXs])
  have f1 : ∀ q, m' 401 q = m 401 q := fun q => e _ _ (by simp [vXs])
  unfold XS OX JX JK BX MX UX OW CV NS at h ⊢
  simp only [e3, f1, e8, e9, eu, f7, f8, f9, e 376 10 (by simp [vXs]), e 376 17 (by simp [vXs]), e 383 p (by simp [vXs]), e 384 p (by simp [vXs]), e 386 p (by simp [vXs]), e 387 p (by simp [vXs]), e 388 p (by simp [vXs]), e 390 p (by simp [vXs])]
  exact h
theorem XS.fw {p : Nat} {m m' : yM} {w : Nat → Nat → Bool} (h : XS p m) (F : Fr w m m') (hd : ∀ a q, vXs p a q = true → w a q = false) : XS p m' := h.fr (fun a q ha => F a q (hd a q ha))
/-- what emit does -/
def EM (p : Nat) (m m' : yM) (w a b c : Int) : Prop := m' 390 p = m 390 p + 1 ∧ m' 403 (1000 * p + 8 * (m 390 p).toNat) = w ∧ m' 403 (1000 * p + 8 * (m 390 p).toNat + 1) = m 384 p - 1 ∧ m' 403 (1000 * p + 8 * (m 390 p).toNat + 2) = a ∧ m' 403 (1000 * p + 8 * (m 390 p).toNat + 3) = b ∧ m' 403 (1000 * p + 8 * (m 390 p).toNat + 4) = c ∧ (∀ q, q < 1000 * p + 8 * (m 390 p).toNat ∨ 1000 * p + 8 * (m 390 p).toNat + 8 ≤ q → m' 403 q = m 403 q)
end
section
/-! CONTRACTS: the model. Printed by wip/whole/gen95.py -/
set_option maxRecDepth 100000 in
theorem t22m {L : Nat} {xs : Nat → Int32} {d nn : Nat} {m : yM} {v l h : Int} (hv : -2147483648 ≤ v ∧ v < 2147483648) (hl : -2147483648 ≤ l ∧ l < 2147483648) (hh : -2147483648 ≤ h ∧ h < 2147483648) : YC (gZ L xs) d 22 [yI v, yI l, yI h] m nn (qP m nn (fun r => (r = 1 ∧ l ≤ v ∧ v ≤ h) ∨ (r = 0 ∧ ¬ (l ≤ v ∧ v ≤ h)))) := by
  refine YC.mkB [some (yI v), some (yI l), some (yI h)] kn22 rfl rfl ?_
  refine y_iload 1 c22_0 rfl rfl ?_
  refine y_iload 2 c22_1 rfl rfl ?_
  refine y_icmp 14 5 c22_2 rfl rfl (yc_lt (by omega) (by omega)) (fun hb5809 => ?_) (fun hb5809 => ?_)
  · refine y_iconst 15 c22_14 rfl ?_
    exact y_retP c22_15 (y_fit1 (by omega)) (by omega)
  · refine y_iload 6 c22_5 rfl rfl ?_
    refine y_iload 7 c22_6 rfl rfl ?_
    refine y_icmp 14 10 c22_7 rfl rfl (yc_gt (by omega) (by omega)) (fun hb5810 => ?_) (fun hb5810 => ?_)
    · refine y_iconst 15 c22_14 rfl ?_
      exact y_retP c22_15 (y_fit1 (by omega)) (by omega)
    · refine y_iconst 11 c22_10 rfl ?_
      refine y_goto 15 c22_11 rfl ?_
      exact y_retP c22_15 (y_fit1 (by omega)) (by omega)
set_option maxRecDepth 100000 in
theorem t97 {L : Nat} {xs : Nat → Int32} {d nn : Nat} {m : yM} {c : Int} (hc : 0 ≤ c ∧ c ≤ 255) : YC (gZ L xs) d 97 [yI c] m nn (qP m nn (fun r => r = 0 ∨ r = 1)) := by
  refine YC.mkB [some (yI c)] kn97 rfl rfl ?_
  refine y_iload 1 c97_0 rfl rfl ?_
  refine y_iconst 3 c97_1 rfl ?_
  refine y_icmp 54 6 c97_3 rfl rfl (yc_eq (by omega) (by omega)) (fun hb5811 => ?_) (fun hb5811 => ?_)
  · refine y_iconst 55 c97_54 rfl ?_
    refine y_goto 59 c97_55 rfl ?_
    exact y_retP c97_59 (y_fit1 (by omega)) (by omega)
  · refine y_iload 7 c97_6 rfl rfl ?_
    refine y_iconst 9 c97_7 rfl ?_
    refine y_icmp 54 12 c97_9 rfl rfl (yc_eq (by omega) (by omega)) (fun hb5812 => ?_) (fun hb5812 => ?_)
    · refine y_iconst 55 c97_54 rfl ?_
      refine y_goto 59 c97_55 rfl ?_
      exact y_retP c97_59 (y_fit1 (by omega)) (by omega)
    · refine y_iload 13 c97_12 rfl rfl ?_
      refine y_iconst 15 c97_13 rfl ?_
      refine y_icmp 54 18 c97_15 rfl rfl (yc_eq (by omega) (by omega)) (fun hb5813 => ?_) (fun hb5813 => ?_)
      · refine y_iconst 55 c97_54 rfl ?_
        refine y_goto 59 c97_55 rfl ?_
        exact y_retP c97_59 (y_fit1 (by omega)) (by omega)
      · refine y_iload 19 c97_18 rfl rfl ?_
        refine y_iconst 21 c97_19 rfl ?_
        refine y_icmp 54 24 c97_21 rfl rfl (yc_eq (by omega) (by omega)) (fun hb5814 => ?_) (fun hb5814 => ?_)
        · refine y_iconst 55 c97_54 rfl ?_
          refine y_goto 59 c97_55 rfl ?_
          exact y_retP c97_59 (y_fit1 (by omega)) (by omega)
        · refine y_iload 25 c97_24 rfl rfl ?_
          refine y_iconst 27 c97_25 rfl ?_
          refine y_icmp 54 30 c97_27 rfl rfl (yc_eq (by omega) (by omega)) (fun hb5815 => ?_) (fun hb5815 => ?_)
          · refine y_iconst 55 c97_54 rfl ?_
            refine y_goto 59 c97_55 rfl ?_
            exact y_retP c97_59 (y_fit1 (by omega)) (by omega)
          · refine y_iload 31 c97_30 rfl rfl ?_
            refine y_iconst 33 c97_31 rfl ?_
            refine y_icmp 54 36 c97_33 rfl rfl (yc_eq (by omega) (by omega)) (fun hb5816 => ?_) (fun hb5816 => ?_)
            · refine y_iconst 55 c97_54 rfl ?_
              refine y_goto 59 c97_55 rfl ?_
              exact y_retP c97_59 (y_fit1 (by omega)) (by omega)
            · refine y_iload 37 c97_36 rfl rfl ?_
              refine y_iconst 39 c97_37 rfl ?_
              refine y_icmp 54 42 c97_39 rfl rfl (yc_eq (by omega) (by omega)) (fun hb5817 => ?_) (fun hb5817 => ?_)
              · refine y_iconst 55 c97_54 rfl ?_
                refine y_goto 59 c97_55 rfl ?_
                exact y_retP c97_59 (y_fit1 (by omega)) (by omega)
              · refine y_iload 43 c97_42 rfl rfl ?_
                refine y_iconst 45 c97_43 rfl ?_
                refine y_icmp 54 48 c97_45 rfl rfl (yc_eq (by omega) (by omega)) (fun hb5818 => ?_) (fun hb5818 => ?_)
                · refine y_iconst 55 c97_54 rfl ?_
                  refine y_goto 59 c97_55 rfl ?_
                  exact y_retP c97_59 (y_fit1 (by omega)) (by omega)
                · refine y_iload 49 c97_48 rfl rfl ?_
                  refine y_iconst 51 c97_49 rfl ?_
                  refine y_icmp 58 54 c97_51 rfl rfl (yc_ne (by omega) (by omega)) (fun hb5819 => ?_) (fun hb5819 => ?_)
                  · refine y_iconst 59 c97_58 rfl ?_
                    exact y_retP c97_59 (y_fit1 (by omega)) (by omega)
                  · refine y_iconst 55 c97_54 rfl ?_
                    refine y_goto 59 c97_55 rfl ?_
                    exact y_retP c97_59 (y_fit1 (by omega)) (by omega)
set_option maxRecDepth 100000 in
theorem t98 {L : Nat} {xs : Nat → Int32} {d nn : Nat} {m : yM} {c : Int} (hc : 0 ≤ c ∧ c ≤ 255) : YC (gZ L xs) (d + 1) 98 [yI c] m nn (qP m nn (fun r => (r = 1 ∧ 97 ≤ c ∧ c ≤ 122) ∨ (r = 0 ∧ ¬ (97 ≤ c ∧ c ≤ 122)))) := by
  refine YC.mkB [some (yI c)] kn98 rfl rfl ?_
  refine y_iload 1 c98_0 rfl rfl ?_
  refine y_iconst 3 c98_1 rfl ?_
  refine y_iconst 5 c98_3 rfl ?_
  refine y_callP 8 [yI c, yI 97, yI 122] [] c98_5 rfl rfl rfl rfl rfl (ycanS km22) (t22m (by omega) (by omega) (by omega)) (fun r5820 hr5820 => ?_)
  exact y_retP c98_8 (y_fit1 (by omega)) (by omega)
set_option maxRecDepth 100000 in
theorem t100 {L : Nat} {xs : Nat → Int32} {d nn : Nat} {m : yM} {v c : Int} (hc : 0 ≤ c ∧ c ≤ 255) : YC (gZ L xs) d 100 [yI v, yI c] m nn (qP m nn (fun r => -2147483648 ≤ r ∧ r < 2147483648)) := by
  refine YC.mkB [some (yI v), some (yI c)] kn100 rfl rfl ?_
  refine y_iload 1 c100_0 rfl rfl ?_
  refine y_if 8 4 c100_1 rfl rfl (yz_ne (by omega)) (fun hb5821 => ?_) (fun hb5821 => ?_)
  · refine y_iconst 10 c100_8 rfl ?_
    refine y_iload 11 c100_10 rfl rfl ?_
    refine y_imul 12 c100_11 rfl ?_
    refine y_iload 13 c100_12 rfl rfl ?_
    refine y_iadd 14 c100_13 rfl ?_
    refine y_iconst 16 c100_14 rfl ?_
    refine y_isub 17 c100_16 rfl ?_
    refine y_iconst 18 c100_17 rfl ?_
    refine y_iadd 19 c100_18 rfl ?_
    refine y_wrap (fun z5822 hz5822 gz5822 => ?_)
    exact y_retP c100_19 (y_fit0 _) gz5822
  · refine y_iload 5 c100_4 rfl rfl ?_
    refine y_goto 19 c100_5 rfl ?_
    refine y_wrap (fun z5823 hz5823 gz5823 => ?_)
    exact y_retP c100_19 (y_fit0 _) gz5823
set_option maxRecDepth 100000 in
theorem t101 {L : Nat} {xs : Nat → Int32} {d nn : Nat} {m : yM} {a : Int} (ha : 0 ≤ a ∧ a ≤ 255) {b : Int} (hb : 0 ≤ b ∧ b ≤ 255) {c : Int} (hc : 0 ≤ c ∧ c ≤ 255) {e : Int} (he : 0 ≤ e ∧ e ≤ 255) {f : Int} (hf : 0 ≤ f ∧ f ≤ 255) {g : Int} (hg : 0 ≤ g ∧ g ≤ 255) : YC (gZ L xs) (d + 1) 101 [yI a, yI b, yI c, yI e, yI f, yI g] m nn (qP m nn (fun r => -2147483648 ≤ r ∧ r < 2147483648)) := by
  refine YC.mkB [some (yI a), some (yI b), some (yI c), some (yI e), some (yI f), some (yI g)] kn101 rfl rfl ?_
  refine y_iconst 1 c101_0 rfl ?_
  refine y_iload 2 c101_1 rfl rfl ?_
  refine y_callP 5 [yI 0, yI a] [] c101_2 rfl rfl rfl rfl rfl (ycanS km100) (t100 (by omega)) (fun r5824 hr5824 => ?_)
  refine y_iload 6 c101_5 rfl rfl ?_
  refine y_callP 9 [yI r5824, yI b] [] c101_6 rfl rfl rfl rfl rfl (ycanS km100) (t100 (by omega)) (fun r5825 hr5825 => ?_)
  refine y_iload 10 c101_9 rfl rfl ?_
  refine y_callP 13 [yI r5825, yI c] [] c101_10 rfl rfl rfl rfl rfl (ycanS km100) (t100 (by omega)) (fun r5826 hr5826 => ?_)
  refine y_iload 14 c101_13 rfl rfl ?_
  refine y_callP 17 [yI r5826, yI e] [] c101_14 rfl rfl rfl rfl rfl (ycanS km100) (t100 (by omega)) (fun r5827 hr5827 => ?_)
  refine y_iload 19 c101_17 rfl rfl ?_
  refine y_callP 22 [yI r5827, yI f] [] c101_19 rfl rfl rfl rfl rfl (ycanS km100) (t100 (by omega)) (fun r5828 hr5828 => ?_)
  refine y_iload 24 c101_22 rfl rfl ?_
  refine y_callP 27 [yI r5828, yI g] [] c101_24 rfl rfl rfl rfl rfl (ycanS km100) (t100 (by omega)) (fun r5829 hr5829 => ?_)
  exact y_retP c101_27 (y_fit0 _) (by omega)
set_option maxRecDepth 100000 in
theorem t102 {L : Nat} {xs : Nat → Int32} {d nn : Nat} {m : yM} {v : Int} (hT : Ty gT m) (hv : -2147483648 ≤ v ∧ v < 2147483648) : YC (gZ L xs) d 102 [.ref 376, yI v] m nn (qP m nn (fun r => (r = 0 ∨ r = 1) ∧ (r = 1 → m 376 3 = 1))) := by
  refine YC.mkB [some (.ref 376), some (yI v)] kn102 rfl rfl ?_
  refine y_aload 1 c102_0 rfl rfl rfl ?_
  refine y_getX 4 (m 376 3) c102_1 rfl kf376_3 rfl ?_
  have tb5830 := hT.atp 376 3 0 3 rfl
  refine y_iconst 5 c102_4 rfl ?_
  refine y_icmp 20 8 c102_5 rfl rfl (yc_ne (by omega) (by omega)) (fun hb5831 => ?_) (fun hb5831 => ?_)
  · refine y_iconst 21 c102_20 rfl ?_
    exact y_retP c102_21 (y_fit1 (by omega)) (by omega)
  · refine y_aload 9 c102_8 rfl rfl rfl ?_
    refine y_getX 12 (m 376 4) c102_9 rfl kf376_4 rfl ?_
    have tb5832 := hT.atp 376 4 ((-2147483648)) 2147483647 rfl
    refine y_iload 13 c102_12 rfl rfl ?_
    refine y_icmp 20 16 c102_13 rfl rfl (yc_ne (by omega) (by omega)) (fun hb5833 => ?_) (fun hb5833 => ?_)
    · refine y_iconst 21 c102_20 rfl ?_
      exact y_retP c102_21 (y_fit1 (by omega)) (by omega)
    · refine y_iconst 17 c102_16 rfl ?_
      refine y_goto 21 c102_17 rfl ?_
      exact y_retP c102_21 (y_fit1 (by omega)) (by omega)
set_option maxRecDepth 100000 in
theorem t103 {L : Nat} {xs : Nat → Int32} {d nn : Nat} {m : yM} (hT : Ty gT m) : YC (gZ L xs) (d + 2) 103 [.ref 376] m nn (qP m nn (fun r => (r = 0 ∨ r = 1) ∧ (r = 1 → m 376 3 = 1))) := by
  refine YC.mkB [some (.ref 376)] kn103 rfl rfl ?_
  refine y_aload 1 c103_0 rfl rfl rfl ?_
  refine y_iconst 3 c103_1 rfl ?_
  refine y_iconst 5 c103_3 rfl ?_
  refine y_iconst 7 c103_5 rfl ?_
  refine y_iconst 9 c103_7 rfl ?_
  refine y_iconst 11 c103_9 rfl ?_
  refine y_iconst 12 c103_11 rfl ?_
  refine y_callP 15 [yI 99, yI 108, yI 97, yI 115, yI 115, yI 0] [.ref 376] c103_12 rfl rfl rfl rfl rfl (ycanS km101) (t101 (by omega) (by omega) (by omega) (by omega) (by omega) (by omega)) (fun r5834 hr5834 => ?_)
  refine y_callP 18 [.ref 376, yI r5834] [] c103_15 rfl rfl rfl rfl rfl (ycanO km102 ko376) (t102 hT (by omega)) (fun r5835 hr5835 => ?_)
  exact y_retP c103_18 (y_fit1 (by omega)) (by omega)
set_option maxRecDepth 100000 in
theorem t106 {L : Nat} {xs : Nat → Int32} {d nn : Nat} {m : yM} (hT : Ty gT m) : YC (gZ L xs) (d + 2) 106 [.ref 376] m nn (qP m nn (fun r => (r = 0 ∨ r = 1) ∧ (r = 1 → m 376 3 = 1))) := by
  refine YC.mkB [some (.ref 376)] kn106 rfl rfl ?_
  refine y_aload 1 c106_0 rfl rfl rfl ?_
  refine y_iconst 3 c106_1 rfl ?_
  refine y_iconst 5 c106_3 rfl ?_
  refine y_iconst 7 c106_5 rfl ?_
  refine y_iconst 9 c106_7 rfl ?_
  refine y_iconst 11 c106_9 rfl ?_
  refine y_iconst 12 c106_11 rfl ?_
  refine y_callP 15 [yI 102, yI 105, yI 101, yI 108, yI 100, yI 0] [.ref 376] c106_12 rfl rfl rfl rfl rfl (ycanS km101) (t101 (by omega) (by omega) (by omega) (by omega) (by omega) (by omega)) (fun r5836 hr5836 => ?_)
  refine y_callP 18 [.ref 376, yI r5836] [] c106_15 rfl rfl rfl rfl rfl (ycanO km102 ko376) (t102 hT (by omega)) (fun r5837 hr5837 => ?_)
  exact y_retP c106_18 (y_fit1 (by omega)) (by omega)
set_option maxRecDepth 100000 in
theorem t107 {L : Nat} {xs : Nat → Int32} {d nn : Nat} {m : yM} (hT : Ty gT m) : YC (gZ L xs) (d + 2) 107 [.ref 376] m nn (qP m nn (fun r => (r = 0 ∨ r = 1) ∧ (r = 1 → m 376 3 = 1))) := by
  refine YC.mkB [some (.ref 376)] kn107 rfl rfl ?_
  refine y_aload 1 c107_0 rfl rfl rfl ?_
  refine y_iconst 3 c107_1 rfl ?_
  refine y_iconst 5 c107_3 rfl ?_
  refine y_iconst 7 c107_5 rfl ?_
  refine y_iconst 8 c107_7 rfl ?_
  refine y_iconst 9 c107_8 rfl ?_
  refine y_iconst 10 c107_9 rfl ?_
  refine y_callP 13 [yI 100, yI 101, yI 102, yI 0, yI 0, yI 0] [.ref 376] c107_10 rfl rfl rfl rfl rfl (ycanS km101) (t101 (by omega) (by omega) (by omega) (by omega) (by omega) (by omega)) (fun r5838 hr5838 => ?_)
  refine y_callP 16 [.ref 376, yI r5838] [] c107_13 rfl rfl rfl rfl rfl (ycanO km102 ko376) (t102 hT (by omega)) (fun r5839 hr5839 => ?_)
  exact y_retP c107_16 (y_fit1 (by omega)) (by omega)
set_option maxRecDepth 100000 in
theorem t108 {L : Nat} {xs : Nat → Int32} {d nn : Nat} {m : yM} (hT : Ty gT m) : YC (gZ L xs) (d + 2) 108 [.ref 376] m nn (qP m nn (fun r => (r = 0 ∨ r = 1) ∧ (r = 1 → m 376 3 = 1))) := by
  refine YC.mkB [some (.ref 376)] kn108 rfl rfl ?_
  refine y_aload 1 c108_0 rfl rfl rfl ?_
  refine y_iconst 3 c108_1 rfl ?_
  refine y_iconst 5 c108_3 rfl ?_
  refine y_iconst 7 c108_5 rfl ?_
  refine y_iconst 8 c108_7 rfl ?_
  refine y_iconst 9 c108_8 rfl ?_
  refine y_iconst 10 c108_9 rfl ?_
  refine y_callP 13 [yI 110, yI 101, yI 119, yI 0, yI 0, yI 0] [.ref 376] c108_10 rfl rfl rfl rfl rfl (ycanS km101) (t101 (by omega) (by omega) (by omega) (by omega) (by omega) (by omega)) (fun r5840 hr5840 => ?_)
  refine y_callP 16 [.ref 376, yI r5840] [] c108_13 rfl rfl rfl rfl rfl (ycanO km102 ko376) (t102 hT (by omega)) (fun r5841 hr5841 => ?_)
  exact y_retP c108_16 (y_fit1 (by omega)) (by omega)
set_option maxRecDepth 100000 in
theorem t109 {L : Nat} {xs : Nat → Int32} {d nn : Nat} {m : yM} (hT : Ty gT m) : YC (gZ L xs) (d + 2) 109 [.ref 376] m nn (qP m nn (fun r => (r = 0 ∨ r = 1) ∧ (r = 1 → m 376 3 = 1))) := by
  refine YC.mkB [some (.ref 376)] kn109 rfl rfl ?_
  refine y_aload 1 c109_0 rfl rfl rfl ?_
  refine y_iconst 3 c109_1 rfl ?_
  refine y_iconst 5 c109_3 rfl ?_
  refine y_iconst 7 c109_5 rfl ?_
  refine y_iconst 9 c109_7 rfl ?_
  refine y_iconst 10 c109_9 rfl ?_
  refine y_iconst 11 c109_10 rfl ?_
  refine y_callP 14 [yI 110, yI 117, yI 108, yI 108, yI 0, yI 0] [.ref 376] c109_11 rfl rfl rfl rfl rfl (ycanS km101) (t101 (by omega) (by omega) (by omega) (by omega) (by omega) (by omega)) (fun r5842 hr5842 => ?_)
  refine y_callP 17 [.ref 376, yI r5842] [] c109_14 rfl rfl rfl rfl rfl (ycanO km102 ko376) (t102 hT (by omega)) (fun r5843 hr5843 => ?_)
  exact y_retP c109_17 (y_fit1 (by omega)) (by omega)
set_option maxRecDepth 100000 in
theorem t110 {L : Nat} {xs : Nat → Int32} {d nn : Nat} {m : yM} (hT : Ty gT m) : YC (gZ L xs) (d + 2) 110 [.ref 376] m nn (qP m nn (fun r => (r = 0 ∨ r = 1) ∧ (r = 1 → m 376 3 = 1))) := by
  refine YC.mkB [some (.ref 376)] kn110 rfl rfl ?_
  refine y_aload 1 c110_0 rfl rfl rfl ?_
  refine y_iconst 3 c110_1 rfl ?_
  refine y_iconst 5 c110_3 rfl ?_
  refine y_iconst 6 c110_5 rfl ?_
  refine y_iconst 7 c110_6 rfl ?_
  refine y_iconst 8 c110_7 rfl ?_
  refine y_iconst 9 c110_8 rfl ?_
  refine y_callP 12 [yI 105, yI 102, yI 0, yI 0, yI 0, yI 0] [.ref 376] c110_9 rfl rfl rfl rfl rfl (ycanS km101) (t101 (by omega) (by omega) (by omega) (by omega) (by omega) (by omega)) (fun r5844 hr5844 => ?_)
  refine y_callP 15 [.ref 376, yI r5844] [] c110_12 rfl rfl rfl rfl rfl (ycanO km102 ko376) (t102 hT (by omega)) (fun r5845 hr5845 => ?_)
  exact y_retP c110_15 (y_fit1 (by omega)) (by omega)
set_option maxRecDepth 100000 in
theorem t111 {L : Nat} {xs : Nat → Int32} {d nn : Nat} {m : yM} (hT : Ty gT m) : YC (gZ L xs) (d + 2) 111 [.ref 376] m nn (qP m nn (fun r => (r = 0 ∨ r = 1) ∧ (r = 1 → m 376 3 = 1))) := by
  refine YC.mkB [some (.ref 376)] kn111 rfl rfl ?_
  refine y_aload 1 c111_0 rfl rfl rfl ?_
  refine y_iconst 3 c111_1 rfl ?_
  refine y_iconst 5 c111_3 rfl ?_
  refine y_iconst 7 c111_5 rfl ?_
  refine y_iconst 9 c111_7 rfl ?_
  refine y_iconst 10 c111_9 rfl ?_
  refine y_iconst 11 c111_10 rfl ?_
  refine y_callP 14 [yI 101, yI 108, yI 115, yI 101, yI 0, yI 0] [.ref 376] c111_11 rfl rfl rfl rfl rfl (ycanS km101) (t101 (by omega) (by omega) (by omega) (by omega) (by omega) (by omega)) (fun r5846 hr5846 => ?_)
  refine y_callP 17 [.ref 376, yI r5846] [] c111_14 rfl rfl rfl rfl rfl (ycanO km102 ko376) (t102 hT (by omega)) (fun r5847 hr5847 => ?_)
  exact y_retP c111_17 (y_fit1 (by omega)) (by omega)
set_option maxRecDepth 100000 in
theorem t112 {L : Nat} {xs : Nat → Int32} {d nn : Nat} {m : yM} (hT : Ty gT m) : YC (gZ L xs) (d + 2) 112 [.ref 376] m nn (qP m nn (fun r => (r = 0 ∨ r = 1) ∧ (r = 1 → m 376 3 = 1))) := by
  refine YC.mkB [some (.ref 376)] kn112 rfl rfl ?_
  refine y_aload 1 c112_0 rfl rfl rfl ?_
  refine y_iconst 3 c112_1 rfl ?_
  refine y_iconst 5 c112_3 rfl ?_
  refine y_iconst 7 c112_5 rfl ?_
  refine y_iconst 9 c112_7 rfl ?_
  refine y_iconst 11 c112_9 rfl ?_
  refine y_iconst 12 c112_11 rfl ?_
  refine y_callP 15 [yI 119, yI 104, yI 105, yI 108, yI 101, yI 0] [.ref 376] c112_12 rfl rfl rfl rfl rfl (ycanS km101) (t101 (by omega) (by omega) (by omega) (by omega) (by omega) (by omega)) (fun r5848 hr5848 => ?_)
  refine y_callP 18 [.ref 376, yI r5848] [] c112_15 rfl rfl rfl rfl rfl (ycanO km102 ko376) (t102 hT (by omega)) (fun r5849 hr5849 => ?_)
  exact y_retP c112_18 (y_fit1 (by omega)) (by omega)
set_option maxRecDepth 100000 in
theorem t113 {L : Nat} {xs : Nat → Int32} {d nn : Nat} {m : yM} (hT : Ty gT m) : YC (gZ L xs) (d + 2) 113 [.ref 376] m nn (qP m nn (fun r => (r = 0 ∨ r = 1) ∧ (r = 1 → m 376 3 = 1))) := by
  refine YC.mkB [some (.ref 376)] kn113 rfl rfl ?_
  refine y_aload 1 c113_0 rfl rfl rfl ?_
  refine y_iconst 3 c113_1 rfl ?_
  refine y_iconst 5 c113_3 rfl ?_
  refine y_iconst 7 c113_5 rfl ?_
  refine y_iconst 9 c113_7 rfl ?_
  refine y_iconst 11 c113_9 rfl ?_
  refine y_iconst 13 c113_11 rfl ?_
  refine y_callP 16 [yI 114, yI 101, yI 116, yI 117, yI 114, yI 110] [.ref 376] c113_13 rfl rfl rfl rfl rfl (ycanS km101) (t101 (by omega) (by omega) (by omega) (by omega) (by omega) (by omega)) (fun r5850 hr5850 => ?_)
  refine y_callP 19 [.ref 376, yI r5850] [] c113_16 rfl rfl rfl rfl rfl (ycanO km102 ko376) (t102 hT (by omega)) (fun r5851 hr5851 => ?_)
  exact y_retP c113_19 (y_fit1 (by omega)) (by omega)
set_option maxRecDepth 100000 in
theorem t114 {L : Nat} {xs : Nat → Int32} {d nn : Nat} {m : yM} (hT : Ty gT m) : YC (gZ L xs) (d + 2) 114 [.ref 376] m nn (qP m nn (fun r => (r = 0 ∨ r = 1) ∧ (r = 1 → m 376 3 = 1))) := by
  refine YC.mkB [some (.ref 376)] kn114 rfl rfl ?_
  refine y_aload 1 c114_0 rfl rfl rfl ?_
  refine y_iconst 3 c114_1 rfl ?_
  refine y_iconst 5 c114_3 rfl ?_
  refine y_iconst 7 c114_5 rfl ?_
  refine y_iconst 9 c114_7 rfl ?_
  refine y_iconst 10 c114_9 rfl ?_
  refine y_iconst 11 c114_10 rfl ?_
  refine y_callP 14 [yI 116, yI 104, yI 105, yI 115, yI 0, yI 0] [.ref 376] c114_11 rfl rfl rfl rfl rfl (ycanS km101) (t101 (by omega) (by omega) (by omega) (by omega) (by omega) (by omega)) (fun r5852 hr5852 => ?_)
  refine y_callP 17 [.ref 376, yI r5852] [] c114_14 rfl rfl rfl rfl rfl (ycanO km102 ko376) (t102 hT (by omega)) (fun r5853 hr5853 => ?_)
  exact y_retP c114_17 (y_fit1 (by omega)) (by omega)
set_option maxRecDepth 100000 in
theorem t115 {L : Nat} {xs : Nat → Int32} {d nn : Nat} {m : yM} (hT : Ty gT m) : YC (gZ L xs) (d + 3) 115 [.ref 376] m nn (qP m nn (fun r => (r = 0 ∨ r = 1) ∧ (r = 1 → m 376 3 = 1))) := by
  refine YC.mkB [some (.ref 376)] kn115 rfl rfl ?_
  refine y_aload 1 c115_0 rfl rfl rfl ?_
  refine y_getX 4 (m 376 3) c115_1 rfl kf376_3 rfl ?_
  have tb5854 := hT.atp 376 3 0 3 rfl
  refine y_iconst 5 c115_4 rfl ?_
  refine y_icmp 82 8 c115_5 rfl rfl (yc_ne (by omega) (by omega)) (fun hb5855 => ?_) (fun hb5855 => ?_)
  · refine y_iconst 83 c115_82 rfl ?_
    exact y_retP c115_83 (y_fit1 (by omega)) (by omega)
  · refine y_aload 9 c115_8 rfl rfl rfl ?_
    refine y_callP 12 [.ref 376] [] c115_9 rfl rfl rfl rfl rfl (ycanO km103 ko376) (t103 hT) (fun r5856 hr5856 => ?_)
    refine y_if 82 15 c115_12 rfl rfl (yz_ne (by omega)) (fun hb5857 => ?_) (fun hb5857 => ?_)
    · refine y_iconst 83 c115_82 rfl ?_
      exact y_retP c115_83 (y_fit1 (by omega)) (by omega)
    · refine y_aload 16 c115_15 rfl rfl rfl ?_
      refine y_callP 19 [.ref 376] [] c115_16 rfl rfl rfl rfl rfl (ycanO km106 ko376) (t106 hT) (fun r5858 hr5858 => ?_)
      refine y_if 82 22 c115_19 rfl rfl (yz_ne (by omega)) (fun hb5859 => ?_) (fun hb5859 => ?_)
      · refine y_iconst 83 c115_82 rfl ?_
        exact y_retP c115_83 (y_fit1 (by omega)) (by omega)
      · refine y_aload 23 c115_22 rfl rfl rfl ?_
        refine y_callP 26 [.ref 376] [] c115_23 rfl rfl rfl rfl rfl (ycanO km107 ko376) (t107 hT) (fun r5860 hr5860 => ?_)
        refine y_if 82 29 c115_26 rfl rfl (yz_ne (by omega)) (fun hb5861 => ?_) (fun hb5861 => ?_)
        · refine y_iconst 83 c115_82 rfl ?_
          exact y_retP c115_83 (y_fit1 (by omega)) (by omega)
        · refine y_aload 30 c115_29 rfl rfl rfl ?_
          refine y_callP 33 [.ref 376] [] c115_30 rfl rfl rfl rfl rfl (ycanO km108 ko376) (t108 hT) (fun r5862 hr5862 => ?_)
          refine y_if 82 36 c115_33 rfl rfl (yz_ne (by omega)) (fun hb5863 => ?_) (fun hb5863 => ?_)
          · refine y_iconst 83 c115_82 rfl ?_
            exact y_retP c115_83 (y_fit1 (by omega)) (by omega)
          · refine y_aload 37 c115_36 rfl rfl rfl ?_
            refine y_callP 40 [.ref 376] [] c115_37 rfl rfl rfl rfl rfl (ycanO km109 ko376) (t109 hT) (fun r5864 hr5864 => ?_)
            refine y_if 82 43 c115_40 rfl rfl (yz_ne (by omega)) (fun hb5865 => ?_) (fun hb5865 => ?_)
            · refine y_iconst 83 c115_82 rfl ?_
              exact y_retP c115_83 (y_fit1 (by omega)) (by omega)
            · refine y_aload 44 c115_43 rfl rfl rfl ?_
              refine y_callP 47 [.ref 376] [] c115_44 rfl rfl rfl rfl rfl (ycanO km110 ko376) (t110 hT) (fun r5866 hr5866 => ?_)
              refine y_if 82 50 c115_47 rfl rfl (yz_ne (by omega)) (fun hb5867 => ?_) (fun hb5867 => ?_)
              · refine y_iconst 83 c115_82 rfl ?_
                exact y_retP c115_83 (y_fit1 (by omega)) (by omega)
              · refine y_aload 51 c115_50 rfl rfl rfl ?_
                refine y_callP 54 [.ref 376] [] c115_51 rfl rfl rfl rfl rfl (ycanO km111 ko376) (t111 hT) (fun r5868 hr5868 => ?_)
                refine y_if 82 57 c115_54 rfl rfl (yz_ne (by omega)) (fun hb5869 => ?_) (fun hb5869 => ?_)
                · refine y_iconst 83 c115_82 rfl ?_
                  exact y_retP c115_83 (y_fit1 (by omega)) (by omega)
                · refine y_aload 58 c115_57 rfl rfl rfl ?_
                  refine y_callP 61 [.ref 376] [] c115_58 rfl rfl rfl rfl rfl (ycanO km112 ko376) (t112 hT) (fun r5870 hr5870 => ?_)
                  refine y_if 82 64 c115_61 rfl rfl (yz_ne (by omega)) (fun hb5871 => ?_) (fun hb5871 => ?_)
                  · refine y_iconst 83 c115_82 rfl ?_
                    exact y_retP c115_83 (y_fit1 (by omega)) (by omega)
                  · refine y_aload 65 c115_64 rfl rfl rfl ?_
                    refine y_callP 68 [.ref 376] [] c115_65 rfl rfl rfl rfl rfl (ycanO km113 ko376) (t113 hT) (fun r5872 hr5872 => ?_)
                    refine y_if 82 71 c115_68 rfl rfl (yz_ne (by omega)) (fun hb5873 => ?_) (fun hb5873 => ?_)
                    · refine y_iconst 83 c115_82 rfl ?_
                      exact y_retP c115_83 (y_fit1 (by omega)) (by omega)
                    · refine y_aload 72 c115_71 rfl rfl rfl ?_
                      refine y_callP 75 [.ref 376] [] c115_72 rfl rfl rfl rfl rfl (ycanO km114 ko376) (t114 hT) (fun r5874 hr5874 => ?_)
                      refine y_if 82 78 c115_75 rfl rfl (yz_ne (by omega)) (fun hb5875 => ?_) (fun hb5875 => ?_)
                      · refine y_iconst 83 c115_82 rfl ?_
                        exact y_retP c115_83 (y_fit1 (by omega)) (by omega)
                      · refine y_iconst 79 c115_78 rfl ?_
                        refine y_goto 83 c115_79 rfl ?_
                        exact y_retP c115_83 (y_fit1 (by omega)) (by omega)
set_option maxRecDepth 100000 in
theorem t117 {L : Nat} {xs : Nat → Int32} {d nn : Nat} {m : yM} {v : Int} (hT : Ty gT m) (hv : -2147483648 ≤ v ∧ v < 2147483648) : YC (gZ L xs) d 117 [.ref 376, yI v] m nn (qP m nn (fun r => (r = 0 ∨ r = 1) ∧ (r = 1 → m 376 3 = 2))) := by
  refine YC.mkB [some (.ref 376), some (yI v)] kn117 rfl rfl ?_
  refine y_aload 1 c117_0 rfl rfl rfl ?_
  refine y_getX 4 (m 376 3) c117_1 rfl kf376_3 rfl ?_
  have tb5876 := hT.atp 376 3 0 3 rfl
  refine y_iconst 5 c117_4 rfl ?_
  refine y_icmp 20 8 c117_5 rfl rfl (yc_ne (by omega) (by omega)) (fun hb5877 => ?_) (fun hb5877 => ?_)
  · refine y_iconst 21 c117_20 rfl ?_
    exact y_retP c117_21 (y_fit1 (by omega)) (by omega)
  · refine y_aload 9 c117_8 rfl rfl rfl ?_
    refine y_getX 12 (m 376 4) c117_9 rfl kf376_4 rfl ?_
    have tb5878 := hT.atp 376 4 ((-2147483648)) 2147483647 rfl
    refine y_iload 13 c117_12 rfl rfl ?_
    refine y_icmp 20 16 c117_13 rfl rfl (yc_ne (by omega) (by omega)) (fun hb5879 => ?_) (fun hb5879 => ?_)
    · refine y_iconst 21 c117_20 rfl ?_
      exact y_retP c117_21 (y_fit1 (by omega)) (by omega)
    · refine y_iconst 17 c117_16 rfl ?_
      refine y_goto 21 c117_17 rfl ?_
      exact y_retP c117_21 (y_fit1 (by omega)) (by omega)
def wNx (a q : Nat) : Bool := a == 376 && (decide (3 ≤ q) && decide (q ≤ 7))
def wNw (a q : Nat) : Bool := a == 376 && (decide (3 ≤ q) && decide (q ≤ 8))
def wWr (a q : Nat) : Bool := a == 376 && q == 8
theorem wNx_wNw : ∀ a q, wNx a q = true → wNw a q = true := by
  intro a q h
  simp [wNx] at h
  simp [wNw]
  omega
theorem wWr_wNw : ∀ a q, wWr a q = true → wNw a q = true := by
  intro a q h
  simp [wWr] at h
  simp [wNw]
  omega
set_option maxRecDepth 100000 in
theorem t99b {L : Nat} {xs : Nat → Int32} {d nn : Nat} {m : yM} (hT : Ty gT m) (hl : m 376 6 ≤ m 376 1) {c : Int} : ∀ (km : Nat) (p : Int) (n : Int) (mi : yM), m 376 1 - p = km → m 376 6 < p ∧ p ≤ m 376 1 → 1 ≤ n ∧ n ≤ p → Ty gT mi → Fr wNx m mi → YW (gZ L xs) 99 (d + 2) 107 [some (.ref 376), some (yI p), some (yI c), some (yI n)] [] mi nn (qU (fun m' n' => n' = nn ∧ Ty gT m' ∧ Fr wNx m m' ∧ m' 376 6 ≤ m' 376 1 ∧ ((m' 376 3 = 0 ∧ m' 376 6 = m 376 6) ∨ (1 ≤ m' 376 3 ∧ m 376 6 < m' 376 6)))) := by
  intro km
  induction km using Nat.strongRecOn with
  | ind km ih =>
    intro p n mi hk hp0 hpn hTi hFi
    have tb1 := hT.atp 376 1 0 320 rfl
    have tb6 := hT.atp 376 6 0 320 rfl
    refine y_iload 108 c99_107 rfl rfl ?_
    refine y_aload 109 c99_108 rfl rfl rfl ?_
    refine y_getX 112 (m 376 1) c99_109 rfl kf376_1 (hFi 376 1 rfl) ?_
    refine y_icmp 165 115 c99_112 rfl rfl (yc_ge (by omega) (by omega)) (fun hb5880 => ?_) (fun hb5880 => ?_)
    · refine y_aload 166 c99_165 rfl rfl rfl ?_
      refine y_iload 167 c99_166 rfl rfl ?_
      refine y_putI 170 c99_167 rfl kf376_6 (y_fit0 _) ?_
      have hT5881 := hTi.up 376 6 p 0 320 rfl (by omega)
      have hF5882 := hFi.up 376 6 p rfl
      refine y_aload 171 c99_170 rfl rfl rfl ?_
      refine y_iload 172 c99_171 rfl rfl ?_
      refine y_iconst 174 c99_172 rfl ?_
      refine y_icmp 181 177 c99_174 rfl rfl (yc_le (by omega) (by omega)) (fun hb5883 => ?_) (fun hb5883 => ?_)
      · refine y_iconst 182 c99_181 rfl ?_
        refine y_putI 185 c99_182 rfl kf376_3 (y_fit0 _) ?_
        have hT5884 := hT5881.up 376 3 1 0 3 rfl (by omega)
        have hF5885 := hF5882.up 376 3 1 rfl
        have es5886 : (yup (yup mi 376 6 p) 376 3 1) 376 1 = m 376 1 := ((yup_nk (by decide)).trans ((yup_nk (by decide)).trans (hFi 376 1 rfl)))
        have es5887 : (yup (yup mi 376 6 p) 376 3 1) 376 3 = 1 := rfl
        have es5888 : (yup (yup mi 376 6 p) 376 3 1) 376 6 = p := rfl
        exact y_retU c99_185 ⟨rfl, hT5884, hF5885, by omega⟩
      · refine y_iconst 178 c99_177 rfl ?_
        refine y_goto 182 c99_178 rfl ?_
        refine y_putI 185 c99_182 rfl kf376_3 (y_fit0 _) ?_
        have hT5889 := hT5881.up 376 3 3 0 3 rfl (by omega)
        have hF5890 := hF5882.up 376 3 3 rfl
        have es5891 : (yup (yup mi 376 6 p) 376 3 3) 376 1 = m 376 1 := ((yup_nk (by decide)).trans ((yup_nk (by decide)).trans (hFi 376 1 rfl)))
        have es5892 : (yup (yup mi 376 6 p) 376 3 3) 376 3 = 3 := rfl
        have es5893 : (yup (yup mi 376 6 p) 376 3 3) 376 6 = p := rfl
        exact y_retU c99_185 ⟨rfl, hT5889, hF5890, by omega⟩
    · refine y_aload 116 c99_115 rfl rfl rfl ?_
      refine y_getR 119 c99_116 rfl kf376_0 ?_
      refine y_iload 120 c99_119 rfl rfl ?_
      refine y_iaT 121 0 255 c99_120 rfl ka377 (by omega) hTi rfl (fun v5894 hv5894 gv5894 => ?_)
      refine y_callP 124 [yI v5894] [] c99_121 rfl rfl rfl rfl rfl (ycanS km98) (t98 (by omega)) (fun r5895 hr5895 => ?_)
      refine y_if 165 127 c99_124 rfl rfl (yz_eq (by omega)) (fun hb5896 => ?_) (fun hb5896 => ?_)
      · refine y_aload 166 c99_165 rfl rfl rfl ?_
        refine y_iload 167 c99_166 rfl rfl ?_
        refine y_putI 170 c99_167 rfl kf376_6 (y_fit0 _) ?_
        have hT5897 := hTi.up 376 6 p 0 320 rfl (by omega)
        have hF5898 := hFi.up 376 6 p rfl
        refine y_aload 171 c99_170 rfl rfl rfl ?_
        refine y_iload 172 c99_171 rfl rfl ?_
        refine y_iconst 174 c99_172 rfl ?_
        refine y_icmp 181 177 c99_174 rfl rfl (yc_le (by omega) (by omega)) (fun hb5899 => ?_) (fun hb5899 => ?_)
        · refine y_iconst 182 c99_181 rfl ?_
          refine y_putI 185 c99_182 rfl kf376_3 (y_fit0 _) ?_
          have hT5900 := hT5897.up 376 3 1 0 3 rfl (by omega)
          have hF5901 := hF5898.up 376 3 1 rfl
          have es5902 : (yup (yup mi 376 6 p) 376 3 1) 376 1 = m 376 1 := ((yup_nk (by decide)).trans ((yup_nk (by decide)).trans (hFi 376 1 rfl)))
          have es5903 : (yup (yup mi 376 6 p) 376 3 1) 376 3 = 1 := rfl
          have es5904 : (yup (yup mi 376 6 p) 376 3 1) 376 6 = p := rfl
          exact y_retU c99_185 ⟨rfl, hT5900, hF5901, by omega⟩
        · refine y_iconst 178 c99_177 rfl ?_
          refine y_goto 182 c99_178 rfl ?_
          refine y_putI 185 c99_182 rfl kf376_3 (y_fit0 _) ?_
          have hT5905 := hT5897.up 376 3 3 0 3 rfl (by omega)
          have hF5906 := hF5898.up 376 3 3 rfl
          have es5907 : (yup (yup mi 376 6 p) 376 3 3) 376 1 = m 376 1 := ((yup_nk (by decide)).trans ((yup_nk (by decide)).trans (hFi 376 1 rfl)))
          have es5908 : (yup (yup mi 376 6 p) 376 3 3) 376 3 = 3 := rfl
          have es5909 : (yup (yup mi 376 6 p) 376 3 3) 376 6 = p := rfl
          exact y_retU c99_185 ⟨rfl, hT5905, hF5906, by omega⟩
      · refine y_iload 128 c99_127 rfl rfl ?_
        refine y_iconst 130 c99_128 rfl ?_
        refine y_icmp 156 133 c99_130 rfl rfl (yc_ge (by omega) (by omega)) (fun hb5910 => ?_) (fun hb5910 => ?_)
        · refine y_iinc 159 c99_156 rfl rfl rfl ?_
          refine y_iinc 162 c99_159 rfl rfl rfl ?_
          refine y_goto 107 c99_162 rfl ?_
          exact ih (m 376 1 - (p + 1) : Int).toNat (by omega) (p + 1) (n + 1)  _ (by omega) (by omega) (by omega) hTi hFi
        · refine y_aload 134 c99_133 rfl rfl rfl ?_
          refine y_iconst 136 c99_134 rfl ?_
          refine y_aload 137 c99_136 rfl rfl rfl ?_
          refine y_getX 140 (mi 376 4) c99_137 rfl kf376_4 rfl ?_
          have tb5911 := hTi.atp 376 4 ((-2147483648)) 2147483647 rfl
          refine y_imul 141 c99_140 rfl ?_
          refine y_aload 142 c99_141 rfl rfl rfl ?_
          refine y_getR 145 c99_142 rfl kf376_0 ?_
          refine y_iload 146 c99_145 rfl rfl ?_
          refine y_iaT 147 0 255 c99_146 rfl ka377 (by omega) hTi rfl (fun v5912 hv5912 gv5912 => ?_)
          refine y_iadd 148 c99_147 rfl ?_
          refine y_iconst 150 c99_148 rfl ?_
          refine y_isub 151 c99_150 rfl ?_
          refine y_iconst 152 c99_151 rfl ?_
          refine y_iadd 153 c99_152 rfl ?_
          refine y_wrap (fun z5913 hz5913 gz5913 => ?_)
          refine y_putI 156 c99_153 rfl kf376_4 (y_fit0 _) ?_
          have hT5914 := hTi.up 376 4 z5913 ((-2147483648)) 2147483647 rfl (by omega)
          have hF5915 := hFi.up 376 4 z5913 rfl
          refine y_iinc 159 c99_156 rfl rfl rfl ?_
          refine y_iinc 162 c99_159 rfl rfl rfl ?_
          refine y_goto 107 c99_162 rfl ?_
          exact ih (m 376 1 - (p + 1) : Int).toNat (by omega) (p + 1) (n + 1)  _ (by omega) (by omega) (by omega) hT5914 hF5915
set_option maxRecDepth 100000 in
theorem t99a {L : Nat} {xs : Nat → Int32} {d nn : Nat} {m : yM} (hT : Ty gT m) (hl : m 376 6 ≤ m 376 1) : ∀ (km : Nat) (p : Int) (mi : yM), m 376 1 - p = km → m 376 6 ≤ p ∧ p ≤ m 376 1 → Ty gT mi → Fr wNx m mi → mi 376 6 = m 376 6 → YW (gZ L xs) 99 (d + 2) 13 [some (.ref 376), some (yI p), none, none] [] mi nn (qU (fun m' n' => n' = nn ∧ Ty gT m' ∧ Fr wNx m m' ∧ m' 376 6 ≤ m' 376 1 ∧ ((m' 376 3 = 0 ∧ m' 376 6 = m 376 6) ∨ (1 ≤ m' 376 3 ∧ m 376 6 < m' 376 6)))) := by
  intro km
  induction km using Nat.strongRecOn with
  | ind km ih =>
    intro p mi hk hp0 hTi hFi h6
    have tb1 := hT.atp 376 1 0 320 rfl
    have tb6 := hT.atp 376 6 0 320 rfl
    refine y_iload 14 c99_13 rfl rfl ?_
    refine y_aload 15 c99_14 rfl rfl rfl ?_
    refine y_getX 18 (m 376 1) c99_15 rfl kf376_1 (hFi 376 1 rfl) ?_
    refine y_icmp 38 21 c99_18 rfl rfl (yc_ge (by omega) (by omega)) (fun hb5916 => ?_) (fun hb5916 => ?_)
    · refine y_aload 39 c99_38 rfl rfl rfl ?_
      refine y_iload 40 c99_39 rfl rfl ?_
      refine y_putI 43 c99_40 rfl kf376_5 (y_fit0 _) ?_
      have hT5917 := hTi.up 376 5 p 0 320 rfl (by omega)
      have hF5918 := hFi.up 376 5 p rfl
      refine y_iload 44 c99_43 rfl rfl ?_
      refine y_aload 45 c99_44 rfl rfl rfl ?_
      refine y_getX 48 (m 376 1) c99_45 rfl kf376_1 ((yup_nk (by decide)).trans (hFi 376 1 rfl)) ?_
      refine y_icmp 57 51 c99_48 rfl rfl (yc_ne (by omega) (by omega)) (fun hb5919 => ?_) (fun hb5919 => ?_)
      · refine y_aload 58 c99_57 rfl rfl rfl ?_
        refine y_getR 61 c99_58 rfl kf376_0 ?_
        refine y_iload 62 c99_61 rfl rfl ?_
        refine y_iaT 63 0 255 c99_62 rfl ka377 (by omega) hT5917 rfl (fun v5920 hv5920 gv5920 => ?_)
        refine y_istore 64 c99_63 rfl rfl ?_
        refine y_aload 65 c99_64 rfl rfl rfl ?_
        refine y_iload 66 c99_65 rfl rfl ?_
        refine y_callP 69 [yI v5920] [.ref 376] c99_66 rfl rfl rfl rfl rfl (ycanS km97) (t97 (by omega)) (fun r5921 hr5921 => ?_)
        refine y_if 76 72 c99_69 rfl rfl (yz_eq (by omega)) (fun hb5922 => ?_) (fun hb5922 => ?_)
        · refine y_iconst 77 c99_76 rfl ?_
          refine y_putI 80 c99_77 rfl kf376_3 (y_fit0 _) ?_
          have hT5923 := hT5917.up 376 3 3 0 3 rfl (by omega)
          have hF5924 := hF5918.up 376 3 3 rfl
          refine y_aload 81 c99_80 rfl rfl rfl ?_
          refine y_iload 82 c99_81 rfl rfl ?_
          refine y_putI 85 c99_82 rfl kf376_4 (y_fit0 _) ?_
          have hT5925 := hT5923.up 376 4 v5920 ((-2147483648)) 2147483647 rfl (by omega)
          have hF5926 := hF5924.up 376 4 v5920 rfl
          refine y_aload 86 c99_85 rfl rfl rfl ?_
          refine y_iload 87 c99_86 rfl rfl ?_
          refine y_iconst 88 c99_87 rfl ?_
          refine y_iadd 89 c99_88 rfl ?_
          refine y_putI 92 c99_89 rfl kf376_6 (y_fit0 _) ?_
          have hT5927 := hT5925.up 376 6 (p + 1) 0 320 rfl (by omega)
          have hF5928 := hF5926.up 376 6 (p + 1) rfl
          refine y_iload 93 c99_92 rfl rfl ?_
          refine y_callP 96 [yI v5920] [] c99_93 rfl rfl rfl rfl rfl (ycanS km98) (t98 (by omega)) (fun r5929 hr5929 => ?_)
          refine y_if 100 99 c99_96 rfl rfl (yz_ne (by omega)) (fun hb5930 => ?_) (fun hb5930 => ?_)
          · refine y_aload 101 c99_100 rfl rfl rfl ?_
            refine y_iconst 102 c99_101 rfl ?_
            refine y_putI 105 c99_102 rfl kf376_4 (y_fit0 _) ?_
            have hT5931 := hT5927.up 376 4 0 ((-2147483648)) 2147483647 rfl (by omega)
            have hF5932 := hF5928.up 376 4 0 rfl
            refine y_iconst 106 c99_105 rfl ?_
            refine y_istore 107 c99_106 rfl rfl ?_
            refine y_iload 108 c99_107 rfl rfl ?_
            refine y_aload 109 c99_108 rfl rfl rfl ?_
            refine y_getX 112 (m 376 1) c99_109 rfl kf376_1 ((yup_nk (by decide)).trans ((yup_nk (by decide)).trans ((yup_nk (by decide)).trans ((yup_nk (by decide)).trans ((yup_nk (by decide)).trans (hFi 376 1 rfl)))))) ?_
            refine y_icmp 165 115 c99_112 rfl rfl (yc_ge (by omega) (by omega)) (fun hb5933 => ?_) (fun hb5933 => ?_)
            · exfalso; omega
            · refine y_aload 116 c99_115 rfl rfl rfl ?_
              refine y_getR 119 c99_116 rfl kf376_0 ?_
              refine y_iload 120 c99_119 rfl rfl ?_
              refine y_iaT 121 0 255 c99_120 rfl ka377 (by omega) hT5931 rfl (fun v5934 hv5934 gv5934 => ?_)
              refine y_callP 124 [yI v5934] [] c99_121 rfl rfl rfl rfl rfl (ycanS km98) (t98 (by omega)) (fun r5935 hr5935 => ?_)
              refine y_if 165 127 c99_124 rfl rfl (yz_eq (by omega)) (fun hb5936 => ?_) (fun hb5936 => ?_)
              · have e9 : v5934 = v5920 ∨ m 376 1 ≤ p := by first | exact Or.inr (by omega) | exact Or.inl (by rw [← hv5934, ← hv5920]; rfl)
                exfalso; omega
              · refine y_iload 128 c99_127 rfl rfl ?_
                refine y_iconst 130 c99_128 rfl ?_
                refine y_icmp 156 133 c99_130 rfl rfl (yc_ge (by omega) (by omega)) (fun hb5937 => ?_) (fun hb5937 => ?_)
                · exfalso; omega
                · refine y_aload 134 c99_133 rfl rfl rfl ?_
                  refine y_iconst 136 c99_134 rfl ?_
                  refine y_aload 137 c99_136 rfl rfl rfl ?_
                  refine y_getX 140 0 c99_137 rfl kf376_4 rfl ?_
                  refine y_imul 141 c99_140 rfl ?_
                  refine y_top 0 (by decide) ?_
                  refine y_aload 142 c99_141 rfl rfl rfl ?_
                  refine y_getR 145 c99_142 rfl kf376_0 ?_
                  refine y_iload 146 c99_145 rfl rfl ?_
                  refine y_iaT 147 0 255 c99_146 rfl ka377 (by omega) hT5931 rfl (fun v5938 hv5938 gv5938 => ?_)
                  refine y_iadd 148 c99_147 rfl ?_
                  refine y_iconst 150 c99_148 rfl ?_
                  refine y_isub 151 c99_150 rfl ?_
                  refine y_iconst 152 c99_151 rfl ?_
                  refine y_iadd 153 c99_152 rfl ?_
                  refine y_putI 156 c99_153 rfl kf376_4 (y_fit0 _) ?_
                  have hT5939 := hT5931.up 376 4 (((0 + v5938) - 97) + 1) ((-2147483648)) 2147483647 rfl (by omega)
                  have hF5940 := hF5932.up 376 4 (((0 + v5938) - 97) + 1) rfl
                  refine y_iincN 159 1 c99_156 rfl rfl (by decide) rfl ?_
                  refine y_iinc 162 c99_159 rfl rfl rfl ?_
                  refine y_goto 107 c99_162 rfl ?_
                  exact t99b hT hl (m 376 1 - (p + 1)).toNat (p + 1) 1 _ (by omega) (by omega) (by omega) hT5939 hF5940
          · have es5941 : (yup (yup (yup (yup mi 376 5 p) 376 3 3) 376 4 v5920) 376 6 (p + 1)) 376 1 = m 376 1 := ((yup_nk (by decide)).trans ((yup_nk (by decide)).trans ((yup_nk (by decide)).trans ((yup_nk (by decide)).trans (hFi 376 1 rfl)))))
            have es5942 : (yup (yup (yup (yup mi 376 5 p) 376 3 3) 376 4 v5920) 376 6 (p + 1)) 376 3 = 3 := rfl
            have es5943 : (yup (yup (yup (yup mi 376 5 p) 376 3 3) 376 4 v5920) 376 6 (p + 1)) 376 6 = p + 1 := rfl
            exact y_retU c99_99 ⟨rfl, hT5927, hF5928, by omega⟩
        · refine y_iconst 73 c99_72 rfl ?_
          refine y_goto 77 c99_73 rfl ?_
          refine y_putI 80 c99_77 rfl kf376_3 (y_fit0 _) ?_
          have hT5944 := hT5917.up 376 3 2 0 3 rfl (by omega)
          have hF5945 := hF5918.up 376 3 2 rfl
          refine y_aload 81 c99_80 rfl rfl rfl ?_
          refine y_iload 82 c99_81 rfl rfl ?_
          refine y_putI 85 c99_82 rfl kf376_4 (y_fit0 _) ?_
          have hT5946 := hT5944.up 376 4 v5920 ((-2147483648)) 2147483647 rfl (by omega)
          have hF5947 := hF5945.up 376 4 v5920 rfl
          refine y_aload 86 c99_85 rfl rfl rfl ?_
          refine y_iload 87 c99_86 rfl rfl ?_
          refine y_iconst 88 c99_87 rfl ?_
          refine y_iadd 89 c99_88 rfl ?_
          refine y_putI 92 c99_89 rfl kf376_6 (y_fit0 _) ?_
          have hT5948 := hT5946.up 376 6 (p + 1) 0 320 rfl (by omega)
          have hF5949 := hF5947.up 376 6 (p + 1) rfl
          refine y_iload 93 c99_92 rfl rfl ?_
          refine y_callP 96 [yI v5920] [] c99_93 rfl rfl rfl rfl rfl (ycanS km98) (t98 (by omega)) (fun r5950 hr5950 => ?_)
          refine y_if 100 99 c99_96 rfl rfl (yz_ne (by omega)) (fun hb5951 => ?_) (fun hb5951 => ?_)
          · refine y_aload 101 c99_100 rfl rfl rfl ?_
            refine y_iconst 102 c99_101 rfl ?_
            refine y_putI 105 c99_102 rfl kf376_4 (y_fit0 _) ?_
            have hT5952 := hT5948.up 376 4 0 ((-2147483648)) 2147483647 rfl (by omega)
            have hF5953 := hF5949.up 376 4 0 rfl
            refine y_iconst 106 c99_105 rfl ?_
            refine y_istore 107 c99_106 rfl rfl ?_
            refine y_iload 108 c99_107 rfl rfl ?_
            refine y_aload 109 c99_108 rfl rfl rfl ?_
            refine y_getX 112 (m 376 1) c99_109 rfl kf376_1 ((yup_nk (by decide)).trans ((yup_nk (by decide)).trans ((yup_nk (by decide)).trans ((yup_nk (by decide)).trans ((yup_nk (by decide)).trans (hFi 376 1 rfl)))))) ?_
            refine y_icmp 165 115 c99_112 rfl rfl (yc_ge (by omega) (by omega)) (fun hb5954 => ?_) (fun hb5954 => ?_)
            · exfalso; omega
            · refine y_aload 116 c99_115 rfl rfl rfl ?_
              refine y_getR 119 c99_116 rfl kf376_0 ?_
              refine y_iload 120 c99_119 rfl rfl ?_
              refine y_iaT 121 0 255 c99_120 rfl ka377 (by omega) hT5952 rfl (fun v5955 hv5955 gv5955 => ?_)
              refine y_callP 124 [yI v5955] [] c99_121 rfl rfl rfl rfl rfl (ycanS km98) (t98 (by omega)) (fun r5956 hr5956 => ?_)
              refine y_if 165 127 c99_124 rfl rfl (yz_eq (by omega)) (fun hb5957 => ?_) (fun hb5957 => ?_)
              · have e9 : v5955 = v5920 ∨ m 376 1 ≤ p := by first | exact Or.inr (by omega) | exact Or.inl (by rw [← hv5955, ← hv5920]; rfl)
                exfalso; omega
              · refine y_iload 128 c99_127 rfl rfl ?_
                refine y_iconst 130 c99_128 rfl ?_
                refine y_icmp 156 133 c99_130 rfl rfl (yc_ge (by omega) (by omega)) (fun hb5958 => ?_) (fun hb5958 => ?_)
                · exfalso; omega
                · refine y_aload 134 c99_133 rfl rfl rfl ?_
                  refine y_iconst 136 c99_134 rfl ?_
                  refine y_aload 137 c99_136 rfl rfl rfl ?_
                  refine y_getX 140 0 c99_137 rfl kf376_4 rfl ?_
                  refine y_imul 141 c99_140 rfl ?_
                  refine y_top 0 (by decide) ?_
                  refine y_aload 142 c99_141 rfl rfl rfl ?_
                  refine y_getR 145 c99_142 rfl kf376_0 ?_
                  refine y_iload 146 c99_145 rfl rfl ?_
                  refine y_iaT 147 0 255 c99_146 rfl ka377 (by omega) hT5952 rfl (fun v5959 hv5959 gv5959 => ?_)
                  refine y_iadd 148 c99_147 rfl ?_
                  refine y_iconst 150 c99_148 rfl ?_
                  refine y_isub 151 c99_150 rfl ?_
                  refine y_iconst 152 c99_151 rfl ?_
                  refine y_iadd 153 c99_152 rfl ?_
                  refine y_putI 156 c99_153 rfl kf376_4 (y_fit0 _) ?_
                  have hT5960 := hT5952.up 376 4 (((0 + v5959) - 97) + 1) ((-2147483648)) 2147483647 rfl (by omega)
                  have hF5961 := hF5953.up 376 4 (((0 + v5959) - 97) + 1) rfl
                  refine y_iincN 159 1 c99_156 rfl rfl (by decide) rfl ?_
                  refine y_iinc 162 c99_159 rfl rfl rfl ?_
                  refine y_goto 107 c99_162 rfl ?_
                  exact t99b hT hl (m 376 1 - (p + 1)).toNat (p + 1) 1 _ (by omega) (by omega) (by omega) hT5960 hF5961
          · have es5962 : (yup (yup (yup (yup mi 376 5 p) 376 3 2) 376 4 v5920) 376 6 (p + 1)) 376 1 = m 376 1 := ((yup_nk (by decide)).trans ((yup_nk (by decide)).trans ((yup_nk (by decide)).trans ((yup_nk (by decide)).trans (hFi 376 1 rfl)))))
            have es5963 : (yup (yup (yup (yup mi 376 5 p) 376 3 2) 376 4 v5920) 376 6 (p + 1)) 376 3 = 2 := rfl
            have es5964 : (yup (yup (yup (yup mi 376 5 p) 376 3 2) 376 4 v5920) 376 6 (p + 1)) 376 6 = p + 1 := rfl
            exact y_retU c99_99 ⟨rfl, hT5948, hF5949, by omega⟩
      · refine y_aload 52 c99_51 rfl rfl rfl ?_
        refine y_iconst 53 c99_52 rfl ?_
        refine y_putI 56 c99_53 rfl kf376_3 (y_fit0 _) ?_
        have hT5965 := hT5917.up 376 3 0 0 3 rfl (by omega)
        have hF5966 := hF5918.up 376 3 0 rfl
        have es5967 : (yup (yup mi 376 5 p) 376 3 0) 376 1 = m 376 1 := ((yup_nk (by decide)).trans ((yup_nk (by decide)).trans (hFi 376 1 rfl)))
        have es5968 : (yup (yup mi 376 5 p) 376 3 0) 376 3 = 0 := rfl
        have es5969 : (yup (yup mi 376 5 p) 376 3 0) 376 6 = mi 376 6 := rfl
        have tb5970 := hTi.atp 376 6 0 320 rfl
        exact y_retU c99_56 ⟨rfl, hT5965, hF5966, by omega⟩
    · refine y_aload 22 c99_21 rfl rfl rfl ?_
      refine y_getR 25 c99_22 rfl kf376_0 ?_
      refine y_iload 26 c99_25 rfl rfl ?_
      refine y_iaT 27 0 255 c99_26 rfl ka377 (by omega) hTi rfl (fun v5971 hv5971 gv5971 => ?_)
      refine y_iconst 29 c99_27 rfl ?_
      refine y_icmp 38 32 c99_29 rfl rfl (yc_ne (by omega) (by omega)) (fun hb5972 => ?_) (fun hb5972 => ?_)
      · refine y_aload 39 c99_38 rfl rfl rfl ?_
        refine y_iload 40 c99_39 rfl rfl ?_
        refine y_putI 43 c99_40 rfl kf376_5 (y_fit0 _) ?_
        have hT5973 := hTi.up 376 5 p 0 320 rfl (by omega)
        have hF5974 := hFi.up 376 5 p rfl
        refine y_iload 44 c99_43 rfl rfl ?_
        refine y_aload 45 c99_44 rfl rfl rfl ?_
        refine y_getX 48 (m 376 1) c99_45 rfl kf376_1 ((yup_nk (by decide)).trans (hFi 376 1 rfl)) ?_
        refine y_icmp 57 51 c99_48 rfl rfl (yc_ne (by omega) (by omega)) (fun hb5975 => ?_) (fun hb5975 => ?_)
        · refine y_aload 58 c99_57 rfl rfl rfl ?_
          refine y_getR 61 c99_58 rfl kf376_0 ?_
          refine y_iload 62 c99_61 rfl rfl ?_
          refine y_iaT 63 0 255 c99_62 rfl ka377 (by omega) hT5973 rfl (fun v5976 hv5976 gv5976 => ?_)
          refine y_istore 64 c99_63 rfl rfl ?_
          refine y_aload 65 c99_64 rfl rfl rfl ?_
          refine y_iload 66 c99_65 rfl rfl ?_
          refine y_callP 69 [yI v5976] [.ref 376] c99_66 rfl rfl rfl rfl rfl (ycanS km97) (t97 (by omega)) (fun r5977 hr5977 => ?_)
          refine y_if 76 72 c99_69 rfl rfl (yz_eq (by omega)) (fun hb5978 => ?_) (fun hb5978 => ?_)
          · refine y_iconst 77 c99_76 rfl ?_
            refine y_putI 80 c99_77 rfl kf376_3 (y_fit0 _) ?_
            have hT5979 := hT5973.up 376 3 3 0 3 rfl (by omega)
            have hF5980 := hF5974.up 376 3 3 rfl
            refine y_aload 81 c99_80 rfl rfl rfl ?_
            refine y_iload 82 c99_81 rfl rfl ?_
            refine y_putI 85 c99_82 rfl kf376_4 (y_fit0 _) ?_
            have hT5981 := hT5979.up 376 4 v5976 ((-2147483648)) 2147483647 rfl (by omega)
            have hF5982 := hF5980.up 376 4 v5976 rfl
            refine y_aload 86 c99_85 rfl rfl rfl ?_
            refine y_iload 87 c99_86 rfl rfl ?_
            refine y_iconst 88 c99_87 rfl ?_
            refine y_iadd 89 c99_88 rfl ?_
            refine y_putI 92 c99_89 rfl kf376_6 (y_fit0 _) ?_
            have hT5983 := hT5981.up 376 6 (p + 1) 0 320 rfl (by omega)
            have hF5984 := hF5982.up 376 6 (p + 1) rfl
            refine y_iload 93 c99_92 rfl rfl ?_
            refine y_callP 96 [yI v5976] [] c99_93 rfl rfl rfl rfl rfl (ycanS km98) (t98 (by omega)) (fun r5985 hr5985 => ?_)
            refine y_if 100 99 c99_96 rfl rfl (yz_ne (by omega)) (fun hb5986 => ?_) (fun hb5986 => ?_)
            · refine y_aload 101 c99_100 rfl rfl rfl ?_
              refine y_iconst 102 c99_101 rfl ?_
              refine y_putI 105 c99_102 rfl kf376_4 (y_fit0 _) ?_
              have hT5987 := hT5983.up 376 4 0 ((-2147483648)) 2147483647 rfl (by omega)
              have hF5988 := hF5984.up 376 4 0 rfl
              refine y_iconst 106 c99_105 rfl ?_
              refine y_istore 107 c99_106 rfl rfl ?_
              refine y_iload 108 c99_107 rfl rfl ?_
              refine y_aload 109 c99_108 rfl rfl rfl ?_
              refine y_getX 112 (m 376 1) c99_109 rfl kf376_1 ((yup_nk (by decide)).trans ((yup_nk (by decide)).trans ((yup_nk (by decide)).trans ((yup_nk (by decide)).trans ((yup_nk (by decide)).trans (hFi 376 1 rfl)))))) ?_
              refine y_icmp 165 115 c99_112 rfl rfl (yc_ge (by omega) (by omega)) (fun hb5989 => ?_) (fun hb5989 => ?_)
              · have e9 : v5976 = v5971 ∨ m 376 1 ≤ p := by first | exact Or.inr (by omega) | exact Or.inl (by rw [← hv5976, ← hv5971]; rfl)
                exfalso; omega
              · refine y_aload 116 c99_115 rfl rfl rfl ?_
                refine y_getR 119 c99_116 rfl kf376_0 ?_
                refine y_iload 120 c99_119 rfl rfl ?_
                refine y_iaT 121 0 255 c99_120 rfl ka377 (by omega) hT5987 rfl (fun v5990 hv5990 gv5990 => ?_)
                refine y_callP 124 [yI v5990] [] c99_121 rfl rfl rfl rfl rfl (ycanS km98) (t98 (by omega)) (fun r5991 hr5991 => ?_)
                refine y_if 165 127 c99_124 rfl rfl (yz_eq (by omega)) (fun hb5992 => ?_) (fun hb5992 => ?_)
                · have e9 : v5990 = v5976 ∨ m 376 1 ≤ p := by first | exact Or.inr (by omega) | exact Or.inl (by rw [← hv5990, ← hv5976]; rfl)
                  exfalso; omega
                · refine y_iload 128 c99_127 rfl rfl ?_
                  refine y_iconst 130 c99_128 rfl ?_
                  refine y_icmp 156 133 c99_130 rfl rfl (yc_ge (by omega) (by omega)) (fun hb5993 => ?_) (fun hb5993 => ?_)
                  · exfalso; omega
                  · refine y_aload 134 c99_133 rfl rfl rfl ?_
                    refine y_iconst 136 c99_134 rfl ?_
                    refine y_aload 137 c99_136 rfl rfl rfl ?_
                    refine y_getX 140 0 c99_137 rfl kf376_4 rfl ?_
                    refine y_imul 141 c99_140 rfl ?_
                    refine y_top 0 (by decide) ?_
                    refine y_aload 142 c99_141 rfl rfl rfl ?_
                    refine y_getR 145 c99_142 rfl kf376_0 ?_
                    refine y_iload 146 c99_145 rfl rfl ?_
                    refine y_iaT 147 0 255 c99_146 rfl ka377 (by omega) hT5987 rfl (fun v5994 hv5994 gv5994 => ?_)
                    refine y_iadd 148 c99_147 rfl ?_
                    refine y_iconst 150 c99_148 rfl ?_
                    refine y_isub 151 c99_150 rfl ?_
                    refine y_iconst 152 c99_151 rfl ?_
                    refine y_iadd 153 c99_152 rfl ?_
                    refine y_putI 156 c99_153 rfl kf376_4 (y_fit0 _) ?_
                    have hT5995 := hT5987.up 376 4 (((0 + v5994) - 97) + 1) ((-2147483648)) 2147483647 rfl (by omega)
                    have hF5996 := hF5988.up 376 4 (((0 + v5994) - 97) + 1) rfl
                    refine y_iincN 159 1 c99_156 rfl rfl (by decide) rfl ?_
                    refine y_iinc 162 c99_159 rfl rfl rfl ?_
                    refine y_goto 107 c99_162 rfl ?_
                    exact t99b hT hl (m 376 1 - (p + 1)).toNat (p + 1) 1 _ (by omega) (by omega) (by omega) hT5995 hF5996
            · have es5997 : (yup (yup (yup (yup mi 376 5 p) 376 3 3) 376 4 v5976) 376 6 (p + 1)) 376 1 = m 376 1 := ((yup_nk (by decide)).trans ((yup_nk (by decide)).trans ((yup_nk (by decide)).trans ((yup_nk (by decide)).trans (hFi 376 1 rfl)))))
              have es5998 : (yup (yup (yup (yup mi 376 5 p) 376 3 3) 376 4 v5976) 376 6 (p + 1)) 376 3 = 3 := rfl
              have es5999 : (yup (yup (yup (yup mi 376 5 p) 376 3 3) 376 4 v5976) 376 6 (p + 1)) 376 6 = p + 1 := rfl
              exact y_retU c99_99 ⟨rfl, hT5983, hF5984, by omega⟩
          · refine y_iconst 73 c99_72 rfl ?_
            refine y_goto 77 c99_73 rfl ?_
            refine y_putI 80 c99_77 rfl kf376_3 (y_fit0 _) ?_
            have hT6000 := hT5973.up 376 3 2 0 3 rfl (by omega)
            have hF6001 := hF5974.up 376 3 2 rfl
            refine y_aload 81 c99_80 rfl rfl rfl ?_
            refine y_iload 82 c99_81 rfl rfl ?_
            refine y_putI 85 c99_82 rfl kf376_4 (y_fit0 _) ?_
            have hT6002 := hT6000.up 376 4 v5976 ((-2147483648)) 2147483647 rfl (by omega)
            have hF6003 := hF6001.up 376 4 v5976 rfl
            refine y_aload 86 c99_85 rfl rfl rfl ?_
            refine y_iload 87 c99_86 rfl rfl ?_
            refine y_iconst 88 c99_87 rfl ?_
            refine y_iadd 89 c99_88 rfl ?_
            refine y_putI 92 c99_89 rfl kf376_6 (y_fit0 _) ?_
            have hT6004 := hT6002.up 376 6 (p + 1) 0 320 rfl (by omega)
            have hF6005 := hF6003.up 376 6 (p + 1) rfl
            refine y_iload 93 c99_92 rfl rfl ?_
            refine y_callP 96 [yI v5976] [] c99_93 rfl rfl rfl rfl rfl (ycanS km98) (t98 (by omega)) (fun r6006 hr6006 => ?_)
            refine y_if 100 99 c99_96 rfl rfl (yz_ne (by omega)) (fun hb6007 => ?_) (fun hb6007 => ?_)
            · refine y_aload 101 c99_100 rfl rfl rfl ?_
              refine y_iconst 102 c99_101 rfl ?_
              refine y_putI 105 c99_102 rfl kf376_4 (y_fit0 _) ?_
              have hT6008 := hT6004.up 376 4 0 ((-2147483648)) 2147483647 rfl (by omega)
              have hF6009 := hF6005.up 376 4 0 rfl
              refine y_iconst 106 c99_105 rfl ?_
              refine y_istore 107 c99_106 rfl rfl ?_
              refine y_iload 108 c99_107 rfl rfl ?_
              refine y_aload 109 c99_108 rfl rfl rfl ?_
              refine y_getX 112 (m 376 1) c99_109 rfl kf376_1 ((yup_nk (by decide)).trans ((yup_nk (by decide)).trans ((yup_nk (by decide)).trans ((yup_nk (by decide)).trans ((yup_nk (by decide)).trans (hFi 376 1 rfl)))))) ?_
              refine y_icmp 165 115 c99_112 rfl rfl (yc_ge (by omega) (by omega)) (fun hb6010 => ?_) (fun hb6010 => ?_)
              · have e9 : v5976 = v5971 ∨ m 376 1 ≤ p := by first | exact Or.inr (by omega) | exact Or.inl (by rw [← hv5976, ← hv5971]; rfl)
                exfalso; omega
              · refine y_aload 116 c99_115 rfl rfl rfl ?_
                refine y_getR 119 c99_116 rfl kf376_0 ?_
                refine y_iload 120 c99_119 rfl rfl ?_
                refine y_iaT 121 0 255 c99_120 rfl ka377 (by omega) hT6008 rfl (fun v6011 hv6011 gv6011 => ?_)
                refine y_callP 124 [yI v6011] [] c99_121 rfl rfl rfl rfl rfl (ycanS km98) (t98 (by omega)) (fun r6012 hr6012 => ?_)
                refine y_if 165 127 c99_124 rfl rfl (yz_eq (by omega)) (fun hb6013 => ?_) (fun hb6013 => ?_)
                · have e9 : v6011 = v5976 ∨ m 376 1 ≤ p := by first | exact Or.inr (by omega) | exact Or.inl (by rw [← hv6011, ← hv5976]; rfl)
                  exfalso; omega
                · refine y_iload 128 c99_127 rfl rfl ?_
                  refine y_iconst 130 c99_128 rfl ?_
                  refine y_icmp 156 133 c99_130 rfl rfl (yc_ge (by omega) (by omega)) (fun hb6014 => ?_) (fun hb6014 => ?_)
                  · exfalso; omega
                  · refine y_aload 134 c99_133 rfl rfl rfl ?_
                    refine y_iconst 136 c99_134 rfl ?_
                    refine y_aload 137 c99_136 rfl rfl rfl ?_
                    refine y_getX 140 0 c99_137 rfl kf376_4 rfl ?_
                    refine y_imul 141 c99_140 rfl ?_
                    refine y_top 0 (by decide) ?_
                    refine y_aload 142 c99_141 rfl rfl rfl ?_
                    refine y_getR 145 c99_142 rfl kf376_0 ?_
                    refine y_iload 146 c99_145 rfl rfl ?_
                    refine y_iaT 147 0 255 c99_146 rfl ka377 (by omega) hT6008 rfl (fun v6015 hv6015 gv6015 => ?_)
                    refine y_iadd 148 c99_147 rfl ?_
                    refine y_iconst 150 c99_148 rfl ?_
                    refine y_isub 151 c99_150 rfl ?_
                    refine y_iconst 152 c99_151 rfl ?_
                    refine y_iadd 153 c99_152 rfl ?_
                    refine y_putI 156 c99_153 rfl kf376_4 (y_fit0 _) ?_
                    have hT6016 := hT6008.up 376 4 (((0 + v6015) - 97) + 1) ((-2147483648)) 2147483647 rfl (by omega)
                    have hF6017 := hF6009.up 376 4 (((0 + v6015) - 97) + 1) rfl
                    refine y_iincN 159 1 c99_156 rfl rfl (by decide) rfl ?_
                    refine y_iinc 162 c99_159 rfl rfl rfl ?_
                    refine y_goto 107 c99_162 rfl ?_
                    exact t99b hT hl (m 376 1 - (p + 1)).toNat (p + 1) 1 _ (by omega) (by omega) (by omega) hT6016 hF6017
            · have es6018 : (yup (yup (yup (yup mi 376 5 p) 376 3 2) 376 4 v5976) 376 6 (p + 1)) 376 1 = m 376 1 := ((yup_nk (by decide)).trans ((yup_nk (by decide)).trans ((yup_nk (by decide)).trans ((yup_nk (by decide)).trans (hFi 376 1 rfl)))))
              have es6019 : (yup (yup (yup (yup mi 376 5 p) 376 3 2) 376 4 v5976) 376 6 (p + 1)) 376 3 = 2 := rfl
              have es6020 : (yup (yup (yup (yup mi 376 5 p) 376 3 2) 376 4 v5976) 376 6 (p + 1)) 376 6 = p + 1 := rfl
              exact y_retU c99_99 ⟨rfl, hT6004, hF6005, by omega⟩
        · refine y_aload 52 c99_51 rfl rfl rfl ?_
          refine y_iconst 53 c99_52 rfl ?_
          refine y_putI 56 c99_53 rfl kf376_3 (y_fit0 _) ?_
          have hT6021 := hT5973.up 376 3 0 0 3 rfl (by omega)
          have hF6022 := hF5974.up 376 3 0 rfl
          have es6023 : (yup (yup mi 376 5 p) 376 3 0) 376 1 = m 376 1 := ((yup_nk (by decide)).trans ((yup_nk (by decide)).trans (hFi 376 1 rfl)))
          have es6024 : (yup (yup mi 376 5 p) 376 3 0) 376 3 = 0 := rfl
          have es6025 : (yup (yup mi 376 5 p) 376 3 0) 376 6 = mi 376 6 := rfl
          have tb6026 := hTi.atp 376 6 0 320 rfl
          exact y_retU c99_56 ⟨rfl, hT6021, hF6022, by omega⟩
      · refine y_iinc 35 c99_32 rfl rfl rfl ?_
        refine y_goto 13 c99_35 rfl ?_
        exact ih (m 376 1 - (p + 1) : Int).toNat (by omega) (p + 1)  _ (by omega) (by omega) hTi hFi h6
set_option maxRecDepth 100000 in
theorem t99 {L : Nat} {xs : Nat → Int32} {d nn : Nat} {m : yM} (hT : Ty gT m) (hl : m 376 6 ≤ m 376 1) : YC (gZ L xs) (d + 2) 99 [.ref 376] m nn (qU (fun m' n' => n' = nn ∧ Ty gT m' ∧ Fr wNx m m' ∧ m' 376 6 ≤ m' 376 1 ∧ ((m' 376 3 = 0 ∧ m' 376 6 = m 376 6) ∨ (1 ≤ m' 376 3 ∧ m 376 6 < m' 376 6)))) := by
  refine YC.mkB [some (.ref 376), none, none, none] kn99 rfl rfl ?_
  have hF : Fr wNx m m := Fr.rf
  refine y_aload 1 c99_0 rfl rfl rfl ?_
  refine y_aload 2 c99_1 rfl rfl rfl ?_
  refine y_getX 5 (m 376 6) c99_2 rfl kf376_6 rfl ?_
  have tb6027 := hT.atp 376 6 0 320 rfl
  refine y_putI 8 c99_5 rfl kf376_7 (y_fit0 _) ?_
  have hT6028 := hT.up 376 7 (m 376 6) 0 320 rfl (by omega)
  have hF6029 := hF.up 376 7 (m 376 6) rfl
  refine y_aload 9 c99_8 rfl rfl rfl ?_
  refine y_getX 12 (m 376 6) c99_9 rfl kf376_6 rfl ?_
  refine y_istore 13 c99_12 rfl rfl ?_
  have tb1 := hT.atp 376 1 0 320 rfl
  have tb6 := hT.atp 376 6 0 320 rfl
  exact t99a hT hl (m 376 1 - m 376 6).toNat (m 376 6) _ (by omega) (by omega) hT6028 hF6029 rfl
theorem t99u {L : Nat} {xs : Nat → Int32} {d nn : Nat} {m : yM} (hT : Ty gT m) (hl : m 376 6 ≤ m 376 1) : YC (gZ L xs) (d + 2) 99 [.ref 376] m nn (qU (fun m' n' => n' = nn ∧ Ty gT m' ∧ Fr wNx m m' ∧ m' 376 6 ≤ m' 376 1 ∧ mu m' ≤ mu m ∧ (m 376 3 ≠ 0 → mu m' < mu m))) := by
  refine YC.mono (t99 hT hl) (fun o m' n' h => ?_)
  obtain ⟨rfl, rfl, h1, h2, h3, h4⟩ := h
  have h5 := mu_le (h2 376 1 rfl) h4
  exact ⟨rfl, rfl, h1, h2, h3, h5.1, h5.2⟩
set_option maxRecDepth 100000 in
theorem t104 {L : Nat} {xs : Nat → Int32} {d nn : Nat} {m : yM} (hT : Ty gT m) : YC (gZ L xs) d 104 [.ref 376] m nn (qU (fun m' n' => n' = nn ∧ Ty gT m' ∧ Fr wWr m m' ∧ 0 ≤ m' 376 8)) := by
  refine YC.mkB [some (.ref 376)] kn104 rfl rfl ?_
  have hF : Fr wWr m m := Fr.rf
  refine y_aload 1 c104_0 rfl rfl rfl ?_
  refine y_getX 4 (m 376 8) c104_1 rfl kf376_8 rfl ?_
  have tb6030 := hT.atp 376 8 ((-1)) 320 rfl
  refine y_if 29 7 c104_4 rfl rfl (yz_ge (by omega)) (fun hb6031 => ?_) (fun hb6031 => ?_)
  · exact y_retU c104_29 ⟨rfl, hT, hF, by omega⟩
  · refine y_aload 8 c104_7 rfl rfl rfl ?_
    refine y_aload 9 c104_8 rfl rfl rfl ?_
    refine y_getX 12 (m 376 3) c104_9 rfl kf376_3 rfl ?_
    have tb6032 := hT.atp 376 3 0 3 rfl
    refine y_if 22 15 c104_12 rfl rfl (yz_ne (by omega)) (fun hb6033 => ?_) (fun hb6033 => ?_)
    · refine y_aload 23 c104_22 rfl rfl rfl ?_
      refine y_getX 26 (m 376 5) c104_23 rfl kf376_5 rfl ?_
      have tb6034 := hT.atp 376 5 0 320 rfl
      refine y_putI 29 c104_26 rfl kf376_8 (y_fit0 _) ?_
      have hT6035 := hT.up 376 8 (m 376 5) ((-1)) 320 rfl (by omega)
      have hF6036 := hF.up 376 8 (m 376 5) rfl
      have es6037 : (yup m 376 8 (m 376 5)) 376 8 = m 376 5 := rfl
      exact y_retU c104_29 ⟨rfl, hT6035, hF6036, by omega⟩
    · refine y_aload 16 c104_15 rfl rfl rfl ?_
      refine y_getX 19 (m 376 7) c104_16 rfl kf376_7 rfl ?_
      have tb6038 := hT.atp 376 7 0 320 rfl
      refine y_goto 26 c104_19 rfl ?_
      refine y_putI 29 c104_26 rfl kf376_8 (y_fit0 _) ?_
      have hT6039 := hT.up 376 8 (m 376 7) ((-1)) 320 rfl (by omega)
      have hF6040 := hF.up 376 8 (m 376 7) rfl
      have es6041 : (yup m 376 8 (m 376 7)) 376 8 = m 376 7 := rfl
      exact y_retU c104_29 ⟨rfl, hT6039, hF6040, by omega⟩
set_option maxRecDepth 100000 in
theorem t105 {L : Nat} {xs : Nat → Int32} {d nn : Nat} {m : yM} {g : Int} (hT : Ty gT m) (hl : m 376 6 ≤ m 376 1) (hg : g = 0 ∨ g = 1) : YC (gZ L xs) (d + 3) 105 [.ref 376, yI g] m nn (qI (fun r m' n' => n' = nn ∧ Ty gT m' ∧ Fr wNw m m' ∧ m' 376 6 ≤ m' 376 1 ∧ ((r = 0 ∧ 0 ≤ m' 376 8 ∧ mu m' = mu m) ∨ (r = 1 ∧ g = 1 ∧ m 376 8 < 0 ∧ m' 376 8 < 0 ∧ mu m' ≤ mu m ∧ (m 376 3 ≠ 0 → mu m' < mu m))))) := by
  have tb8 := hT.atp 376 8 (-1) 320 rfl
  refine YC.mkB [some (.ref 376), some (yI g)] kn105 rfl rfl ?_
  have hF : Fr wNw m m := Fr.rf
  refine y_iload 1 c105_0 rfl rfl ?_
  refine y_if 8 4 c105_1 rfl rfl (yz_ne (by omega)) (fun hb6042 => ?_) (fun hb6042 => ?_)
  · refine y_aload 9 c105_8 rfl rfl rfl ?_
    refine y_getX 12 (m 376 8) c105_9 rfl kf376_8 rfl ?_
    have tb6043 := hT.atp 376 8 ((-1)) 320 rfl
    refine y_if 17 15 c105_12 rfl rfl (yz_lt (by omega)) (fun hb6044 => ?_) (fun hb6044 => ?_)
    · refine y_aload 18 c105_17 rfl rfl rfl ?_
      have tb6046 := hT.atp 376 1 0 320 rfl
      have tb6047 := hT.atp 376 3 0 3 rfl
      have tb6048 := hT.atp 376 6 0 320 rfl
      refine y_callUB 21 [.ref 376] [] c105_18 rfl rfl rfl rfl rfl (ycanO km99 ko376) (t99u hT (by omega)) (fun mq6045 nq6045 hq6045 => ?_)
      obtain ⟨rfl, hTq6045, hFq6045, hq6045⟩ := hq6045
      have hF6049 := hF.tr hFq6045 wNx_wNw
      refine y_iconst 22 c105_21 rfl ?_
      have es6050 : mq6045 376 1 = m 376 1 := (hFq6045 376 1 rfl)
      have tb6051 := hTq6045.atp 376 3 0 3 rfl
      have tb6052 := hTq6045.atp 376 6 0 320 rfl
      have es6053 : mq6045 376 8 = m 376 8 := (hFq6045 376 8 rfl)
      exact y_retI c105_22 (y_fit1 (by omega)) ⟨rfl, hTq6045, hF6049, by omega, by omega⟩
    · refine y_iconst 16 c105_15 rfl ?_
      have tb6054 := hT.atp 376 1 0 320 rfl
      have tb6055 := hT.atp 376 3 0 3 rfl
      have tb6056 := hT.atp 376 6 0 320 rfl
      exact y_retI c105_16 (y_fit1 (by omega)) ⟨rfl, hT, hF, by omega, by omega⟩
  · refine y_aload 5 c105_4 rfl rfl rfl ?_
    have tb6058 := hT.atp 376 1 0 320 rfl
    have tb6059 := hT.atp 376 3 0 3 rfl
    have tb6060 := hT.atp 376 6 0 320 rfl
    have tb6061 := hT.atp 376 8 ((-1)) 320 rfl
    refine y_callUB 8 [.ref 376] [] c105_5 rfl rfl rfl rfl rfl (ycanO km104 ko376) (t104 hT) (fun mq6057 nq6057 hq6057 => ?_)
    obtain ⟨rfl, hTq6057, hFq6057, hq6057⟩ := hq6057
    have hF6062 := hF.tr hFq6057 wWr_wNw
    refine y_aload 9 c105_8 rfl rfl rfl ?_
    refine y_getX 12 (mq6057 376 8) c105_9 rfl kf376_8 rfl ?_
    have tb6063 := hTq6057.atp 376 8 ((-1)) 320 rfl
    refine y_if 17 15 c105_12 rfl rfl (yz_lt (by omega)) (fun hb6064 => ?_) (fun hb6064 => ?_)
    · refine y_aload 18 c105_17 rfl rfl rfl ?_
      have es6066 : mq6057 376 1 = m 376 1 := (hFq6057 376 1 rfl)
      have es6067 : mq6057 376 3 = m 376 3 := (hFq6057 376 3 rfl)
      have es6068 : mq6057 376 6 = m 376 6 := (hFq6057 376 6 rfl)
      have em6069 : mu mq6057 = mu m := mu_fr (hFq6057 376 1 rfl) (hFq6057 376 3 rfl) (hFq6057 376 6 rfl)
      refine y_callUB 21 [.ref 376] [] c105_18 rfl rfl rfl rfl rfl (ycanO km99 ko376) (t99u hTq6057 (by omega)) (fun mq6065 nq6065 hq6065 => ?_)
      obtain ⟨rfl, hTq6065, hFq6065, hq6065⟩ := hq6065
      have hF6070 := hF6062.tr hFq6065 wNx_wNw
      refine y_iconst 22 c105_21 rfl ?_
      have es6071 : mq6065 376 1 = m 376 1 := ((hFq6065 376 1 rfl).trans (hFq6057 376 1 rfl))
      have tb6072 := hTq6065.atp 376 3 0 3 rfl
      have tb6073 := hTq6065.atp 376 6 0 320 rfl
      have es6074 : mq6065 376 8 = mq6057 376 8 := (hFq6065 376 8 rfl)
      exact y_retI c105_22 (y_fit1 (by omega)) ⟨rfl, hTq6065, hF6070, by omega, by omega⟩
    · refine y_iconst 16 c105_15 rfl ?_
      have es6075 : mq6057 376 1 = m 376 1 := (hFq6057 376 1 rfl)
      have es6076 : mq6057 376 3 = m 376 3 := (hFq6057 376 3 rfl)
      have es6077 : mq6057 376 6 = m 376 6 := (hFq6057 376 6 rfl)
      have em6078 : mu mq6057 = mu m := mu_fr (hFq6057 376 1 rfl) (hFq6057 376 3 rfl) (hFq6057 376 6 rfl)
      exact y_retI c105_16 (y_fit1 (by omega)) ⟨rfl, hTq6057, hF6062, by omega, by omega⟩
set_option maxRecDepth 100000 in
theorem t118 {L : Nat} {xs : Nat → Int32} {d nn : Nat} {m : yM} {v : Int} (hT : Ty gT m) (hl : m 376 6 ≤ m 376 1) (hv : -2147483648 ≤ v ∧ v < 2147483648) : YC (gZ L xs) (d + 4) 118 [.ref 376, yI v] m nn (qI (fun r m' n' => n' = nn ∧ Ty gT m' ∧ Fr wNw m m' ∧ m' 376 6 ≤ m' 376 1 ∧ ((r = 0 ∧ 0 ≤ m' 376 8 ∧ mu m' = mu m) ∨ (r = 1 ∧ m 376 8 < 0 ∧ m' 376 8 < 0 ∧ mu m' < mu m)))) := by
  have tb8 := hT.atp 376 8 (-1) 320 rfl
  refine YC.mkB [some (.ref 376), some (yI v)] kn118 rfl rfl ?_
  have hF : Fr wNw m m := Fr.rf
  refine y_aload 1 c118_0 rfl rfl rfl ?_
  refine y_aload 2 c118_1 rfl rfl rfl ?_
  refine y_iload 3 c118_2 rfl rfl ?_
  have tb6079 := hT.atp 376 3 0 3 rfl
  refine y_callP 6 [.ref 376, yI v] [.ref 376] c118_3 rfl rfl rfl rfl rfl (ycanO km117 ko376) (t117 hT (by omega)) (fun r6080 hr6080 => ?_)
  have tb6082 := hT.atp 376 1 0 320 rfl
  have tb6083 := hT.atp 376 6 0 320 rfl
  have tb6084 := hT.atp 376 8 ((-1)) 320 rfl
  refine y_callIB 9 [.ref 376, yI r6080] [] c118_6 rfl rfl rfl rfl rfl (ycanO km105 ko376) (t105 (g := r6080) hT (by omega) (by omega)) (fun rq6081 mq6081 nq6081 hq6081 => ?_)
  obtain ⟨rfl, hTq6081, hFq6081, hq6081⟩ := hq6081
  have hF6085 := hF.tr hFq6081 (fun _ _ e => e)
  have es6086 : mq6081 376 1 = m 376 1 := (hFq6081 376 1 rfl)
  have tb6087 := hTq6081.atp 376 3 0 3 rfl
  have tb6088 := hTq6081.atp 376 6 0 320 rfl
  have tb6089 := hTq6081.atp 376 8 ((-1)) 320 rfl
  exact y_retI c118_9 (y_fit1 (by omega)) ⟨rfl, hTq6081, hF6085, by omega, by omega⟩
end
